theorem or_z {a b : Int64} : a ||| b = 0 ↔ a = 0 ∧ b = 0 := by
  rw [← Int64.toBitVec_inj, ← Int64.toBitVec_inj, ← Int64.toBitVec_inj, Int64.toBitVec_or]
  exact BitVec.or_eq_zero_iff
theorem VL_inj {f h : Nat → Int64} {n : Nat} : (∀ k, k < n → dg (f k)) → (∀ k, k < n → dg (h k)) → VL f n = VL h n → ∀ k, k < n → f k = h k := by
  induction n with
  | zero =>
    intro _ _ _ k hk
    exact absurd hk (Nat.not_lt_zero _)
  | succ n ih =>
    intro hf hh e k hk
    have l1 : ¬ (f n).toInt < (h n).toInt := fun q => Int.ne_of_lt (VL_lex (Nat.lt_succ_self n) hf hh (fun j a b => absurd b (by omega)) q) e
    have l2 : ¬ (h n).toInt < (f n).toInt := fun q => Int.ne_of_lt (VL_lex (Nat.lt_succ_self n) hh hf (fun j a b => absurd b (by omega)) q) e.symm
    have en : f n = h n := i64_eq_of (by omega)
    have e2 : VL f n + (f n).toInt * 268435456 ^ n = VL h n + (h n).toInt * 268435456 ^ n := e
    rw [en] at e2
    by_cases c : k = n
    · rw [c]
      exact en
    · exact ih (fun j hj => hf j (by omega)) (fun j hj => hh j (by omega)) (by generalize (h n).toInt * 268435456 ^ n = z at e2; omega) k (by omega)
theorem NV.zero {fd : Nat → Int64} {s : Nat} {x : Int} (h : NV fd s x) (hd : DD fd) (hs : s < 170) : (∀ k, k < 14 → fd (14 * s + k) = 0) ↔ x = 0 := by
  constructor
  · intro hz
    exact h.symm.trans (VL_zero (f := fun k => fd (14 * s + k)) hz)
  · intro hx
    exact VL_zinv (f := fun k => fd (14 * s + k)) (fun k hk => hd _ (by omega)) (h.trans hx)
theorem NV.same {fd : Nat → Int64} {s t : Nat} {x y : Int} (h : NV fd s x) (h2 : NV fd t y) (hd : DD fd) (hs : s < 170) (ht : t < 170) : (∀ k, k < 14 → fd (14 * s + k) = fd (14 * t + k)) ↔ x = y := by
  constructor
  · intro hz
    exact h.symm.trans ((VL_ext (f := fun k => fd (14 * s + k)) (h := fun k => fd (14 * t + k)) hz).trans h2)
  · intro hx
    exact VL_inj (f := fun k => fd (14 * s + k)) (h := fun k => fd (14 * t + k)) (fun k hk => hd _ (by omega)) (fun k hk => hd _ (by omega)) (h.trans (hx.trans h2.symm))
theorem un_e (c9 : Nat) : (RI + (-1 : Int64).toInt) / 2 ^ c9 = (eU c9 : Int) := by
  rw [show RI + (-1 : Int64).toInt = RI - 1 by decide +kernel]
  exact eU_I c9
set_option maxHeartbeats 4000000 in
set_option maxRecDepth 100000 in
theorem N_Model_isZero (l : Launch) (g : WG) (n0 : Nat → Prop) (mo a : Nat) (th pw td wr : Int32) (w n : Nat) (hw : WH w n) (fd : Nat → Int64) (ha : a < 170) (X : Int) (hX : NV fd a X) : Ctr l y_Model_isZero (.code y_Model_isZero prog_11_method_10_code 5 (some FieldType.boolean)) 1 22 0 0 n0 g [.ref mo, .int (nI a)] (fun H => MS g n0 H mo th pw td wr w n fd) (QI (fun r H H' => ((r = 1 ∧ X = 0) ∨ (r = 0 ∧ X ≠ 0)) ∧ H' = H)) := by
  refine ctr_mk l (lv0 := [(0, .ref mo), (1, .int (nI a))]) (by decide) (Nat.le_of_ble_eq_true rfl) rfl ?_
  intro p e s m below meth c ls E hr hlk hnm hl hP
  have hx := E.1
  have hb := E.2.1
  have hK := E.2.2.2.2.2
  have hF : ∀ q ∈ ([] : List Loc), n0 q.base := fun q hq => absurd hq List.not_mem_nil
  obtain ⟨hmo, hpr, ⟨fa, hab, had⟩, ⟨fc, hac⟩, hfd, hDD, hn01, hn05⟩ := id hP
  obtain ⟨hpd, hn1, hn14, hw1, hPT, hP1, hT0, hT1⟩ := wh_kP hw
  have hzz := hX.zero hDD ha
  have loop : ∀ (k : Nat) (i : Nat) (locs : List Loc) (ls : Array Slot) (v : Int64), i + k = 14 → (v = 0 ↔ ∀ k, k < i → fd (14 * a + k) = 0) → (∀ q ∈ locs, n0 q.base) → lv_has ls 5 [(4, .int (nI i)), (2, .long v), (0, .ref mo), (1, .int (nI a))] → W p l e { frames := 1, cells := 0, slots := 0, locals := 22 } s m [.ref mo, .int (nI a)].toArray below meth c s.heap locs 0 0 (MQ below (QcP (QI (fun r H H' => ((r = 1 ∧ X = 0) ∨ (r = 0 ∧ X ≠ 0)) ∧ H' = H))) [.ref mo, .int (nI a)].toArray s 0 0 (fun q => n0 q)) (F0 m 5 ls []) := by
    intro k
    induction k with
    | zero =>
      intro  i   locs   ls   v hi hv hF hl
      obtain rfl : i = 14 := by omega
      refine lv_iload hx hb d_Model_isZero_5 (lv_at hl 0 rfl) ?_
      refine lv_bipush (v := nI 14) hx hb d_Model_isZero_7 (by decide) ?_
      refine lv_icmp_ge (tgt := 28) hx hb d_Model_isZero_9 (by decide) (fun _ => ?_) (fun h9 => absurd (by decide) h9)
      refine lv_lload_n hx hb d_Model_isZero_28 rfl (lv_at hl 1 rfl) ?_
      refine lv_lconst (v := 0) hx hb d_Model_isZero_29 (by decide) ?_
      refine W.lcmp hx hb d_Model_isZero_30 ?_
      refine lv_if_ne (tgt := 38) hx hb d_Model_isZero_31 (by decide) (fun hc => ?_) (fun hc => ?_)
      rotate_left
      · skip
        refine lv_iconst (v := nI 1) hx hb d_Model_isZero_34 (by decide) ?_
        refine lv_goto (tgt := 39) hx hb d_Model_isZero_35 (by decide) ?_
        exact q_zret E hr rfl hlk (⟨_, rfl, Or.inl ⟨rfl, hzz.mp (hv.mp (cmp_eq hc))⟩, rfl⟩) hF d_Model_isZero_39
      refine lv_iconst (v := nI 0) hx hb d_Model_isZero_38 (by decide) ?_
      exact q_zret E hr rfl hlk (⟨_, rfl, Or.inr ⟨rfl, fun hz => hc ((lg_cmp_eq _ _).mpr (hv.mpr (hzz.mpr hz)))⟩, rfl⟩) hF d_Model_isZero_39
    | succ k ih =>
      intro  i   locs   ls   v hi hv hF hl
      refine lv_iload hx hb d_Model_isZero_5 (lv_at hl 0 rfl) ?_
      refine lv_bipush (v := nI 14) hx hb d_Model_isZero_7 (by decide) ?_
      refine lv_icmp_ge (tgt := 28) hx hb d_Model_isZero_9 (by decide) (fun h9 => absurd h9 (nI_ge (by omega) (by decide))) (fun _ => ?_)
      refine lv_lload_n hx hb d_Model_isZero_12 rfl (lv_at hl 1 rfl) ?_
      refine lv_aload_n hx hb d_Model_isZero_13 rfl (lv_at hl 2 rfl) ?_
      refine lv_iload_n hx hb d_Model_isZero_14 rfl (lv_at hl 3 rfl) ?_
      refine lv_iload hx hb d_Model_isZero_15 (lv_at hl 0 rfl) ?_
      refine q_cV (rest := [.long v]) E (c_Model_limb l g n0 mo a i th (nI w) (nI n) pw td wr fd ha (by omega)) w_979 w_15 w_976 w_978 (bw_s 18 rfl) hd_Model_limb rfl ⟨by decide, by decide⟩ (OB.recv E.2.2.2.2.2 (by rfl) hmo) (⟨hmo, hfd⟩) hF hl.1 rfl (Nat.le_of_ble_eq_true rfl) d_Model_isZero_17 ⟨by decide, by decide⟩ (ql (fun v1 H1 locs hq hF => ?_))
      obtain ⟨hq, hq9⟩ := hq
      obtain rfl := hq9
      subst hq
      refine lv_lor hx hb d_Model_isZero_20 ?_
      refine lv_lstore_n (lv' := [(2, .long (v ||| (fd (14 * a + i)))), (4, .int (nI i)), (0, .ref mo), (1, .int (nI a))]) hx hb d_Model_isZero_21 rfl hl (by decide) rfl (fun ls hl => ?_)
      refine lv_iinc (k := 1) (v := nI (i + 1)) (lv' := [(4, .int (nI (i + 1))), (2, .long (v ||| (fd (14 * a + i)))), (0, .ref mo), (1, .int (nI a))]) hx hb d_Model_isZero_22 hl rfl (i_inc i) (by decide) rfl (fun ls hl => ?_)
      refine lv_goto (tgt := 5) hx hb d_Model_isZero_25 (by decide) ?_
      have hl : lv_has ls 5 [(4, .int (nI (i + 1))), (2, .long (v ||| (fd (14 * a + i)))), (0, .ref mo), (1, .int (nI a))] := lv_sub hl [0, 1, 2, 3] rfl
      exact ih (i + 1) _ ls _ (by omega) ⟨fun h k hk => by have h := or_z.mp h; by_cases e : k = i; (subst e; exact h.2); (exact hv.mp h.1 k (by omega)), fun h => or_z.mpr ⟨hv.mpr (fun k hk => h k (by omega)), h i (by omega)⟩⟩ hF hl
  refine lv_lconst (v := 0) hx hb d_Model_isZero_0 (by decide) ?_
  refine lv_lstore_n (lv' := [(2, .long 0), (0, .ref mo), (1, .int (nI a))]) hx hb d_Model_isZero_1 rfl hl (by decide) rfl (fun ls hl => ?_)
  refine lv_iconst (v := nI 0) hx hb d_Model_isZero_2 (by decide) ?_
  refine lv_istore (lv' := [(4, .int (nI 0)), (2, .long 0), (0, .ref mo), (1, .int (nI a))]) hx hb d_Model_isZero_3 hl (by decide) rfl (fun ls hl => ?_)
  have hl : lv_has ls 5 [(4, .int (nI 0)), (2, .long 0), (0, .ref mo), (1, .int (nI a))] := lv_sub hl [0, 1, 2, 3] rfl
  exact loop 14 0 [] ls _ (by omega) ⟨fun _ k hk => absurd hk (Nat.not_lt_zero _), fun _ => rfl⟩ hF hl
set_option maxHeartbeats 4000000 in
set_option maxRecDepth 100000 in
theorem N_Model_isSame (l : Launch) (g : WG) (n0 : Nat → Prop) (mo a b : Nat) (th pw td wr : Int32) (w n : Nat) (hw : WH w n) (fd : Nat → Int64) (ha : a < 170) (hb1 : b < 170) (X Y : Int) (hX : NV fd a X) (hY : NV fd b Y) : Ctr l y_Model_isSame (.code y_Model_isSame prog_11_method_11_code 5 (some FieldType.boolean)) 1 22 0 0 n0 g [.ref mo, .int (nI a), .int (nI b)] (fun H => MS g n0 H mo th pw td wr w n fd) (QI (fun r H H' => ((r = 1 ∧ X = Y) ∨ (r = 0 ∧ X ≠ Y)) ∧ H' = H)) := by
  refine ctr_mk l (lv0 := [(0, .ref mo), (1, .int (nI a)), (2, .int (nI b))]) (by decide) (Nat.le_of_ble_eq_true rfl) rfl ?_
  intro p e s m below meth c ls E hr hlk hnm hl hP
  have hx := E.1
  have hb := E.2.1
  have hK := E.2.2.2.2.2
  have hF : ∀ q ∈ ([] : List Loc), n0 q.base := fun q hq => absurd hq List.not_mem_nil
  obtain ⟨hmo, hpr, ⟨fa, hab, had⟩, ⟨fc, hac⟩, hfd, hDD, hn01, hn05⟩ := id hP
  obtain ⟨hpd, hn1, hn14, hw1, hPT, hP1, hT0, hT1⟩ := wh_kP hw
  have hzz := hX.same hY hDD ha hb1
  have loop : ∀ (k : Nat) (i : Nat) (locs : List Loc) (ls : Array Slot) (v : Int32), i + k = 14 → ((v = 1 ∧ (∀ k, k < i → fd (14 * a + k) = fd (14 * b + k))) ∨ (v = 0 ∧ ¬ (∀ k, k < i → fd (14 * a + k) = fd (14 * b + k)))) → (∀ q ∈ locs, n0 q.base) → lv_has ls 5 [(4, .int (nI i)), (3, .int v), (0, .ref mo), (1, .int (nI a)), (2, .int (nI b))] → W p l e { frames := 1, cells := 0, slots := 0, locals := 22 } s m [.ref mo, .int (nI a), .int (nI b)].toArray below meth c s.heap locs 0 0 (MQ below (QcP (QI (fun r H H' => ((r = 1 ∧ X = Y) ∨ (r = 0 ∧ X ≠ Y)) ∧ H' = H))) [.ref mo, .int (nI a), .int (nI b)].toArray s 0 0 (fun q => n0 q)) (F0 m 5 ls []) := by
    intro k
    induction k with
    | zero =>
      intro  i   locs   ls   v hi hv hF hl
      obtain rfl : i = 14 := by omega
      refine lv_iload hx hb d_Model_isSame_5 (lv_at hl 0 rfl) ?_
      refine lv_bipush (v := nI 14) hx hb d_Model_isSame_7 (by decide) ?_
      refine lv_icmp_ge (tgt := 46) hx hb d_Model_isSame_9 (by decide) (fun _ => ?_) (fun h9 => absurd (by decide) h9)
      refine lv_iload_n hx hb d_Model_isSame_46 rfl (lv_at hl 1 rfl) ?_
      exact q_zret E hr (by rcases hv with h | h <;> rw [h.1] <;> rfl) hlk (⟨_, rfl, hv.elim (fun h => Or.inl ⟨h.1, hzz.mp h.2⟩) (fun h => Or.inr ⟨h.1, fun e => h.2 (hzz.mpr e)⟩), rfl⟩) hF d_Model_isSame_47
    | succ k ih =>
      intro  i   locs   ls   v hi hv hF hl
      refine lv_iload hx hb d_Model_isSame_5 (lv_at hl 0 rfl) ?_
      refine lv_bipush (v := nI 14) hx hb d_Model_isSame_7 (by decide) ?_
      refine lv_icmp_ge (tgt := 46) hx hb d_Model_isSame_9 (by decide) (fun h9 => absurd h9 (nI_ge (by omega) (by decide))) (fun _ => ?_)
      refine lv_iload_n hx hb d_Model_isSame_12 rfl (lv_at hl 1 rfl) ?_
      refine lv_if_eq (tgt := 38) hx hb d_Model_isSame_13 (by decide) (fun hc => ?_) (fun hc => ?_)
      rotate_left
      · skip
        have hv1 : (∀ k, k < i → fd (14 * a + k) = fd (14 * b + k)) := hv.elim (fun h => h.2) (fun h => absurd h.1 hc)
        refine lv_aload_n hx hb d_Model_isSame_16 rfl (lv_at hl 2 rfl) ?_
        refine lv_iload_n hx hb d_Model_isSame_17 rfl (lv_at hl 3 rfl) ?_
        refine lv_iload hx hb d_Model_isSame_18 (lv_at hl 0 rfl) ?_
        refine q_cV (rest := []) E (c_Model_limb l g n0 mo a i th (nI w) (nI n) pw td wr fd ha (by omega)) w_979 w_15 w_976 w_978 (bw_s 18 rfl) hd_Model_limb rfl ⟨by decide, by decide⟩ (OB.recv E.2.2.2.2.2 (by rfl) hmo) (⟨hmo, hfd⟩) hF hl.1 rfl (Nat.le_of_ble_eq_true rfl) d_Model_isSame_20 ⟨by decide, by decide⟩ (ql (fun v1 H1 locs hq hF => ?_))
        obtain ⟨hq, hq9⟩ := hq
        obtain rfl := hq9
        subst hq
        refine lv_aload_n hx hb d_Model_isSame_23 rfl (lv_at hl 2 rfl) ?_
        refine lv_iload_n hx hb d_Model_isSame_24 rfl (lv_at hl 4 rfl) ?_
        refine lv_iload hx hb d_Model_isSame_25 (lv_at hl 0 rfl) ?_
        refine q_cV (rest := [.long (fd (14 * a + i))]) E (c_Model_limb l g n0 mo b i th (nI w) (nI n) pw td wr fd hb1 (by omega)) w_979 w_15 w_976 w_978 (bw_s 18 rfl) hd_Model_limb rfl ⟨by decide, by decide⟩ (OB.recv E.2.2.2.2.2 (by rfl) hmo) (⟨hmo, hfd⟩) hF hl.1 rfl (Nat.le_of_ble_eq_true rfl) d_Model_isSame_27 ⟨by decide, by decide⟩ (ql (fun v2 H2 locs hq hF => ?_))
        obtain ⟨hq, hq9⟩ := hq
        obtain rfl := hq9
        subst hq
        refine W.lcmp hx hb d_Model_isSame_30 ?_
        refine lv_if_ne (tgt := 38) hx hb d_Model_isSame_31 (by decide) (fun hd => ?_) (fun hd => ?_)
        rotate_left
        · skip
          refine lv_iconst (v := nI 1) hx hb d_Model_isSame_34 (by decide) ?_
          refine lv_goto (tgt := 39) hx hb d_Model_isSame_35 (by decide) ?_
          refine lv_istore_n (lv' := [(3, .int (nI 1)), (4, .int (nI i)), (0, .ref mo), (1, .int (nI a)), (2, .int (nI b))]) hx hb d_Model_isSame_39 rfl hl (by decide) rfl (fun ls hl => ?_)
          refine lv_iinc (k := 1) (v := nI (i + 1)) (lv' := [(4, .int (nI (i + 1))), (3, .int (nI 1)), (0, .ref mo), (1, .int (nI a)), (2, .int (nI b))]) hx hb d_Model_isSame_40 hl rfl (i_inc i) (by decide) rfl (fun ls hl => ?_)
          refine lv_goto (tgt := 5) hx hb d_Model_isSame_43 (by decide) ?_
          have hl : lv_has ls 5 [(4, .int (nI (i + 1))), (3, .int (nI 1)), (0, .ref mo), (1, .int (nI a)), (2, .int (nI b))] := lv_sub hl [0, 1, 2, 3, 4] rfl
          exact ih (i + 1) _ ls _ (by omega) (Or.inl ⟨rfl, fun k hk => by by_cases e : k = i; (subst e; exact cmp_eq hd); (exact hv1 k (by omega))⟩) hF hl
        refine lv_iconst (v := nI 0) hx hb d_Model_isSame_38 (by decide) ?_
        refine lv_istore_n (lv' := [(3, .int (nI 0)), (4, .int (nI i)), (0, .ref mo), (1, .int (nI a)), (2, .int (nI b))]) hx hb d_Model_isSame_39 rfl hl (by decide) rfl (fun ls hl => ?_)
        refine lv_iinc (k := 1) (v := nI (i + 1)) (lv' := [(4, .int (nI (i + 1))), (3, .int (nI 0)), (0, .ref mo), (1, .int (nI a)), (2, .int (nI b))]) hx hb d_Model_isSame_40 hl rfl (i_inc i) (by decide) rfl (fun ls hl => ?_)
        refine lv_goto (tgt := 5) hx hb d_Model_isSame_43 (by decide) ?_
        have hl : lv_has ls 5 [(4, .int (nI (i + 1))), (3, .int (nI 0)), (0, .ref mo), (1, .int (nI a)), (2, .int (nI b))] := lv_sub hl [0, 1, 2, 3, 4] rfl
        exact ih (i + 1) _ ls _ (by omega) (Or.inr ⟨rfl, fun h => hd ((lg_cmp_eq _ _).mpr (h i (by omega)))⟩) hF hl
      refine lv_iconst (v := nI 0) hx hb d_Model_isSame_38 (by decide) ?_
      refine lv_istore_n (lv' := [(3, .int (nI 0)), (4, .int (nI i)), (0, .ref mo), (1, .int (nI a)), (2, .int (nI b))]) hx hb d_Model_isSame_39 rfl hl (by decide) rfl (fun ls hl => ?_)
      refine lv_iinc (k := 1) (v := nI (i + 1)) (lv' := [(4, .int (nI (i + 1))), (3, .int (nI 0)), (0, .ref mo), (1, .int (nI a)), (2, .int (nI b))]) hx hb d_Model_isSame_40 hl rfl (i_inc i) (by decide) rfl (fun ls hl => ?_)
      refine lv_goto (tgt := 5) hx hb d_Model_isSame_43 (by decide) ?_
      have hl : lv_has ls 5 [(4, .int (nI (i + 1))), (3, .int (nI 0)), (0, .ref mo), (1, .int (nI a)), (2, .int (nI b))] := lv_sub hl [0, 1, 2, 3, 4] rfl
      exact ih (i + 1) _ ls _ (by omega) (Or.inr ⟨rfl, fun h => hv.elim (fun h2 => absurd (h2.1.symm.trans hc) (by decide)) (fun h2 => h2.2 (fun k hk => h k (by omega)))⟩) hF hl
  refine lv_iconst (v := nI 1) hx hb d_Model_isSame_0 (by decide) ?_
  refine lv_istore_n (lv' := [(3, .int (nI 1)), (0, .ref mo), (1, .int (nI a)), (2, .int (nI b))]) hx hb d_Model_isSame_1 rfl hl (by decide) rfl (fun ls hl => ?_)
  refine lv_iconst (v := nI 0) hx hb d_Model_isSame_2 (by decide) ?_
  refine lv_istore (lv' := [(4, .int (nI 0)), (3, .int (nI 1)), (0, .ref mo), (1, .int (nI a)), (2, .int (nI b))]) hx hb d_Model_isSame_3 hl (by decide) rfl (fun ls hl => ?_)
  have hl : lv_has ls 5 [(4, .int (nI 0)), (3, .int (nI 1)), (0, .ref mo), (1, .int (nI a)), (2, .int (nI b))] := lv_sub hl [0, 1, 2, 3, 4] rfl
  exact loop 14 0 [] ls _ (by omega) (Or.inl ⟨rfl, fun k hk => absurd hk (Nat.not_lt_zero _)⟩) hF hl
set_option maxHeartbeats 4000000 in
set_option maxRecDepth 100000 in
theorem N_Model_unit (l : Launch) (g : WG) (n0 : Nat → Prop) (mo r c9 : Nat) (th pw td wr : Int32) (w n : Nat) (hw : WH w n) (fd fa : Nat → Int64) (hmn : n0 mo) (hr1 : r < 170) (hc9 : c9 < 2147483648) (hAT : (∀ j, j ≤ 10 → PP 1 10 ∣ VL (fun k => fa (210 * 1 + 14 * j + k)) 10 - 268435456 ^ (10 + j))) : Ctr l y_Model_unit (.code y_Model_unit prog_11_method_43_code 3 none) 4 103 0 0 n0 g [.ref mo, .int (nI r), .int (nI c9)] (fun H => MS g n0 H mo th pw td wr w n fd ∧ AJ g H (mo + 4) 420 fa) (QV (fun H H' => FRM (MR mo) H H' ∧ AJ g H' (mo + 4) 420 fa ∧ ∃ fd', MS g n0 H' mo th pw td wr 1 10 fd' ∧ (∀ j, ¬ (14 * 121 ≤ j ∧ j < 14 * 123) → ¬ (14 * 145 ≤ j ∧ j < 14 * 147) → (j < 14 * r ∨ 14 * r + 14 ≤ j) → fd' j = fd j) ∧ NV fd' r (7 ^ eU c9 % RI))) := by
  refine ctr_mk l (lv0 := [(0, .ref mo), (1, .int (nI r)), (2, .int (nI c9))]) (by decide) (Nat.le_of_ble_eq_true rfl) rfl ?_
  intro p e s m below meth c ls E hr hlk hnm hl hP
  have hx := E.1
  have hb := E.2.1
  have hK := E.2.2.2.2.2
  have hF : ∀ q ∈ ([] : List Loc), n0 q.base := fun q hq => absurd hq List.not_mem_nil
  obtain ⟨hm, hab⟩ := hP
  refine lv_aload_n hx hb d_Model_unit_0 rfl (lv_at hl 0 rfl) ?_
  refine lv_iconst (v := nI 1) hx hb d_Model_unit_1 (by decide) ?_
  refine q_cV (rest := []) E (c_Model_use l g n0 mo th pw td wr w n hw 1 10 w1 fd hmn) w_967 w_15 w_964 w_966 (bw_s 15 rfl) hd_Model_use rfl ⟨by decide, by decide⟩ (OB.recv E.2.2.2.2.2 (by rfl) hm.1) hm hF hl.1 rfl (Nat.le_of_ble_eq_true rfl) d_Model_unit_2 ⟨by decide, by decide⟩ (qv (fun H1 locs hq hF => ?_))
  obtain ⟨hq, hm⟩ := hq
  have hab := AJ.off hq (by unfold MR; omega) hab
  have hfr := hq
  refine lv_aload_n hx hb d_Model_unit_5 rfl (lv_at hl 0 rfl) ?_
  refine lv_sipush (v := nI 145) hx hb d_Model_unit_6 (by decide) ?_
  refine lv_ldc2 (v := -1) hx hb E.2.2.2.1 (E.2.2.2.2.1 _ w_1140) d_Model_unit_9 ?_
  refine q_cV (rest := []) E (N_Model_primeAnd l g n0 mo 145 (-1) th pw td wr fd (by decide) (by decide)) w_1122 w_15 w_1119 w_1121 (bw_s 34 rfl) hd_Model_primeAnd rfl ⟨by decide, by decide⟩ (OB.recv E.2.2.2.2.2 (by rfl) hm.1) hm hF hl.1 rfl (Nat.le_of_ble_eq_true rfl) d_Model_unit_12 ⟨by decide, by decide⟩ (qv (fun H2 locs hq hF => ?_))
  obtain ⟨hq, fd1, hm, ho1, hn1⟩ := hq
  have hab := AJ.off hq (by unfold MR; omega) hab
  have hfr := hfr.tr hq
  refine lv_aload_n hx hb d_Model_unit_15 rfl (lv_at hl 0 rfl) ?_
  refine lv_sipush (v := nI 145) hx hb d_Model_unit_16 (by decide) ?_
  refine lv_iload_n hx hb d_Model_unit_19 rfl (lv_at hl 2 rfl) ?_
  refine q_cV (rest := []) E (N_Model_halves l g n0 mo 145 c9 th pw td wr 1 10 w1 fd1 (by decide) hc9 _ hn1) w_1144 w_15 w_1141 w_1143 (bw_s 37 rfl) hd_Model_halves rfl ⟨by decide, by decide⟩ (OB.recv E.2.2.2.2.2 (by rfl) hm.1) hm hF hl.1 rfl (Nat.le_of_ble_eq_true rfl) d_Model_unit_20 ⟨by decide, by decide⟩ (qv (fun H3 locs hq hF => ?_))
  obtain ⟨hq, fd2, hm, ho2, hn2⟩ := hq
  have hab := AJ.off hq (by unfold MR; omega) hab
  have hfr := hfr.tr hq
  have hn2 : NV fd2 145 (eU c9 : Int) := hn2.trans (un_e c9)
  refine lv_aload_n hx hb d_Model_unit_23 rfl (lv_at hl 0 rfl) ?_
  refine lv_sipush (v := nI 146) hx hb d_Model_unit_24 (by decide) ?_
  refine lv_ldc2 (v := 7) hx hb E.2.2.2.1 (E.2.2.2.2.1 _ w_935) d_Model_unit_27 ?_
  refine q_cV (rest := []) E (N_Model_small l g n0 mo 146 7 th pw td wr 1 10 w1 fd2 (by decide) (by decide)) w_1084 w_15 w_1081 w_1083 (bw_s 28 rfl) hd_Model_small rfl ⟨by decide, by decide⟩ (OB.recv E.2.2.2.2.2 (by rfl) hm.1) hm hF hl.1 rfl (Nat.le_of_ble_eq_true rfl) d_Model_unit_30 ⟨by decide, by decide⟩ (qv (fun H4 locs hq hF => ?_))
  obtain ⟨hq, fd3, hm, ho3, hn3⟩ := hq
  have hab := AJ.off hq (by unfold MR; omega) hab
  have hfr := hfr.tr hq
  have hn3 : NV fd3 146 7 := hn3.trans (by decide)
  refine lv_aload_n hx hb d_Model_unit_33 rfl (lv_at hl 0 rfl) ?_
  refine lv_iload_n hx hb d_Model_unit_34 rfl (lv_at hl 1 rfl) ?_
  refine lv_sipush (v := nI 146) hx hb d_Model_unit_35 (by decide) ?_
  refine lv_sipush (v := nI 145) hx hb d_Model_unit_38 (by decide) ?_
  refine q_cV (rest := []) E (N_Model_raise l g n0 mo r 146 145 th pw td wr fd3 fa hr1 (by decide) (by decide) hAT 7 (eU c9) hn3 (by decide) (hn2.off ho3 (by decide)) (by decide)) w_1126 w_15 w_1123 w_1125 (bw_s 35 rfl) hd_Model_raise rfl ⟨by decide, by decide⟩ (OB.recv E.2.2.2.2.2 (by rfl) hm.1) (⟨hm, hab⟩) hF hl.1 rfl (Nat.le_of_ble_eq_true rfl) d_Model_unit_41 ⟨by decide, by decide⟩ (qv (fun H5 locs hq hF => ?_))
  obtain ⟨hq, hab, fd4, hm, ho4, hn4⟩ := hq
  exact q_vret E hr hlk (⟨rfl, hfr.tr hq, hab, fd4, hm, fun j h1 h2 h3 => (ho4 j h1 h3).trans ((ho3 j (by omega)).trans ((ho2 j (by omega)).trans (ho1 j (by omega)))), hn4⟩) hF d_Model_unit_44
