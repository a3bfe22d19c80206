theorem bit8 : ∀ v, v < 256 → ∀ i, i < 8 → ((nI v) >>> ((nI i) &&& 31)) &&& (nI 1) = nI (v / 2 ^ i % 2) := by decide +kernel
theorem sh_1 : ∀ o, o < 28 → ((1 : Int64) <<< ((nI o).toInt64 &&& 63)).toInt = ((1 * 2 ^ o : Nat) : Int) := by decide +kernel
theorem pw_splitG {m : Nat} : (2 ^ m : Nat) = 2 ^ (m % 28) * 268435456 ^ (m / 28) := by
  rw [show (268435456 : Nat) = 2 ^ 28 from rfl, ← Nat.pow_mul, ← Nat.pow_add, Nat.mod_add_div]
theorem SV_upd {fd : Nat → Int64} {a q : Nat} {x : Int64} (hq : q < 14) : SV (vp_updL fd (14 * a + q) x) a 14 = VL (vp_updL (fun k => fd (14 * a + k)) q x) 14 := by
  unfold SV
  refine VL_ext (fun k hk => ?_)
  by_cases e : k = q
  · subst e
    simp [vp_updL]
  · simp [vp_updL, e, show 14 * a + k ≠ 14 * a + q by omega]
/-- one bit more -/
theorem setb {fd fd1 : Nat → Int64} {a kb i v : Nat} (hkb : kb < 32) (hi : i < 8) (hD : DD fd1) (ha : a < 170) (hV : SV fd a 14 < ((256 ^ kb : Nat) : Int)) (hS : SV fd1 a 14 = SV fd a 14 + ((v % 2 ^ i * 256 ^ kb : Nat) : Int)) (hb : v / 2 ^ i % 2 = 1) :
    SV (vp_updL fd1 (14 * a + (8 * kb + i) / 28) (fd1 (14 * a + (8 * kb + i) / 28) ||| ((1 : Int64) <<< ((nI (8 * kb + i - (8 * kb + i) / 28 * 28)).toInt64 &&& 63)))) a 14 = SV fd a 14 + ((v % 2 ^ (i + 1) * 256 ^ kb : Nat) : Int) := by
  have eo : 8 * kb + i - (8 * kb + i) / 28 * 28 = (8 * kb + i) % 28 := by omega
  rw [eo]
  have hq : (8 * kb + i) / 28 < 14 := by omega
  have ho : (8 * kb + i) % 28 < 28 := Nat.mod_lt _ (by decide)
  have hpw : (2 ^ i * 256 ^ kb : Nat) = 2 ^ ((8 * kb + i) % 28) * 268435456 ^ ((8 * kb + i) / 28) := by
    rw [← pw_splitG, show (256 : Nat) = 2 ^ 8 from rfl, ← Nat.pow_mul, ← Nat.pow_add, Nat.add_comm]
  generalize (8 * kb + i) % 28 = o at *
  generalize (8 * kb + i) / 28 = q at *
  have hB : ((2 ^ i * 256 ^ kb : Nat) : Int) = ((2 ^ o : Nat) : Int) * 268435456 ^ q := by
    rw [hpw, Int.natCast_mul]
    congr 1
  have hm1 : v % 2 ^ i * 256 ^ kb + 256 ^ kb ≤ 2 ^ i * 256 ^ kb := by
    have h1 := Nat.mul_le_mul_right (256 ^ kb) (Nat.succ_le_of_lt (Nat.mod_lt v (Nat.two_pow_pos i)))
    rw [Nat.succ_mul] at h1
    exact h1
  have hlt : SV fd1 a 14 < ((2 ^ o : Nat) : Int) * 268435456 ^ q := by
    rw [← hB, hS]
    omega
  have hy := sh_1 o ho
  have hz : 1 * 2 ^ o < 268435456 := by
    have := p2_27 ho
    omega
  have r := orv (f := fun k => fd1 (14 * a + k)) hq ho (fun k hk => hD _ (by omega)) hlt hy hz
  rw [SV_upd hq, r.2, hy, show VL (fun k => fd1 (14 * a + k)) 14 = SV fd1 a 14 from rfl, hS, Nat.one_mul, ← hB, Nat.mod_pow_succ, hb, Nat.mul_one, Nat.add_mul]
  omega
theorem setb0 {i v kb : Nat} (hb : v / 2 ^ i % 2 ≠ 1) : ((v % 2 ^ i * 256 ^ kb : Nat) : Int) = ((v % 2 ^ (i + 1) * 256 ^ kb : Nat) : Int) := by
  have h0 : v / 2 ^ i % 2 = 0 := by omega
  rw [Nat.mod_pow_succ, h0, Nat.mul_zero, Nat.add_zero]
/-- what number answers of a tape -/
def NB (r : Int32) (t : Nat → Nat) (tn : Nat) : Prop := (tn ≤ 32 ∧ ((r = 1 ∧ (tvN t tn : Int) < VL kR 14) ∨ (r = 0 ∧ VL kR 14 ≤ (tvN t tn : Int)))) ∨ (32 < tn ∧ r = 0)
theorem NB.eq {r r' : Int32} {t : Nat → Nat} {tn : Nat} (h : NB r t tn) (h' : NB r' t tn) : r = r' := by
  rcases h with ⟨h1, ⟨h2, h3⟩ | ⟨h2, h3⟩⟩ | ⟨h1, h2⟩ <;> rcases h' with ⟨k1, ⟨k2, k3⟩ | ⟨k2, k3⟩⟩ | ⟨k1, k2⟩ <;> first | omega | (rw [h2, k2])
set_option maxHeartbeats 4000000 in
set_option maxRecDepth 100000 in
theorem X_Model_setByte (l : Launch) (g : WG) (n0 : Nat → Prop) (mo a kb v : Nat) (th pw td wr : Int32) (w n : Nat) (hw : WH w n) (fd : Nat → Int64) (ha : a < 170) (hkb : kb < 32) (hv : v < 256) (hV : SV fd a 14 < ((256 ^ kb : Nat) : Int)) : Ctr l y_Model_setByte (.code y_Model_setByte prog_11_method_25_code 5 none) 0 0 0 0 n0 g [.ref mo, .int (nI a), .int (nI kb), .int (nI v)] (fun H => MS g n0 H mo th pw td wr w n fd) (QV (fun H H' => FRM (MR mo) H H' ∧ ∃ fd', MS g n0 H' mo th pw td wr w n fd' ∧ SV fd' a 14 = SV fd a 14 + ((v * 256 ^ kb : Nat) : Int))) := by
  refine ctr_mk l (lv0 := [(0, .ref mo), (1, .int (nI a)), (2, .int (nI kb)), (3, .int (nI v))]) (by decide) (Nat.le_of_ble_eq_true rfl) rfl ?_
  intro p e s m below meth c ls E hr hlk hnm hl hP
  have hx := E.1
  have hb := E.2.1
  have hK := E.2.2.2.2.2
  have hF : ∀ q ∈ ([] : List Loc), n0 q.base := fun q hq => absurd hq List.not_mem_nil
  have hm := hP
  have hDD := hm.2.2.2.2.2.1
  obtain ⟨hpd, hn1, hn14, hw1, hPT, hP1, hT0, hT1⟩ := wh_kP hw
  have hfr : FRM (MR mo) s.heap s.heap := FRM.rf
  have loop : ∀ (k : Nat) (i : Nat) (H : Heap) (locs : List Loc) (ls : Array Slot) (fd1 : Nat → Int64), i + k = 8 → FRM (MR mo) s.heap H → MS g n0 H mo th pw td wr w n fd1 → SV fd1 a 14 = SV fd a 14 + ((v % 2 ^ i * 256 ^ kb : Nat) : Int) → (∀ q ∈ locs, n0 q.base) → lv_has ls 5 [(4, .int (nI i)), (0, .ref mo), (1, .int (nI a)), (2, .int (nI kb)), (3, .int (nI v))] → W p l e { frames := 0, cells := 0, slots := 0, locals := 0 } s m [.ref mo, .int (nI a), .int (nI kb), .int (nI v)].toArray below meth c H locs 0 0 (MQ below (QcP (QV (fun H H' => FRM (MR mo) H H' ∧ ∃ fd', MS g n0 H' mo th pw td wr w n fd' ∧ SV fd' a 14 = SV fd a 14 + ((v * 256 ^ kb : Nat) : Int)))) [.ref mo, .int (nI a), .int (nI kb), .int (nI v)].toArray s 0 0 (fun q => n0 q)) (F0 m 3 ls []) := by
    intro k
    induction k with
    | zero =>
      intro  i   H   locs   ls   fd1 hi hfr hm hS hF hl
      obtain rfl : i = 8 := by omega
      refine lv_iload hx hb d_Model_setByte_3 (lv_at hl 0 rfl) ?_
      refine lv_bipush (v := nI 8) hx hb d_Model_setByte_5 (by decide) ?_
      refine lv_icmp_ge (tgt := 61) hx hb d_Model_setByte_7 (by decide) (fun _ => ?_) (fun h9 => absurd (by decide) h9)
      rw [Nat.mod_eq_of_lt (show v < 2 ^ 8 from hv)] at hS
      exact q_vret E hr hlk (⟨rfl, hfr, _, hm, hS⟩) hF d_Model_setByte_61
    | succ k ih =>
      intro  i   H   locs   ls   fd1 hi hfr hm hS hF hl
      refine lv_iload hx hb d_Model_setByte_3 (lv_at hl 0 rfl) ?_
      refine lv_bipush (v := nI 8) hx hb d_Model_setByte_5 (by decide) ?_
      refine lv_icmp_ge (tgt := 61) hx hb d_Model_setByte_7 (by decide) (fun h9 => absurd h9 (nI_ge (by omega) (by decide))) (fun _ => ?_)
      refine lv_iload_n hx hb d_Model_setByte_10 rfl (lv_at hl 4 rfl) ?_
      refine lv_iload hx hb d_Model_setByte_11 (lv_at hl 0 rfl) ?_
      refine lv_ishr hx hb d_Model_setByte_13 ?_
      refine lv_iconst (v := nI 1) hx hb d_Model_setByte_14 (by decide) ?_
      refine lv_iand hx hb d_Model_setByte_15 ?_
      refine lv_topi (fun t9 e9 => ?_)
      obtain rfl : t9 = nI (v / 2 ^ i % 2) := e9.trans (bit8 v hv i (by omega))
      refine lv_iconst (v := nI 1) hx hb d_Model_setByte_16 (by decide) ?_
      refine lv_icmp_ne (tgt := 55) hx hb d_Model_setByte_17 (by decide) (fun hc => ?_) (fun hc => ?_)
      rotate_left
      · skip
        have hc : v / 2 ^ i % 2 = 1 := (nI_eq (by omega) (by decide)).mp hc
        have hD := hm.2.2.2.2.2.1
        refine lv_aload_n hx hb d_Model_setByte_20 rfl (lv_at hl 1 rfl) ?_
        refine q_get (C := "KateDeskModel") (T := T_Model) (N := 14) (ci := 8) E hm.1 in_Model rfl 1 (by decide) w_1002 rfl rfl d_Model_setByte_21 ?_
        refine lv_bipush (v := nI 14) hx hb d_Model_setByte_24 (by decide) ?_
        refine lv_iload_n hx hb d_Model_setByte_26 rfl (lv_at hl 2 rfl) ?_
        refine lv_imul hx hb d_Model_setByte_27 ?_
        refine lv_topi (fun t9 e9 => ?_)
        obtain rfl : t9 = nI (14 * a) := e9.trans (pk_mul _ _)
        refine lv_bipush (v := nI 8) hx hb d_Model_setByte_28 (by decide) ?_
        refine lv_iload_n hx hb d_Model_setByte_30 rfl (lv_at hl 3 rfl) ?_
        refine lv_imul hx hb d_Model_setByte_31 ?_
        refine lv_topi (fun t9 e9 => ?_)
        obtain rfl : t9 = nI (8 * kb) := e9.trans (pk_mul _ _)
        refine lv_iload hx hb d_Model_setByte_32 (lv_at hl 0 rfl) ?_
        refine lv_iadd hx hb d_Model_setByte_34 ?_
        refine lv_topi (fun t9 e9 => ?_)
        obtain rfl : t9 = nI ((8 * kb) + i) := e9.trans (nI_add _ _)
        refine lv_bipush (v := nI 28) hx hb d_Model_setByte_35 (by decide) ?_
        refine lv_idiv hx hb d_Model_setByte_37 (by decide) ?_
        refine lv_topi (fun t9 e9 => ?_)
        obtain rfl : t9 = nI ((8 * kb + i) / 28) := e9.trans (pk_div (by omega) (by decide) (by decide))
        refine lv_iadd hx hb d_Model_setByte_38 ?_
        refine lv_topi (fun t9 e9 => ?_)
        obtain rfl : t9 = nI ((14 * a) + ((8 * kb + i) / 28)) := e9.trans (nI_add _ _)
        refine lv_dup2_11 hx hb d_Model_setByte_39 rfl rfl ?_
        refine q_lald (N := 2380) (f := fd1) E hm.2.2.2.2.1 (14 * a + (8 * kb + i) / 28) rfl (by omega) (by decide) d_Model_setByte_40 ?_
        refine lv_lconst (v := 1) hx hb d_Model_setByte_41 (by decide) ?_
        refine lv_bipush (v := nI 8) hx hb d_Model_setByte_42 (by decide) ?_
        refine lv_iload_n hx hb d_Model_setByte_44 rfl (lv_at hl 3 rfl) ?_
        refine lv_imul hx hb d_Model_setByte_45 ?_
        refine lv_topi (fun t9 e9 => ?_)
        obtain rfl : t9 = nI (8 * kb) := e9.trans (pk_mul _ _)
        refine lv_iload hx hb d_Model_setByte_46 (lv_at hl 0 rfl) ?_
        refine lv_iadd hx hb d_Model_setByte_48 ?_
        refine lv_topi (fun t9 e9 => ?_)
        obtain rfl : t9 = nI ((8 * kb) + i) := e9.trans (nI_add _ _)
        refine lv_bipush (v := nI 28) hx hb d_Model_setByte_49 (by decide) ?_
        refine lv_irem hx hb d_Model_setByte_51 (by decide) ?_
        refine lv_topi (fun t9 e9 => ?_)
        obtain rfl : t9 = nI ((8 * kb + i) - (8 * kb + i) / 28 * 28) := e9.trans (rem28 (by omega))
        refine lv_lshl (v := 1 <<< ((nI ((8 * kb + i) - (8 * kb + i) / 28 * 28)).toInt64 &&& 63)) hx hb d_Model_setByte_52 rfl ?_
        refine lv_lor hx hb d_Model_setByte_53 ?_
        have hdv : dg ((fd1 (14 * a + (8 * kb + i) / 28)) ||| (1 <<< ((nI ((8 * kb + i) - (8 * kb + i) / 28 * 28)).toInt64 &&& 63))) := dg_or (hm.2.2.2.2.2.1 _ (by omega)) (dg_1sh _ (by omega))
        refine q_last E hm.2.2.2.2.1 hm.2.2.2.2.2.2.1 hF (14 * a + (8 * kb + i) / 28) rfl (by omega) (by decide) d_Model_setByte_54 (fun H1 locs hq hf2 hF => ?_)
        have hm := hm.step hK (hq.mono (fun q h => Or.inl h)) hf2 ((hm.2.2.2.2.2.1).upd hdv)
        have hfr := hfr.tr (kjR1 hq)
        refine lv_iinc (k := 0) (v := nI (i + 1)) (lv' := [(4, .int (nI (i + 1))), (0, .ref mo), (1, .int (nI a)), (2, .int (nI kb)), (3, .int (nI v))]) hx hb d_Model_setByte_55 hl rfl (i_inc i) (by decide) rfl (fun ls hl => ?_)
        refine lv_goto (tgt := 3) hx hb d_Model_setByte_58 (by decide) ?_
        have hl : lv_has ls 5 [(4, .int (nI (i + 1))), (0, .ref mo), (1, .int (nI a)), (2, .int (nI kb)), (3, .int (nI v))] := lv_sub hl [0, 1, 2, 3, 4] rfl
        exact ih (i + 1) _ _ ls _ (by omega) hfr hm (setb hkb (by omega) hD ha hV hS hc) hF hl
      have hc : v / 2 ^ i % 2 ≠ 1 := fun e => hc (by rw [e])
      refine lv_iinc (k := 0) (v := nI (i + 1)) (lv' := [(4, .int (nI (i + 1))), (0, .ref mo), (1, .int (nI a)), (2, .int (nI kb)), (3, .int (nI v))]) hx hb d_Model_setByte_55 hl rfl (i_inc i) (by decide) rfl (fun ls hl => ?_)
      refine lv_goto (tgt := 3) hx hb d_Model_setByte_58 (by decide) ?_
      have hl : lv_has ls 5 [(4, .int (nI (i + 1))), (0, .ref mo), (1, .int (nI a)), (2, .int (nI kb)), (3, .int (nI v))] := lv_sub hl [0, 1, 2, 3, 4] rfl
      exact ih (i + 1) _ _ ls _ (by omega) hfr hm (hS.trans (by rw [setb0 hc])) hF hl
  refine lv_iconst (v := nI 0) hx hb d_Model_setByte_0 (by decide) ?_
  refine lv_istore (lv' := [(4, .int (nI 0)), (0, .ref mo), (1, .int (nI a)), (2, .int (nI kb)), (3, .int (nI v))]) hx hb d_Model_setByte_1 hl (by decide) rfl (fun ls hl => ?_)
  have hl : lv_has ls 5 [(4, .int (nI 0)), (0, .ref mo), (1, .int (nI a)), (2, .int (nI kb)), (3, .int (nI v))] := lv_sub hl [0, 1, 2, 3, 4] rfl
  exact loop 8 0 _ _ ls _ (by omega) hfr hm (by rw [show v % 2 ^ 0 = 0 from Nat.mod_one v, Nat.zero_mul]; exact (Int.add_zero _).symm) hF hl
set_option maxHeartbeats 4000000 in
set_option maxRecDepth 100000 in
theorem X_Model_isNumber (l : Launch) (g : WG) (n0 : Nat → Prop) (mo a : Nat) (th pw td wr : Int32) (w n : Nat) (hw : WH w n) (fd : Nat → Int64) (ha : a < 170) : Ctr l y_Model_isNumber (.code y_Model_isNumber prog_11_method_26_code 3 (some FieldType.boolean)) 1 22 0 0 n0 g [.ref mo, .int (nI a)] (fun H => MS g n0 H mo th pw td wr w n fd) (QI (fun r H H' => ((r = 1 ∧ SV fd a 14 < VL (kP w) 14) ∨ (r = 0 ∧ VL (kP w) 14 ≤ SV fd a 14)) ∧ H' = H)) := by
  refine ctr_mk l (lv0 := [(0, .ref mo), (1, .int (nI a))]) (by decide) (Nat.le_of_ble_eq_true rfl) rfl ?_
  intro p e s m below meth c ls E hr hlk hnm hl hP
  have hx := E.1
  have hb := E.2.1
  have hK := E.2.2.2.2.2
  have hF : ∀ q ∈ ([] : List Loc), n0 q.base := fun q hq => absurd hq List.not_mem_nil
  have hm := hP
  have hw2 : w ≤ 1 := by rcases hw with h | h <;> omega
  have hfd : ∀ k, k < 14 → dg ((fun k => fd (14 * a + k)) k) := fun k hk => hm.2.2.2.2.2.1 _ (by omega)
  have hpd : ∀ k, k < 14 → dg (kP w k) := fun k hk => kPr_dg _ (by omega)
  have lp : ∀ (k : Nat) (locs : List Loc) (ls : Array Slot) (v : Int32), k ≤ 14 → v = nI k - 1 → (∀ j, k ≤ j → j < 14 → fd (14 * a + j) = kP w j) → (∀ q ∈ locs, n0 q.base) → lv_has ls 3 [(2, .int v), (0, .ref mo), (1, .int (nI a))] → W p l e { frames := 1, cells := 0, slots := 0, locals := 22 } s m [.ref mo, .int (nI a)].toArray below meth c s.heap locs 0 0 (MQ below (QcP (QI (fun r H H' => ((r = 1 ∧ SV fd a 14 < VL (kP w) 14) ∨ (r = 0 ∧ VL (kP w) 14 ≤ SV fd a 14)) ∧ H' = H))) [.ref mo, .int (nI a)].toArray s 0 0 (fun q => n0 q)) (F0 m 3 ls []) := by
    intro k
    induction k with
    | zero =>
      intro  locs   ls   v hk14 hv0 heq hF hl
      subst hv0
      refine lv_iload_n hx hb d_Model_isNumber_3 rfl (lv_at hl 0 rfl) ?_
      refine lv_if_lt (tgt := 67) hx hb d_Model_isNumber_4 (by decide) (fun _ => ?_) (fun h9 => absurd (by decide) h9)
      refine lv_iconst (v := nI 0) hx hb d_Model_isNumber_67 (by decide) ?_
      exact q_zret E hr rfl hlk (⟨_, rfl, Or.inr ⟨rfl, Int.le_of_eq (VL_ext (fun j hj => (heq j (Nat.zero_le _) hj).symm))⟩, rfl⟩) hF d_Model_isNumber_68
    | succ k ih =>
      intro  locs   ls   v hk14 hv0 heq hF hl
      rw [nI_pred] at hv0
      subst hv0
      refine lv_iload_n hx hb d_Model_isNumber_3 rfl (lv_at hl 0 rfl) ?_
      refine lv_if_lt (tgt := 67) hx hb d_Model_isNumber_4 (by decide) (fun h9 => absurd h9 (nI_pos (by omega))) (fun _ => ?_)
      refine lv_aload_n hx hb d_Model_isNumber_7 rfl (lv_at hl 1 rfl) ?_
      refine lv_iload_n hx hb d_Model_isNumber_8 rfl (lv_at hl 2 rfl) ?_
      refine lv_iload_n hx hb d_Model_isNumber_9 rfl (lv_at hl 0 rfl) ?_
      refine q_cV (rest := []) E (c_Model_limb l g n0 mo a k th (nI w) (nI n) pw td wr fd (by omega) (by omega)) w_979 w_15 w_976 w_978 (bw_s 18 rfl) hd_Model_limb rfl ⟨by decide, by decide⟩ (OB.recv E.2.2.2.2.2 (by rfl) hm.1) (⟨hm.1, hm.2.2.2.2.1⟩) hF hl.1 rfl (Nat.le_of_ble_eq_true rfl) d_Model_isNumber_10 ⟨by decide, by decide⟩ (ql (fun v1 H1 locs hq hF => ?_))
      obtain ⟨hq, hq9⟩ := hq
      obtain rfl := hq9
      subst hq
      refine lv_aload_n hx hb d_Model_isNumber_13 rfl (lv_at hl 1 rfl) ?_
      refine q_get (C := "KateDeskModel") (T := T_Model) (N := 14) (ci := 8) E hm.1 in_Model rfl 2 (by decide) w_1003 rfl rfl d_Model_isNumber_14 ?_
      refine lv_bipush (v := nI 14) hx hb d_Model_isNumber_17 (by decide) ?_
      refine lv_aload_n hx hb d_Model_isNumber_19 rfl (lv_at hl 1 rfl) ?_
      refine q_get (C := "KateDeskModel") (T := T_Model) (N := 14) (ci := 8) E hm.1 in_Model rfl 6 (by decide) w_1007 rfl rfl d_Model_isNumber_20 ?_
      refine lv_imul hx hb d_Model_isNumber_23 ?_
      refine lv_topi (fun t9 e9 => ?_)
      obtain rfl : t9 = nI (14 * w) := e9.trans (pk_mul _ _)
      refine lv_iload_n hx hb d_Model_isNumber_24 rfl (lv_at hl 0 rfl) ?_
      refine lv_iadd hx hb d_Model_isNumber_25 ?_
      refine lv_topi (fun t9 e9 => ?_)
      obtain rfl : t9 = nI (14 * w + k) := e9.trans (nI_add _ _)
      refine q_lald (N := 28) (f := kPr) E hm.2.1 (14 * w + k) rfl (by omega) (by decide) d_Model_isNumber_26 ?_
      refine W.lcmp hx hb d_Model_isNumber_27 ?_
      refine lv_if_eq (tgt := 61) hx hb d_Model_isNumber_28 (by decide) (fun h1 => ?_) (fun h1 => ?_)
      rotate_left
      · skip
        refine lv_aload_n hx hb d_Model_isNumber_31 rfl (lv_at hl 1 rfl) ?_
        refine lv_iload_n hx hb d_Model_isNumber_32 rfl (lv_at hl 2 rfl) ?_
        refine lv_iload_n hx hb d_Model_isNumber_33 rfl (lv_at hl 0 rfl) ?_
        refine q_cV (rest := []) E (c_Model_limb l g n0 mo a k th (nI w) (nI n) pw td wr fd (by omega) (by omega)) w_979 w_15 w_976 w_978 (bw_s 18 rfl) hd_Model_limb rfl ⟨by decide, by decide⟩ (OB.recv E.2.2.2.2.2 (by rfl) hm.1) (⟨hm.1, hm.2.2.2.2.1⟩) hF hl.1 rfl (Nat.le_of_ble_eq_true rfl) d_Model_isNumber_34 ⟨by decide, by decide⟩ (ql (fun v2 H2 locs hq hF => ?_))
        obtain ⟨hq, hq9⟩ := hq
        obtain rfl := hq9
        subst hq
        refine lv_aload_n hx hb d_Model_isNumber_37 rfl (lv_at hl 1 rfl) ?_
        refine q_get (C := "KateDeskModel") (T := T_Model) (N := 14) (ci := 8) E hm.1 in_Model rfl 2 (by decide) w_1003 rfl rfl d_Model_isNumber_38 ?_
        refine lv_bipush (v := nI 14) hx hb d_Model_isNumber_41 (by decide) ?_
        refine lv_aload_n hx hb d_Model_isNumber_43 rfl (lv_at hl 1 rfl) ?_
        refine q_get (C := "KateDeskModel") (T := T_Model) (N := 14) (ci := 8) E hm.1 in_Model rfl 6 (by decide) w_1007 rfl rfl d_Model_isNumber_44 ?_
        refine lv_imul hx hb d_Model_isNumber_47 ?_
        refine lv_topi (fun t9 e9 => ?_)
        obtain rfl : t9 = nI (14 * w) := e9.trans (pk_mul _ _)
        refine lv_iload_n hx hb d_Model_isNumber_48 rfl (lv_at hl 0 rfl) ?_
        refine lv_iadd hx hb d_Model_isNumber_49 ?_
        refine lv_topi (fun t9 e9 => ?_)
        obtain rfl : t9 = nI (14 * w + k) := e9.trans (nI_add _ _)
        refine q_lald (N := 28) (f := kPr) E hm.2.1 (14 * w + k) rfl (by omega) (by decide) d_Model_isNumber_50 ?_
        refine W.lcmp hx hb d_Model_isNumber_51 ?_
        refine lv_if_ge (tgt := 59) hx hb d_Model_isNumber_52 (by decide) (fun h2 => ?_) (fun h2 => ?_)
        rotate_left
        · skip
          refine lv_iconst (v := nI 1) hx hb d_Model_isNumber_55 (by decide) ?_
          refine lv_goto (tgt := 60) hx hb d_Model_isNumber_56 (by decide) ?_
          exact q_zret E hr rfl hlk (⟨_, rfl, Or.inl ⟨rfl, VL_lex (f := fun k => fd (14 * a + k)) (k := k) (by omega) hfd hpd (fun j a c => heq j (by omega) c) (cmp_lt h2)⟩, rfl⟩) hF d_Model_isNumber_60
        refine lv_iconst (v := nI 0) hx hb d_Model_isNumber_59 (by decide) ?_
        exact q_zret E hr rfl hlk (⟨_, rfl, Or.inr ⟨rfl, Int.le_of_lt (VL_lex (h := fun k => fd (14 * a + k)) (k := k) (by omega) hpd hfd (fun j a c => (heq j (by omega) c).symm) (cmp_gt h1 h2))⟩, rfl⟩) hF d_Model_isNumber_60
      refine lv_iinc (k := 0) (v := nI k - 1) (lv' := [(2, .int (nI k - 1)), (0, .ref mo), (1, .int (nI a))]) hx hb d_Model_isNumber_61 hl rfl (i_dec _) (by decide) rfl (fun ls hl => ?_)
      refine lv_goto (tgt := 3) hx hb d_Model_isNumber_64 (by decide) ?_
      have hl : lv_has ls 3 [(2, .int (nI k - 1)), (0, .ref mo), (1, .int (nI a))] := lv_sub hl [0, 1, 2] rfl
      exact ih _ ls _ (by omega) rfl (fun j h3 h4 => if e : j = k then by subst e; exact cmp_eq h1 else heq j (by omega) h4) hF hl
  refine lv_bipush (v := nI 13) hx hb d_Model_isNumber_0 (by decide) ?_
  refine lv_istore_n (lv' := [(2, .int (nI 13)), (0, .ref mo), (1, .int (nI a))]) hx hb d_Model_isNumber_2 rfl hl (by decide) rfl (fun ls hl => ?_)
  have hl : lv_has ls 3 [(2, .int (nI 13)), (0, .ref mo), (1, .int (nI a))] := lv_sub hl [0, 1, 2] rfl
  exact lp 14 _ ls _ (by decide) (by decide) (fun j h3 h4 => absurd h4 (by omega)) hF hl
set_option maxHeartbeats 4000000 in
set_option maxRecDepth 100000 in
theorem X_Model_number (l : Launch) (g : WG) (n0 : Nat → Prop) (mo : Nat) (th : Int32) (pn tn wn : Nat) (a : Int32) (m9 : Nat → Int32) (t : Nat → Nat) (ht : ∀ j, t j < 256) (hmt : ∀ j, j < tn → m9 j = nI (t j)) : Ctr l y_Model_number (.code y_Model_number prog_11_method_38_code 4 (some FieldType.boolean)) 2 44 0 0 n0 g [.ref mo, .int a] (fun H => MP g n0 H mo th pn tn wn ∧ AI g H (mo + 6) 96 m9) (QI (fun r H H' => ((okS a (nI 1)) ∧ MP g n0 H' mo 0 pn 0 wn ∧ NB r t tn) ∨ (¬ (okS a (nI 1)) ∧ MP g n0 H' mo 1 pn tn wn))) := by
  refine ctr_mk l (lv0 := [(0, .ref mo), (1, .int a)]) (by decide) (Nat.le_of_ble_eq_true rfl) rfl ?_
  intro p e s m below meth c ls E hr hlk hnm hl hP
  obtain ⟨hP, hT⟩ := hP
  have hx := E.1
  have hb := E.2.1
  have hK := E.2.2.2.2.2
  have hF : ∀ q ∈ ([] : List Loc), n0 q.base := fun q hq => absurd hq List.not_mem_nil
  obtain ⟨⟨w9, n9, fd, hw9, hm⟩, -⟩ := id hP
  have hmn := hP.mn
  have hbd := hP.2.2.2.2.1
  have hfr : FRM (MR mo) s.heap s.heap := FRM.rf
  have bad : ∀ (locs : List Loc) (ls : Array Slot), ¬ (okS a (nI 1)) → (∀ q ∈ locs, n0 q.base) → lv_has ls 4 [(0, .ref mo), (1, .int a)] → W p l e { frames := 2, cells := 0, slots := 0, locals := 44 } s m [.ref mo, .int a].toArray below meth c s.heap locs 0 0 (MQ below (QcP (QI (fun r H H' => ((okS a (nI 1)) ∧ MP g n0 H' mo 0 pn 0 wn ∧ NB r t tn) ∨ (¬ (okS a (nI 1)) ∧ MP g n0 H' mo 1 pn tn wn)))) [.ref mo, .int a].toArray s 0 0 (fun q => n0 q)) (F0 m 5 ls [.int (nI 1), .ref mo]) := by
    intro  locs   ls hno hF hl
    refine lv_iconst (v := nI 1) hx hb d_Model_number_5 (by decide) ?_
    refine q_cV (rest := []) E (c_Model_fails l g n0 mo th (nI pn) (nI tn) (nI wn) w9 n9 hw9 (nI 1) (nI 1) fd hmn (Or.inl rfl)) w_1056 w_15 w_1053 w_1055 (bw_s 24 rfl) hd_Model_fails rfl ⟨by decide, by decide⟩ (OB.recv E.2.2.2.2.2 (by rfl) hm.1) hm hF hl.1 rfl (Nat.le_of_ble_eq_true rfl) d_Model_number_6 ⟨by decide, by decide⟩ (qi (fun rf H1 locs hq hF => ?_))
    obtain ⟨hrf, hq, hm⟩ := hq
    subst hrf
    have hfr := hfr.tr hq
    rw [if_neg (by decide)] at hm
    refine lv_if_eq (tgt := 14) hx hb d_Model_number_9 (by decide) (fun h9 => absurd h9 (by decide)) (fun _ => ?_)
    refine lv_iconst (v := nI 0) hx hb d_Model_number_12 (by decide) ?_
    exact q_zret E hr rfl hlk (⟨_, rfl, Or.inr ⟨hno, hP.keep hfr hw9 hm⟩⟩) hF d_Model_number_13
  have good : ∀ (locs : List Loc) (ls : Array Slot), okS a (nI 1) → (∀ q ∈ locs, n0 q.base) → lv_has ls 4 [(0, .ref mo), (1, .int a)] → W p l e { frames := 2, cells := 0, slots := 0, locals := 44 } s m [.ref mo, .int a].toArray below meth c s.heap locs 0 0 (MQ below (QcP (QI (fun r H H' => ((okS a (nI 1)) ∧ MP g n0 H' mo 0 pn 0 wn ∧ NB r t tn) ∨ (¬ (okS a (nI 1)) ∧ MP g n0 H' mo 1 pn tn wn)))) [.ref mo, .int a].toArray s 0 0 (fun q => n0 q)) (F0 m 5 ls [.int (nI 0), .ref mo]) := by
    intro  locs   ls hok hF hl
    refine lv_iconst (v := nI 1) hx hb d_Model_number_5 (by decide) ?_
    refine q_cV (rest := []) E (c_Model_fails l g n0 mo th (nI pn) (nI tn) (nI wn) w9 n9 hw9 (nI 0) (nI 1) fd hmn (Or.inr rfl)) w_1056 w_15 w_1053 w_1055 (bw_s 24 rfl) hd_Model_fails rfl ⟨by decide, by decide⟩ (OB.recv E.2.2.2.2.2 (by rfl) hm.1) hm hF hl.1 rfl (Nat.le_of_ble_eq_true rfl) d_Model_number_6 ⟨by decide, by decide⟩ (qi (fun rf H1 locs hq hF => ?_))
    obtain ⟨hrf, hq, hm⟩ := hq
    subst hrf
    have hfr := hfr.tr hq
    rw [if_pos nI_0] at hm
    refine lv_if_eq (tgt := 14) hx hb d_Model_number_9 (by decide) (fun _ => ?_) (fun h9 => absurd (by decide) h9)
    obtain ⟨k1, e_k1, h_k1⟩ := okS_nat (by decide) (by decide) hok
    rw [e_k1] at hl
    refine lv_aload_n hx hb d_Model_number_14 rfl (lv_at hl 0 rfl) ?_
    refine q_get (C := "KateDeskModel") (T := T_Model) (N := 14) (ci := 8) E hm.1 in_Model rfl 10 (by decide) w_1011 rfl rfl d_Model_number_15 ?_
    refine lv_istore_n (lv' := [(2, .int (nI tn)), (0, .ref mo), (1, .int (nI k1))]) hx hb d_Model_number_18 rfl hl (by decide) rfl (fun ls hl => ?_)
    refine lv_aload_n hx hb d_Model_number_19 rfl (lv_at hl 1 rfl) ?_
    refine lv_iconst (v := nI 0) hx hb d_Model_number_20 (by decide) ?_
    refine q_put (C := "KateDeskModel") (T := T_Model) (N := 14) (ci := 8) (ty := .int) E hm.1 in_Model ty_Model tyok_Model nm_Model rfl 10 (by decide) w_1011 rfl rfl (by decide +kernel) rfl rfl (Nat.le_of_ble_eq_true rfl) hmn hF d_Model_number_21 (fun H2 locs hq ho2 hF => ?_)
    have hm : MS g n0 H2 mo 0 (nI pn) (nI 0) (nI wn) w9 n9 fd := hm.frm hq (by omega) (by omega) (by omega) (by omega) ho2
    have hfr := hfr.tr (hq.mono (fun q h => Or.inl h))
    have loop : ∀ (k : Nat) (i : Nat) (H : Heap) (locs : List Loc) (ls : Array Slot) (fd1 : Nat → Int64), i + k = tn → tn ≤ 32 → SV fd1 120 14 = (tvN t i : Int) → FRM (MR mo) s.heap H → MS g n0 H mo 0 (nI pn) (nI 0) (nI wn) 1 10 fd1 → (∀ q ∈ locs, n0 q.base) → lv_has ls 4 [(3, .int (nI i)), (2, .int (nI tn)), (0, .ref mo), (1, .int (nI k1))] → W p l e { frames := 2, cells := 0, slots := 0, locals := 44 } s m [.ref mo, .int a].toArray below meth c H locs 0 0 (MQ below (QcP (QI (fun r H H' => ((okS a (nI 1)) ∧ MP g n0 H' mo 0 pn 0 wn ∧ NB r t tn) ∨ (¬ (okS a (nI 1)) ∧ MP g n0 H' mo 1 pn tn wn)))) [.ref mo, .int a].toArray s 0 0 (fun q => n0 q)) (F0 m 45 ls []) := by
      intro k
      induction k with
      | zero =>
        intro  i   H   locs   ls   fd1 hi ht32 hS hfr hm hF hl
        obtain rfl : tn = i := by omega
        refine lv_iload_n hx hb d_Model_number_45 rfl (lv_at hl 0 rfl) ?_
        refine lv_iload_n hx hb d_Model_number_46 rfl (lv_at hl 1 rfl) ?_
        refine lv_icmp_ge (tgt := 69) hx hb d_Model_number_47 (by decide) (fun _ => ?_) (fun h9 => absurd (nI_le (Nat.le_refl _) (by omega)) h9)
        refine lv_aload_n hx hb d_Model_number_69 rfl (lv_at hl 2 rfl) ?_
        refine lv_bipush (v := nI 120) hx hb d_Model_number_70 (by decide) ?_
        refine q_cV (rest := []) E (X_Model_isNumber l g n0 mo 120 0 (nI pn) (nI 0) (nI wn) 1 10 hw1 fd1 (by decide)) w_1072 w_15 w_1069 w_1071 (bw_s 26 rfl) hd_Model_isNumber rfl ⟨by decide, by decide⟩ (OB.recv E.2.2.2.2.2 (by rfl) hm.1) hm hF hl.1 rfl (Nat.le_of_ble_eq_true rfl) d_Model_number_72 ⟨by decide, by decide⟩ (qi (fun rz H1 locs hq hF => ?_))
        obtain ⟨hrz, hq⟩ := hq
        have hq := hq.symm
        subst hq
        rw [hS] at hrz
        refine lv_if_ne (tgt := 80) hx hb d_Model_number_75 (by decide) (fun hz => ?_) (fun hz => ?_)
        rotate_left
        · skip
          have hrz := hrz.resolve_left (fun h => absurd (h.1.symm.trans hz) (by decide))
          refine lv_iconst (v := nI 0) hx hb d_Model_number_78 (by decide) ?_
          exact q_zret E hr rfl hlk (⟨_, rfl, Or.inl ⟨hok, hP.fin hfr hw1 hm ⟨hbd.1, Nat.zero_le _, hbd.2.2⟩, Or.inl ⟨ht32, Or.inr ⟨rfl, hrz.2⟩⟩⟩⟩) hF d_Model_number_79
        have hrz := hrz.resolve_right (fun h => hz h.1)
        refine lv_aload_n hx hb d_Model_number_80 rfl (lv_at hl 2 rfl) ?_
        refine lv_iload_n hx hb d_Model_number_81 rfl (lv_at hl 3 rfl) ?_
        refine lv_bipush (v := nI 120) hx hb d_Model_number_82 (by decide) ?_
        refine q_cV (rest := []) E (c_Model_move l g n0 mo k1 120 0 (nI pn) (nI 0) (nI wn) 1 10 hw1  fd1 (by omega) (by omega) ) w_1076 w_15 w_1073 w_1075 (bw_s 27 rfl) hd_Model_move rfl ⟨by decide, by decide⟩ (OB.recv E.2.2.2.2.2 (by rfl) hm.1) hm hF hl.1 rfl (Nat.le_of_ble_eq_true rfl) d_Model_number_84 ⟨by decide, by decide⟩ (qv (fun H2 locs hq hF => ?_))
        obtain ⟨hq, fd_1, hm, hpv⟩ := hq
        have hfr := hfr.tr hq
        refine lv_iconst (v := nI 1) hx hb d_Model_number_87 (by decide) ?_
        exact q_zret E hr rfl hlk (⟨_, rfl, Or.inl ⟨hok, hP.fin hfr hw1 hm ⟨hbd.1, Nat.zero_le _, hbd.2.2⟩, Or.inl ⟨ht32, Or.inl ⟨rfl, hrz.2⟩⟩⟩⟩) hF d_Model_number_88
      | succ k ih =>
        intro  i   H   locs   ls   fd1 hi ht32 hS hfr hm hF hl
        refine lv_iload_n hx hb d_Model_number_45 rfl (lv_at hl 0 rfl) ?_
        refine lv_iload_n hx hb d_Model_number_46 rfl (lv_at hl 1 rfl) ?_
        refine lv_icmp_ge (tgt := 69) hx hb d_Model_number_47 (by decide) (fun h9 => absurd h9 (nI_ge (by omega) (by omega))) (fun _ => ?_)
        refine lv_aload_n hx hb d_Model_number_50 rfl (lv_at hl 2 rfl) ?_
        refine lv_bipush (v := nI 120) hx hb d_Model_number_51 (by decide) ?_
        refine lv_iload_n hx hb d_Model_number_53 rfl (lv_at hl 0 rfl) ?_
        refine lv_aload_n hx hb d_Model_number_54 rfl (lv_at hl 2 rfl) ?_
        refine q_get (C := "KateDeskModel") (T := T_Model) (N := 14) (ci := 8) E hm.1 in_Model rfl 9 (by decide) w_1010 rfl rfl d_Model_number_55 ?_
        refine lv_iload_n hx hb d_Model_number_58 rfl (lv_at hl 0 rfl) ?_
        refine q_iald E (AI.off hfr (show ¬ MR mo (mo + 6) by unfold MR; omega) hT) i rfl (by omega) (by decide) d_Model_number_59 ?_
        refine lv_topi (fun t9 e9 => ?_)
        obtain rfl : t9 = nI (t i) := e9.trans (hmt i (by omega))
        refine q_cV (rest := []) E (X_Model_setByte l g n0 mo 120 i (t i) 0 (nI pn) (nI 0) (nI wn) 1 10 hw1 fd1 (by decide) (by omega) (ht i) (by rw [hS]; exact Int.ofNat_lt.mpr (tvN_lt ht i))) w_1068 w_15 w_1065 w_1067 (bw_s 25 rfl) hd_Model_setByte rfl ⟨by decide, by decide⟩ (OB.recv E.2.2.2.2.2 (by rfl) hm.1) hm hF hl.1 rfl (Nat.le_of_ble_eq_true rfl) d_Model_number_60 ⟨by decide, by decide⟩ (qv (fun H1 locs hq hF => ?_))
        obtain ⟨hq, fd2, hm, hS2⟩ := hq
        have hfr := hfr.tr hq
        rw [hS] at hS2
        refine lv_iinc (k := 0) (v := nI (i + 1)) (lv' := [(3, .int (nI (i + 1))), (2, .int (nI tn)), (0, .ref mo), (1, .int (nI k1))]) hx hb d_Model_number_63 hl rfl (i_inc i) (by decide) rfl (fun ls hl => ?_)
        refine lv_goto (tgt := 45) hx hb d_Model_number_66 (by decide) ?_
        have hl : lv_has ls 4 [(3, .int (nI (i + 1))), (2, .int (nI tn)), (0, .ref mo), (1, .int (nI k1))] := lv_sub hl [0, 1, 2, 3] rfl
        exact ih (i + 1) _ _ ls _ (by omega) ht32 hS2 hfr hm hF hl
    refine lv_iload_n hx hb d_Model_number_24 rfl (lv_at hl 0 rfl) ?_
    refine lv_bipush (v := nI 32) hx hb d_Model_number_25 (by decide) ?_
    refine lv_icmp_le (tgt := 32) hx hb d_Model_number_27 (by decide) (fun hc => ?_) (fun hc => ?_)
    rotate_left
    · skip
      have hc33 : 32 < tn := Nat.lt_of_not_le (fun h => hc (nI_le h (by decide)))
      refine lv_iconst (v := nI 0) hx hb d_Model_number_30 (by decide) ?_
      exact q_zret E hr rfl hlk (⟨_, rfl, Or.inl ⟨hok, hP.fin hfr hw9 hm ⟨hbd.1, Nat.zero_le _, hbd.2.2⟩, Or.inr ⟨hc33, rfl⟩⟩⟩) hF d_Model_number_31
    have hc : tn ≤ 32 := (nI_leI (by omega) (by decide)).mp hc
    refine lv_aload_n hx hb d_Model_number_32 rfl (lv_at hl 1 rfl) ?_
    refine lv_iconst (v := nI 1) hx hb d_Model_number_33 (by decide) ?_
    refine q_cV (rest := []) E (c_Model_use l g n0 mo 0 (nI pn) (nI 0) (nI wn) w9 n9 hw9 1 10 hw1 fd hmn) w_967 w_15 w_964 w_966 (bw_s 15 rfl) hd_Model_use rfl ⟨by decide, by decide⟩ (OB.recv E.2.2.2.2.2 (by rfl) hm.1) hm hF hl.1 rfl (Nat.le_of_ble_eq_true rfl) d_Model_number_34 ⟨by decide, by decide⟩ (qv (fun H3 locs hq hF => ?_))
    obtain ⟨hq, hm⟩ := hq
    have hfr := hfr.tr hq
    refine lv_aload_n hx hb d_Model_number_37 rfl (lv_at hl 1 rfl) ?_
    refine lv_bipush (v := nI 120) hx hb d_Model_number_38 (by decide) ?_
    refine q_cV (rest := []) E (c_Model_zero l g n0 mo 120 0 (nI pn) (nI 0) (nI wn) 1 10 hw1 fd (by decide)) w_1000 w_15 w_997 w_999 (bw_s 23 rfl) hd_Model_zero rfl ⟨by decide, by decide⟩ (OB.recv E.2.2.2.2.2 (by rfl) hm.1) hm hF hl.1 rfl (Nat.le_of_ble_eq_true rfl) d_Model_number_40 ⟨by decide, by decide⟩ (qv (fun H4 locs hq hF => ?_))
    obtain ⟨hq, fdz, hm, hpz⟩ := hq
    have hfr := hfr.tr hq
    have hS0 : SV fdz 120 14 = ((tvN t 0 : Nat) : Int) := (VL_ext (fun k hk => hpz.2 k hk)).trans VL_z14
    refine lv_iconst (v := nI 0) hx hb d_Model_number_43 (by decide) ?_
    refine lv_istore_n (lv' := [(3, .int (nI 0)), (2, .int (nI tn)), (0, .ref mo), (1, .int (nI k1))]) hx hb d_Model_number_44 rfl hl (by decide) rfl (fun ls hl => ?_)
    have hl : lv_has ls 4 [(3, .int (nI 0)), (2, .int (nI tn)), (0, .ref mo), (1, .int (nI k1))] := lv_sub hl [0, 1, 2, 3] rfl
    exact loop tn 0 _ _ ls _ (by omega) hc hS0 hfr hm hF hl
  refine lv_aload_n hx hb d_Model_number_0 rfl (lv_at hl 0 rfl) ?_
  refine lv_iload_n hx hb d_Model_number_1 rfl (lv_at hl 1 rfl) ?_
  refine q_cS (rest := [.ref mo]) E (c_Model_noScalar l g n0 a ) w_1064 w_15 w_1062 w_1063 hd_Model_noScalar rfl ⟨by decide, by decide⟩ trivial hF hl.1 rfl (Nat.le_of_ble_eq_true rfl) d_Model_number_2 ⟨by decide, by decide⟩ (qi (fun r_0 H1 locs hq hF => ?_))
  obtain ⟨h_0, hq⟩ := hq
  subst hq
  rcases h_0 with ⟨rfl, f_0⟩ | ⟨rfl, f_0⟩
  · skip
    have hl : lv_has ls 4 [(0, .ref mo), (1, .int a)] := lv_sub hl [0, 1] rfl
    exact bad _ ls (fun h => (f_0) h) hF hl
  · skip
    have hl : lv_has ls 4 [(0, .ref mo), (1, .int a)] := lv_sub hl [0, 1] rfl
    exact good _ ls f_0 hF hl
/-- the int that the model's feed puts behind its tape at its turn i -/
def fbM (v : Int64) (i : Nat) : Int32 := ((v >>> (((nI 8) * (nI i)).toInt64 &&& 63)) &&& 255).toInt32
def fdM (c : Nat → Int32) (v : Int64) (t i : Nat) (c' : Nat → Int32) : Prop := (∀ j, j < t → c' j = c j) ∧ ∀ j, j < i → c' (t + j) = fbM v j
theorem fdM.nx {c c' : Nat → Int32} {v : Int64} {t i : Nat} (h : fdM c v t i c') : fdM c v t (i + 1) (upd c' (t + i) (fbM v i)) := by
  refine ⟨fun j hj => ?_, fun j hj => ?_⟩
  · rw [show upd c' (t + i) (fbM v i) j = c' j from if_neg (by omega)]
    exact h.1 j hj
  · by_cases e : j = i
    · subst e
      simp [upd]
    · rw [show upd c' (t + i) (fbM v i) (t + j) = c' (t + j) from if_neg (by omega)]
      exact h.2 j (by omega)
set_option maxHeartbeats 4000000 in
set_option maxRecDepth 100000 in
theorem X_Model_feed (l : Launch) (g : WG) (n0 : Nat → Prop) (mo : Nat) (th : Int32) (pn tn wn : Nat) (n : Int32) (v : Int64) (m9 : Nat → Int32) (hn6 : n0 (mo + 6)) : Ctr l y_Model_feed (.code y_Model_feed prog_11_method_37_code 5 (some FieldType.int)) 1 22 0 0 n0 g [.ref mo, .int n, .long v] (fun H => MP g n0 H mo th pn tn wn ∧ AI g H (mo + 6) 96 m9) (QI (fun r H H' => ((okC n (nI 1) (nI 8)) ∧ ((∃ k9, n = nI k9 ∧ tn + k9 ≤ 96 ∧ r = nI (tn + k9) ∧ MP g n0 H' mo 0 pn (tn + k9) wn ∧ ∃ c', AI g H' (mo + 6) 96 c' ∧ fdM m9 v tn k9 c') ∨ (¬ nI tn + n ≤ nI 96 ∧ MP g n0 H' mo (nI 2) pn tn wn ∧ AI g H' (mo + 6) 96 m9))) ∨ (¬ (okC n (nI 1) (nI 8)) ∧ MP g n0 H' mo 1 pn tn wn ∧ AI g H' (mo + 6) 96 m9))) := by
  refine ctr_mk l (lv0 := [(0, .ref mo), (1, .int n), (2, .long v)]) (by decide) (Nat.le_of_ble_eq_true rfl) rfl ?_
  intro p e s m below meth c ls E hr hlk hnm hl hP
  obtain ⟨hP, hT⟩ := hP
  have hx := E.1
  have hb := E.2.1
  have hK := E.2.2.2.2.2
  have hF : ∀ q ∈ ([] : List Loc), n0 q.base := fun q hq => absurd hq List.not_mem_nil
  obtain ⟨⟨w9, n9, fd, hw9, hm⟩, -⟩ := id hP
  have hmn := hP.mn
  have hbd := hP.2.2.2.2.1
  have hfr : FRM (MR mo) s.heap s.heap := FRM.rf
  have bad : ∀ (locs : List Loc) (ls : Array Slot), ¬ (okC n (nI 1) (nI 8)) → (∀ q ∈ locs, n0 q.base) → lv_has ls 5 [(0, .ref mo), (1, .int n), (2, .long v)] → W p l e { frames := 1, cells := 0, slots := 0, locals := 22 } s m [.ref mo, .int n, .long v].toArray below meth c s.heap locs 0 0 (MQ below (QcP (QI (fun r H H' => ((okC n (nI 1) (nI 8)) ∧ ((∃ k9, n = nI k9 ∧ tn + k9 ≤ 96 ∧ r = nI (tn + k9) ∧ MP g n0 H' mo 0 pn (tn + k9) wn ∧ ∃ c', AI g H' (mo + 6) 96 c' ∧ fdM m9 v tn k9 c') ∨ (¬ nI tn + n ≤ nI 96 ∧ MP g n0 H' mo (nI 2) pn tn wn ∧ AI g H' (mo + 6) 96 m9))) ∨ (¬ (okC n (nI 1) (nI 8)) ∧ MP g n0 H' mo 1 pn tn wn ∧ AI g H' (mo + 6) 96 m9)))) [.ref mo, .int n, .long v].toArray s 0 0 (fun q => n0 q)) (F0 m 17 ls [.int (nI 1), .ref mo]) := by
    intro  locs   ls hno hF hl
    refine lv_iconst (v := nI 1) hx hb d_Model_feed_17 (by decide) ?_
    refine q_cV (rest := []) E (c_Model_fails l g n0 mo th (nI pn) (nI tn) (nI wn) w9 n9 hw9 (nI 1) (nI 1) fd hmn (Or.inl rfl)) w_1056 w_15 w_1053 w_1055 (bw_s 24 rfl) hd_Model_fails rfl ⟨by decide, by decide⟩ (OB.recv E.2.2.2.2.2 (by rfl) hm.1) hm hF hl.1 rfl (Nat.le_of_ble_eq_true rfl) d_Model_feed_18 ⟨by decide, by decide⟩ (qi (fun rf H1 locs hq hF => ?_))
    obtain ⟨hrf, hq, hm⟩ := hq
    subst hrf
    have hfr := hfr.tr hq
    rw [if_neg (by decide)] at hm
    refine lv_if_ne (tgt := 48) hx hb d_Model_feed_21 (by decide) (fun _ => ?_) (fun h9 => absurd h9 (by decide))
    refine lv_iconst (v := nI 0) hx hb d_Model_feed_48 (by decide) ?_
    exact q_iret E hr hlk (⟨_, rfl, Or.inr ⟨hno, hP.keep hfr hw9 hm, (AI.off hfr (show ¬ MR mo (mo + 6) by unfold MR; omega) hT)⟩⟩) hF d_Model_feed_49
  have good : ∀ (locs : List Loc) (ls : Array Slot), okC n (nI 1) (nI 8) → (∀ q ∈ locs, n0 q.base) → lv_has ls 5 [(0, .ref mo), (1, .int n), (2, .long v)] → W p l e { frames := 1, cells := 0, slots := 0, locals := 22 } s m [.ref mo, .int n, .long v].toArray below meth c s.heap locs 0 0 (MQ below (QcP (QI (fun r H H' => ((okC n (nI 1) (nI 8)) ∧ ((∃ k9, n = nI k9 ∧ tn + k9 ≤ 96 ∧ r = nI (tn + k9) ∧ MP g n0 H' mo 0 pn (tn + k9) wn ∧ ∃ c', AI g H' (mo + 6) 96 c' ∧ fdM m9 v tn k9 c') ∨ (¬ nI tn + n ≤ nI 96 ∧ MP g n0 H' mo (nI 2) pn tn wn ∧ AI g H' (mo + 6) 96 m9))) ∨ (¬ (okC n (nI 1) (nI 8)) ∧ MP g n0 H' mo 1 pn tn wn ∧ AI g H' (mo + 6) 96 m9)))) [.ref mo, .int n, .long v].toArray s 0 0 (fun q => n0 q)) (F0 m 17 ls [.int (nI 0), .ref mo]) := by
    intro  locs   ls hok hF hl
    refine lv_iconst (v := nI 1) hx hb d_Model_feed_17 (by decide) ?_
    refine q_cV (rest := []) E (c_Model_fails l g n0 mo th (nI pn) (nI tn) (nI wn) w9 n9 hw9 (nI 0) (nI 1) fd hmn (Or.inr rfl)) w_1056 w_15 w_1053 w_1055 (bw_s 24 rfl) hd_Model_fails rfl ⟨by decide, by decide⟩ (OB.recv E.2.2.2.2.2 (by rfl) hm.1) hm hF hl.1 rfl (Nat.le_of_ble_eq_true rfl) d_Model_feed_18 ⟨by decide, by decide⟩ (qi (fun rf H1 locs hq hF => ?_))
    obtain ⟨hrf, hq, hm⟩ := hq
    subst hrf
    have hfr := hfr.tr hq
    rw [if_pos nI_0] at hm
    refine lv_if_ne (tgt := 48) hx hb d_Model_feed_21 (by decide) (fun h9 => absurd (by decide) h9) (fun _ => ?_)
    obtain ⟨k1, e_k1, h_k1, h2_k1⟩ := okC_nat (by decide) (by decide) hok
    rw [e_k1] at hl
    refine lv_aload_n hx hb d_Model_feed_24 rfl (lv_at hl 0 rfl) ?_
    refine lv_aload_n hx hb d_Model_feed_25 rfl (lv_at hl 0 rfl) ?_
    refine q_get (C := "KateDeskModel") (T := T_Model) (N := 14) (ci := 8) E hm.1 in_Model rfl 10 (by decide) w_1011 rfl rfl d_Model_feed_26 ?_
    refine lv_iload_n hx hb d_Model_feed_29 rfl (lv_at hl 1 rfl) ?_
    refine lv_iadd hx hb d_Model_feed_30 ?_
    refine lv_bipush (v := nI 96) hx hb d_Model_feed_31 (by decide) ?_
    refine lv_icmp_le (tgt := 40) hx hb d_Model_feed_33 (by decide) (fun hc => ?_) (fun hc => ?_)
    rotate_left
    · skip
      refine lv_iconst (v := nI 1) hx hb d_Model_feed_36 (by decide) ?_
      refine lv_goto (tgt := 41) hx hb d_Model_feed_37 (by decide) ?_
      refine lv_iconst (v := nI 2) hx hb d_Model_feed_41 (by decide) ?_
      refine q_cV (rest := []) E (c_Model_fails l g n0 mo 0 (nI pn) (nI tn) (nI wn) w9 n9 hw9 (nI 1) (nI 2) fd hmn (Or.inl rfl)) w_1056 w_15 w_1053 w_1055 (bw_s 24 rfl) hd_Model_fails rfl ⟨by decide, by decide⟩ (OB.recv E.2.2.2.2.2 (by rfl) hm.1) hm hF hl.1 rfl (Nat.le_of_ble_eq_true rfl) d_Model_feed_42 ⟨by decide, by decide⟩ (qi (fun rf H2 locs hq hF => ?_))
      obtain ⟨hrf, hq, hm⟩ := hq
      subst hrf
      have hfr := hfr.tr hq
      rw [if_neg (by decide)] at hm
      refine lv_if_eq (tgt := 50) hx hb d_Model_feed_45 (by decide) (fun h9 => absurd h9 (by decide)) (fun _ => ?_)
      refine lv_iconst (v := nI 0) hx hb d_Model_feed_48 (by decide) ?_
      exact q_iret E hr hlk (⟨_, rfl, Or.inl ⟨hok, Or.inr ⟨by rw [e_k1]; exact hc, hP.keep hfr hw9 hm, (AI.off hfr (show ¬ MR mo (mo + 6) by unfold MR; omega) hT)⟩⟩⟩) hF d_Model_feed_49
    have hfit : tn + k1 ≤ 96 := by rw [nI_add] at hc; exact (nI_leI (by omega) (by decide)).mp hc
    refine lv_iconst (v := nI 0) hx hb d_Model_feed_40 (by decide) ?_
    refine lv_iconst (v := nI 2) hx hb d_Model_feed_41 (by decide) ?_
    refine q_cV (rest := []) E (c_Model_fails l g n0 mo 0 (nI pn) (nI tn) (nI wn) w9 n9 hw9 (nI 0) (nI 2) fd hmn (Or.inr rfl)) w_1056 w_15 w_1053 w_1055 (bw_s 24 rfl) hd_Model_fails rfl ⟨by decide, by decide⟩ (OB.recv E.2.2.2.2.2 (by rfl) hm.1) hm hF hl.1 rfl (Nat.le_of_ble_eq_true rfl) d_Model_feed_42 ⟨by decide, by decide⟩ (qi (fun rf H2 locs hq hF => ?_))
    obtain ⟨hrf, hq, hm⟩ := hq
    subst hrf
    have hfr := hfr.tr hq
    rw [if_pos nI_0] at hm
    refine lv_if_eq (tgt := 50) hx hb d_Model_feed_45 (by decide) (fun _ => ?_) (fun h9 => absurd (by decide) h9)
    refine lv_iconst (v := nI 0) hx hb d_Model_feed_50 (by decide) ?_
    refine lv_istore (lv' := [(4, .int (nI 0)), (0, .ref mo), (1, .int (nI k1)), (2, .long v)]) hx hb d_Model_feed_51 hl (by decide) rfl (fun ls hl => ?_)
    have hl : lv_has ls 5 [(4, .int (nI 0)), (0, .ref mo), (1, .int (nI k1)), (2, .long v)] := lv_sub hl [0, 1, 2, 3] rfl
    have hh := (AI.off hfr (show ¬ MR mo (mo + 6) by unfold MR; omega) hT)
    have hfr6 := hfr.mono (fun q h => (Or.inl h : MR mo q ∨ q = mo + 6))
    have loop : ∀ (k : Nat) (i : Nat) (H : Heap) (locs : List Loc) (ls : Array Slot) (c1 : Nat → Int32), i + k = k1 → MS g n0 H mo 0 (nI pn) (nI tn) (nI wn) w9 n9 fd → AI g H (mo + 6) 96 c1 → fdM m9 v tn i c1 → FRM (fun q => MR mo q ∨ q = mo + 6) s.heap H → (∀ q ∈ locs, n0 q.base) → lv_has ls 5 [(4, .int (nI i)), (0, .ref mo), (1, .int (nI k1)), (2, .long v)] → W p l e { frames := 1, cells := 0, slots := 0, locals := 22 } s m [.ref mo, .int n, .long v].toArray below meth c H locs 0 0 (MQ below (QcP (QI (fun r H H' => ((okC n (nI 1) (nI 8)) ∧ ((∃ k9, n = nI k9 ∧ tn + k9 ≤ 96 ∧ r = nI (tn + k9) ∧ MP g n0 H' mo 0 pn (tn + k9) wn ∧ ∃ c', AI g H' (mo + 6) 96 c' ∧ fdM m9 v tn k9 c') ∨ (¬ nI tn + n ≤ nI 96 ∧ MP g n0 H' mo (nI 2) pn tn wn ∧ AI g H' (mo + 6) 96 m9))) ∨ (¬ (okC n (nI 1) (nI 8)) ∧ MP g n0 H' mo 1 pn tn wn ∧ AI g H' (mo + 6) 96 m9)))) [.ref mo, .int n, .long v].toArray s 0 0 (fun q => n0 q)) (F0 m 53 ls []) := by
      intro k
      induction k with
      | zero =>
        intro  i   H   locs   ls   c1 hi hm hh hcv hfr6 hF hl
        obtain rfl : i = k1 := by omega
        refine lv_iload hx hb d_Model_feed_53 (lv_at hl 0 rfl) ?_
        refine lv_iload_n hx hb d_Model_feed_55 rfl (lv_at hl 2 rfl) ?_
        refine lv_icmp_ge (tgt := 89) hx hb d_Model_feed_56 (by decide) (fun _ => ?_) (fun h9 => absurd (nI_le (Nat.le_refl _) (by omega)) h9)
        refine lv_aload_n hx hb d_Model_feed_89 rfl (lv_at hl 1 rfl) ?_
        refine lv_dup hx hb d_Model_feed_90 rfl ?_
        refine q_get (C := "KateDeskModel") (T := T_Model) (N := 14) (ci := 8) E hm.1 in_Model rfl 10 (by decide) w_1011 rfl rfl d_Model_feed_91 ?_
        refine lv_iload_n hx hb d_Model_feed_94 rfl (lv_at hl 2 rfl) ?_
        refine lv_iadd hx hb d_Model_feed_95 ?_
        refine lv_topi (fun t9 e9 => ?_)
        obtain rfl : t9 = nI (tn + i) := e9.trans (nI_add _ _)
        refine q_put (C := "KateDeskModel") (T := T_Model) (N := 14) (ci := 8) (ty := .int) E hm.1 in_Model ty_Model tyok_Model nm_Model rfl 10 (by decide) w_1011 rfl rfl (by decide +kernel) rfl rfl (Nat.le_of_ble_eq_true rfl) hmn hF d_Model_feed_96 (fun H1 locs hq ho2 hF => ?_)
        have hm : MS g n0 H1 mo 0 (nI pn) (nI (tn + i)) (nI wn) w9 n9 fd := hm.frm hq (by omega) (by omega) (by omega) (by omega) ho2
        have hh := AI.off hq (by omega) hh
        have hfr6 := hfr6.tr (hq.mono (fun q h => Or.inl (Or.inl h)))
        refine lv_aload_n hx hb d_Model_feed_99 rfl (lv_at hl 1 rfl) ?_
        refine q_get (C := "KateDeskModel") (T := T_Model) (N := 14) (ci := 8) E hm.1 in_Model rfl 10 (by decide) w_1011 rfl rfl d_Model_feed_100 ?_
        exact q_iret E hr hlk (⟨_, rfl, Or.inl ⟨hok, Or.inl ⟨_, e_k1, hfit, rfl, hP.fin6 hfr6 ⟨_, hh⟩ hw9 hm ⟨hbd.1, hfit, hbd.2.2⟩, _, hh, hcv⟩⟩⟩) hF d_Model_feed_103
      | succ k ih =>
        intro  i   H   locs   ls   c1 hi hm hh hcv hfr6 hF hl
        refine lv_iload hx hb d_Model_feed_53 (lv_at hl 0 rfl) ?_
        refine lv_iload_n hx hb d_Model_feed_55 rfl (lv_at hl 2 rfl) ?_
        refine lv_icmp_ge (tgt := 89) hx hb d_Model_feed_56 (by decide) (fun h9 => absurd h9 (nI_ge (by omega) (by omega))) (fun _ => ?_)
        refine lv_aload_n hx hb d_Model_feed_59 rfl (lv_at hl 1 rfl) ?_
        refine q_get (C := "KateDeskModel") (T := T_Model) (N := 14) (ci := 8) E hm.1 in_Model rfl 9 (by decide) w_1010 rfl rfl d_Model_feed_60 ?_
        refine lv_aload_n hx hb d_Model_feed_63 rfl (lv_at hl 1 rfl) ?_
        refine q_get (C := "KateDeskModel") (T := T_Model) (N := 14) (ci := 8) E hm.1 in_Model rfl 10 (by decide) w_1011 rfl rfl d_Model_feed_64 ?_
        refine lv_iload hx hb d_Model_feed_67 (lv_at hl 0 rfl) ?_
        refine lv_iadd hx hb d_Model_feed_69 ?_
        refine lv_topi (fun t9 e9 => ?_)
        obtain rfl : t9 = nI (tn + i) := e9.trans (nI_add _ _)
        refine lv_lload_n hx hb d_Model_feed_70 rfl (lv_at hl 3 rfl) ?_
        refine lv_bipush (v := nI 8) hx hb d_Model_feed_71 (by decide) ?_
        refine lv_iload hx hb d_Model_feed_73 (lv_at hl 0 rfl) ?_
        refine lv_imul hx hb d_Model_feed_75 ?_
        refine lv_lshr (v := v >>> (((nI 8) * (nI i)).toInt64 &&& 63)) hx hb d_Model_feed_76 rfl ?_
        refine lv_ldc2 (v := 255) hx hb E.2.2.2.1 (E.2.2.2.2.1 _ w_1057) d_Model_feed_77 ?_
        refine lv_land hx hb d_Model_feed_80 ?_
        refine lv_l2i (v := ((v >>> (((nI 8) * (nI i)).toInt64 &&& 63)) &&& 255).toInt32) hx hb d_Model_feed_81 rfl ?_
        refine q_iast E hh hn6 hF (tn + i) rfl (by omega) (by decide) d_Model_feed_82 (fun H1 locs hq hft2 hF => ?_)
        have hm := hm.frm hq (by omega) (by omega) (by omega) (by omega) (OB.off hq (by omega) hm.1)
        refine lv_iinc (k := 0) (v := nI (i + 1)) (lv' := [(4, .int (nI (i + 1))), (0, .ref mo), (1, .int (nI k1)), (2, .long v)]) hx hb d_Model_feed_83 hl rfl (i_inc i) (by decide) rfl (fun ls hl => ?_)
        refine lv_goto (tgt := 53) hx hb d_Model_feed_86 (by decide) ?_
        have hl : lv_has ls 5 [(4, .int (nI (i + 1))), (0, .ref mo), (1, .int (nI k1)), (2, .long v)] := lv_sub hl [0, 1, 2, 3] rfl
        exact ih (i + 1) _ _ ls _ (by omega) hm hft2 hcv.nx (hfr6.tr (hq.mono (fun q h => Or.inr h))) hF hl
    exact loop k1 0 _ _ ls _ (by omega) hm hh ⟨fun _ _ => rfl, fun j hj => absurd hj (Nat.not_lt_zero _)⟩ hfr6 hF hl
  refine lv_aload_n hx hb d_Model_feed_0 rfl (lv_at hl 0 rfl) ?_
  refine lv_iload_n hx hb d_Model_feed_1 rfl (lv_at hl 1 rfl) ?_
  refine lv_iconst (v := nI 1) hx hb d_Model_feed_2 (by decide) ?_
  refine lv_icmp_lt (tgt := 12) hx hb d_Model_feed_3 (by decide) (fun g_3 => ?_) (fun g_3 => ?_)
  rotate_left
  · skip
    refine lv_iload_n hx hb d_Model_feed_6 rfl (lv_at hl 1 rfl) ?_
    refine lv_bipush (v := nI 8) hx hb d_Model_feed_7 (by decide) ?_
    refine lv_icmp_le (tgt := 16) hx hb d_Model_feed_9 (by decide) (fun g_9 => ?_) (fun g_9 => ?_)
    rotate_left
    · skip
      refine lv_iconst (v := nI 1) hx hb d_Model_feed_12 (by decide) ?_
      refine lv_goto (tgt := 17) hx hb d_Model_feed_13 (by decide) ?_
      have hl : lv_has ls 5 [(0, .ref mo), (1, .int n), (2, .long v)] := lv_sub hl [0, 1, 2] rfl
      exact bad _ ls (fun h => (fun q => g_9 q.2) h) hF hl
    refine lv_iconst (v := nI 0) hx hb d_Model_feed_16 (by decide) ?_
    have hl : lv_has ls 5 [(0, .ref mo), (1, .int n), (2, .long v)] := lv_sub hl [0, 1, 2] rfl
    exact good _ ls (⟨g_3, g_9⟩) hF hl
  refine lv_iconst (v := nI 1) hx hb d_Model_feed_12 (by decide) ?_
  refine lv_goto (tgt := 17) hx hb d_Model_feed_13 (by decide) ?_
  have hl : lv_has ls 5 [(0, .ref mo), (1, .int n), (2, .long v)] := lv_sub hl [0, 1, 2] rfl
  exact bad _ ls (fun h => (fun q => q.1 g_3) h) hF hl
