theorem bit8 : ∀ v, v < 256 → ∀ i, i < 8 → ((nI v) >>> ((nI i) &&& 31)) &&& (nI 1) = nI (v / 2 ^ i % 2) := by decide +kernel
theorem sh_1 : ∀ o, o < 28 → ((1 : Int64) <<< ((nI o).toInt64 &&& 63)).toInt = ((1 * 2 ^ o : Nat) : Int) := by decide +kernel
theorem pw_splitG {m : Nat} : (2 ^ m : Nat) = 2 ^ (m % 28) * 268435456 ^ (m / 28) := by
  rw [show (268435456 : Nat) = 2 ^ 28 from rfl, ← Nat.pow_mul, ← Nat.pow_add, Nat.mod_add_div]
theorem SV_upd {fd : Nat → Int64} {a q : Nat} {x : Int64} (hq : q < 14) : SV (vp_updL fd (14 * a + q) x) a 14 = VL (vp_updL (fun k => fd (14 * a + k)) q x) 14 := by
  unfold SV
  refine VL_ext (fun k hk => ?_)
  by_cases e : k = q
  · subst e
    simp [vp_updL]
  · simp [vp_updL, e, show 14 * a + k ≠ 14 * a + q by omega]
/-- one bit more -/
theorem setb {fd fd1 : Nat → Int64} {a kb i v : Nat} (hkb : kb < 32) (hi : i < 8) (hD : DD fd1) (ha : a < 170) (hV : SV fd a 14 < ((256 ^ kb : Nat) : Int)) (hS : SV fd1 a 14 = SV fd a 14 + ((v % 2 ^ i * 256 ^ kb : Nat) : Int)) (hb : v / 2 ^ i % 2 = 1) :
    SV (vp_updL fd1 (14 * a + (8 * kb + i) / 28) (fd1 (14 * a + (8 * kb + i) / 28) ||| ((1 : Int64) <<< ((nI (8 * kb + i - (8 * kb + i) / 28 * 28)).toInt64 &&& 63)))) a 14 = SV fd a 14 + ((v % 2 ^ (i + 1) * 256 ^ kb : Nat) : Int) := by
  have eo : 8 * kb + i - (8 * kb + i) / 28 * 28 = (8 * kb + i) % 28 := by omega
  rw [eo]
  have hq : (8 * kb + i) / 28 < 14 := by omega
  have ho : (8 * kb + i) % 28 < 28 := Nat.mod_lt _ (by decide)
  have hpw : (2 ^ i * 256 ^ kb : Nat) = 2 ^ ((8 * kb + i) % 28) * 268435456 ^ ((8 * kb + i) / 28) := by
    rw [← pw_splitG, show (256 : Nat) = 2 ^ 8 from rfl, ← Nat.pow_mul, ← Nat.pow_add, Nat.add_comm]
  generalize (8 * kb + i) % 28 = o at *
  generalize (8 * kb + i) / 28 = q at *
  have hB : ((2 ^ i * 256 ^ kb : Nat) : Int) = ((2 ^ o : Nat) : Int) * 268435456 ^ q := by
    rw [hpw, Int.natCast_mul]
    congr 1
  have hm1 : v % 2 ^ i * 256 ^ kb + 256 ^ kb ≤ 2 ^ i * 256 ^ kb := by
    have h1 := Nat.mul_le_mul_right (256 ^ kb) (Nat.succ_le_of_lt (Nat.mod_lt v (Nat.two_pow_pos i)))
    rw [Nat.succ_mul] at h1
    exact h1
  have hlt : SV fd1 a 14 < ((2 ^ o : Nat) : Int) * 268435456 ^ q := by
    rw [← hB, hS]
    omega
  have hy := sh_1 o ho
  have hz : 1 * 2 ^ o < 268435456 := by
    have := p2_27 ho
    omega
  have r := orv (f := fun k => fd1 (14 * a + k)) hq ho (fun k hk => hD _ (by omega)) hlt hy hz
  rw [SV_upd hq, r.2, hy, show VL (fun k => fd1 (14 * a + k)) 14 = SV fd1 a 14 from rfl, hS, Nat.one_mul, ← hB, Nat.mod_pow_succ, hb, Nat.mul_one, Nat.add_mul]
  omega
theorem setb0 {i v kb : Nat} (hb : v / 2 ^ i % 2 ≠ 1) : ((v % 2 ^ i * 256 ^ kb : Nat) : Int) = ((v % 2 ^ (i + 1) * 256 ^ kb : Nat) : Int) := by
  have h0 : v / 2 ^ i % 2 = 0 := by omega
  rw [Nat.mod_pow_succ, h0, Nat.mul_zero, Nat.add_zero]
/-- what number answers of a tape -/
def NB (r : Int32) (t : Nat → Nat) (tn : Nat) : Prop := (tn ≤ 32 ∧ ((r = 1 ∧ (tvN t tn : Int) < VL kR 14) ∨ (r = 0 ∧ VL kR 14 ≤ (tvN t tn : Int)))) ∨ (32 < tn ∧ r = 0)
theorem NB.eq {r r' : Int32} {t : Nat → Nat} {tn : Nat} (h : NB r t tn) (h' : NB r' t tn) : r = r' := by
  rcases h with ⟨h1, ⟨h2, h3⟩ | ⟨h2, h3⟩⟩ | ⟨h1, h2⟩ <;> rcases h' with ⟨k1, ⟨k2, k3⟩ | ⟨k2, k3⟩⟩ | ⟨k1, k2⟩ <;> first | omega | (rw [h2, k2])
set_option maxHeartbeats 4000000 in
set_option maxRecDepth 100000 in
theorem X_Model_isNumber (l : Launch) (g : WG) (n0 : Nat → Prop) (mo a : Nat) (th pw td wr : Int32) (w n : Nat) (hw : WH w n) (fd : Nat → Int64) (ha : a < 170) : Ctr l y_Model_isNumber (.code y_Model_isNumber prog_11_method_26_code 3 (some FieldType.boolean)) 1 22 0 0 n0 g [.ref mo, .int (nI a)] (fun H => MS g n0 H mo th pw td wr w n fd) (QI (fun r H H' => ((r = 1 ∧ SV fd a 14 < VL (kP w) 14) ∨ (r = 0 ∧ VL (kP w) 14 ≤ SV fd a 14)) ∧ H' = H)) := by
  refine ctr_mk l (lv0 := [(0, .ref mo), (1, .int (nI a))]) (by decide) (Nat.le_of_ble_eq_true rfl) rfl ?_
  intro p e s m below meth c ls E hr hlk hnm hl hP
  have hx := E.1
  have hb := E.2.1
  have hK := E.2.2.2.2.2
  have hF : ∀ q ∈ ([] : List Loc), n0 q.base := fun q hq => absurd hq List.not_mem_nil
  have hm := hP
  have hw2 : w ≤ 1 := by rcases hw with h | h <;> omega
  have hfd : ∀ k, k < 14 → dg ((fun k => fd (14 * a + k)) k) := fun k hk => hm.2.2.2.2.2.1 _ (by omega)
  have hpd : ∀ k, k < 14 → dg (kP w k) := fun k hk => kPr_dg _ (by omega)
  have lp : ∀ (k : Nat) (locs : List Loc) (ls : Array Slot) (v : Int32), k ≤ 14 → v = nI k - 1 → (∀ j, k ≤ j → j < 14 → fd (14 * a + j) = kP w j) → (∀ q ∈ locs, n0 q.base) → lv_has ls 3 [(2, .int v), (0, .ref mo), (1, .int (nI a))] → W p l e { frames := 1, cells := 0, slots := 0, locals := 22 } s m [.ref mo, .int (nI a)].toArray below meth c s.heap locs 0 0 (MQ below (QcP (QI (fun r H H' => ((r = 1 ∧ SV fd a 14 < VL (kP w) 14) ∨ (r = 0 ∧ VL (kP w) 14 ≤ SV fd a 14)) ∧ H' = H))) [.ref mo, .int (nI a)].toArray s 0 0 (fun q => n0 q)) (F0 m 3 ls []) := by
    intro k
    induction k with
    | zero =>
      intro  locs   ls   v hk14 hv0 heq hF hl
      subst hv0
      refine lv_iload_n hx hb d_Model_isNumber_3 rfl (lv_at hl 0 rfl) ?_
      refine lv_if_lt (tgt := 67) hx hb d_Model_isNumber_4 (by decide) (fun _ => ?_) (fun h9 => absurd (by decide) h9)
      refine lv_iconst (v := nI 0) hx hb d_Model_isNumber_67 (by decide) ?_
      exact q_zret E hr rfl hlk (⟨_, rfl, Or.inr ⟨rfl, Int.le_of_eq (VL_ext (fun j hj => (heq j (Nat.zero_le _) hj).symm))⟩, rfl⟩) hF d_Model_isNumber_68
    | succ k ih =>
      intro  locs   ls   v hk14 hv0 heq hF hl
      rw [nI_pred] at hv0
      subst hv0
      refine lv_iload_n hx hb d_Model_isNumber_3 rfl (lv_at hl 0 rfl) ?_
      refine lv_if_lt (tgt := 67) hx hb d_Model_isNumber_4 (by decide) (fun h9 => absurd h9 (nI_pos (by omega))) (fun _ => ?_)
      refine lv_aload_n hx hb d_Model_isNumber_7 rfl (lv_at hl 1 rfl) ?_
      refine lv_iload_n hx hb d_Model_isNumber_8 rfl (lv_at hl 2 rfl) ?_
      refine lv_iload_n hx hb d_Model_isNumber_9 rfl (lv_at hl 0 rfl) ?_
      refine q_cV (rest := []) E (c_Model_limb l g n0 mo a k th (nI w) (nI n) pw td wr fd (by omega) (by omega)) w_979 w_15 w_976 w_978 (bw_s 18 rfl) hd_Model_limb rfl ⟨by decide, by decide⟩ (OB.recv E.2.2.2.2.2 (by rfl) hm.1) (⟨hm.1, hm.2.2.2.2.1⟩) hF hl.1 rfl (Nat.le_of_ble_eq_true rfl) d_Model_isNumber_10 ⟨by decide, by decide⟩ (ql (fun v1 H1 locs hq hF => ?_))
      obtain ⟨hq, hq9⟩ := hq
      obtain rfl := hq9
      subst hq
      refine lv_aload_n hx hb d_Model_isNumber_13 rfl (lv_at hl 1 rfl) ?_
      refine q_get (C := "KateDeskModel") (T := T_Model) (N := 14) (ci := 8) E hm.1 in_Model rfl 2 (by decide) w_1003 rfl rfl d_Model_isNumber_14 ?_
      refine lv_bipush (v := nI 14) hx hb d_Model_isNumber_17 (by decide) ?_
      refine lv_aload_n hx hb d_Model_isNumber_19 rfl (lv_at hl 1 rfl) ?_
      refine q_get (C := "KateDeskModel") (T := T_Model) (N := 14) (ci := 8) E hm.1 in_Model rfl 6 (by decide) w_1007 rfl rfl d_Model_isNumber_20 ?_
      refine lv_imul hx hb d_Model_isNumber_23 ?_
      refine lv_topi (fun t9 e9 => ?_)
      obtain rfl : t9 = nI (14 * w) := e9.trans (pk_mul _ _)
      refine lv_iload_n hx hb d_Model_isNumber_24 rfl (lv_at hl 0 rfl) ?_
      refine lv_iadd hx hb d_Model_isNumber_25 ?_
      refine lv_topi (fun t9 e9 => ?_)
      obtain rfl : t9 = nI (14 * w + k) := e9.trans (nI_add _ _)
      refine q_lald (N := 28) (f := kPr) E hm.2.1 (14 * w + k) rfl (by omega) (by decide) d_Model_isNumber_26 ?_
      refine W.lcmp hx hb d_Model_isNumber_27 ?_
      refine lv_if_eq (tgt := 61) hx hb d_Model_isNumber_28 (by decide) (fun h1 => ?_) (fun h1 => ?_)
      rotate_left
      · skip
        refine lv_aload_n hx hb d_Model_isNumber_31 rfl (lv_at hl 1 rfl) ?_
        refine lv_iload_n hx hb d_Model_isNumber_32 rfl (lv_at hl 2 rfl) ?_
        refine lv_iload_n hx hb d_Model_isNumber_33 rfl (lv_at hl 0 rfl) ?_
        refine q_cV (rest := []) E (c_Model_limb l g n0 mo a k th (nI w) (nI n) pw td wr fd (by omega) (by omega)) w_979 w_15 w_976 w_978 (bw_s 18 rfl) hd_Model_limb rfl ⟨by decide, by decide⟩ (OB.recv E.2.2.2.2.2 (by rfl) hm.1) (⟨hm.1, hm.2.2.2.2.1⟩) hF hl.1 rfl (Nat.le_of_ble_eq_true rfl) d_Model_isNumber_34 ⟨by decide, by decide⟩ (ql (fun v2 H2 locs hq hF => ?_))
        obtain ⟨hq, hq9⟩ := hq
        obtain rfl := hq9
        subst hq
        refine lv_aload_n hx hb d_Model_isNumber_37 rfl (lv_at hl 1 rfl) ?_
        refine q_get (C := "KateDeskModel") (T := T_Model) (N := 14) (ci := 8) E hm.1 in_Model rfl 2 (by decide) w_1003 rfl rfl d_Model_isNumber_38 ?_
        refine lv_bipush (v := nI 14) hx hb d_Model_isNumber_41 (by decide) ?_
        refine lv_aload_n hx hb d_Model_isNumber_43 rfl (lv_at hl 1 rfl) ?_
        refine q_get (C := "KateDeskModel") (T := T_Model) (N := 14) (ci := 8) E hm.1 in_Model rfl 6 (by decide) w_1007 rfl rfl d_Model_isNumber_44 ?_
        refine lv_imul hx hb d_Model_isNumber_47 ?_
        refine lv_topi (fun t9 e9 => ?_)
        obtain rfl : t9 = nI (14 * w) := e9.trans (pk_mul _ _)
        refine lv_iload_n hx hb d_Model_isNumber_48 rfl (lv_at hl 0 rfl) ?_
        refine lv_iadd hx hb d_Model_isNumber_49 ?_
        refine lv_topi (fun t9 e9 => ?_)
        obtain rfl : t9 = nI (14 * w + k) := e9.trans (nI_add _ _)
        refine q_lald (N := 28) (f := kPr) E hm.2.1 (14 * w + k) rfl (by omega) (by decide) d_Model_isNumber_50 ?_
        refine W.lcmp hx hb d_Model_isNumber_51 ?_
        refine lv_if_ge (tgt := 59) hx hb d_Model_isNumber_52 (by decide) (fun h2 => ?_) (fun h2 => ?_)
        rotate_left
        · skip
          refine lv_iconst (v := nI 1) hx hb d_Model_isNumber_55 (by decide) ?_
          refine lv_goto (tgt := 60) hx hb d_Model_isNumber_56 (by decide) ?_
          exact q_zret E hr rfl hlk (⟨_, rfl, Or.inl ⟨rfl, VL_lex (f := fun k => fd (14 * a + k)) (k := k) (by omega) hfd hpd (fun j a c => heq j (by omega) c) (cmp_lt h2)⟩, rfl⟩) hF d_Model_isNumber_60
        refine lv_iconst (v := nI 0) hx hb d_Model_isNumber_59 (by decide) ?_
        exact q_zret E hr rfl hlk (⟨_, rfl, Or.inr ⟨rfl, Int.le_of_lt (VL_lex (h := fun k => fd (14 * a + k)) (k := k) (by omega) hpd hfd (fun j a c => (heq j (by omega) c).symm) (cmp_gt h1 h2))⟩, rfl⟩) hF d_Model_isNumber_60
      refine lv_iinc (k := 0) (v := nI k - 1) (lv' := [(2, .int (nI k - 1)), (0, .ref mo), (1, .int (nI a))]) hx hb d_Model_isNumber_61 hl rfl (i_dec _) (by decide) rfl (fun ls hl => ?_)
      refine lv_goto (tgt := 3) hx hb d_Model_isNumber_64 (by decide) ?_
      have hl : lv_has ls 3 [(2, .int (nI k - 1)), (0, .ref mo), (1, .int (nI a))] := lv_sub hl [0, 1, 2] rfl
      exact ih _ ls _ (by omega) rfl (fun j h3 h4 => if e : j = k then by subst e; exact cmp_eq h1 else heq j (by omega) h4) hF hl
  refine lv_bipush (v := nI 13) hx hb d_Model_isNumber_0 (by decide) ?_
  refine lv_istore_n (lv' := [(2, .int (nI 13)), (0, .ref mo), (1, .int (nI a))]) hx hb d_Model_isNumber_2 rfl hl (by decide) rfl (fun ls hl => ?_)
  have hl : lv_has ls 3 [(2, .int (nI 13)), (0, .ref mo), (1, .int (nI a))] := lv_sub hl [0, 1, 2] rfl
  exact lp 14 _ ls _ (by decide) (by decide) (fun j h3 h4 => absurd h4 (by omega)) hF hl
/-- the int that the model's feed puts behind its tape at its turn i -/
def fbM (v : Int64) (i : Nat) : Int32 := ((v >>> (((nI 8) * (nI i)).toInt64 &&& 63)) &&& 255).toInt32
def fdM (c : Nat → Int32) (v : Int64) (t i : Nat) (c' : Nat → Int32) : Prop := (∀ j, j < t → c' j = c j) ∧ ∀ j, j < i → c' (t + j) = fbM v j
theorem fdM.nx {c c' : Nat → Int32} {v : Int64} {t i : Nat} (h : fdM c v t i c') : fdM c v t (i + 1) (upd c' (t + i) (fbM v i)) := by
  refine ⟨fun j hj => ?_, fun j hj => ?_⟩
  · rw [show upd c' (t + i) (fbM v i) j = c' j from if_neg (by omega)]
    exact h.1 j hj
  · by_cases e : j = i
    · subst e
      simp [upd]
    · rw [show upd c' (t + i) (fbM v i) (t + j) = c' (t + j) from if_neg (by omega)]
      exact h.2 j (by omega)