theorem PP_R : PP 1 10 = RI := by decide +kernel
theorem RI_10 : RI < 268435456 ^ 10 := by decide +kernel
/-- a number of the model -/
def NV (fd : Nat → Int64) (s : Nat) (x : Int) : Prop := SV fd s 14 = x
theorem NV.nn {fd : Nat → Int64} {s : Nat} {x : Int} (h : NV fd s x) (hd : DD fd) (hs : s < 170) : 0 ≤ x := by
  have r := VL_range (f := fun k => fd (14 * s + k)) (n := 14) (fun k hk => hd _ (by omega))
  rw [show VL (fun k => fd (14 * s + k)) 14 = x from h] at r
  exact r.1
theorem NV.ten {fd : Nat → Int64} {s : Nat} {x : Int} (h : NV fd s x) (hd : DD fd) (hs : s < 170) (hx : x < RI) : SV fd s 10 = x := by
  have h1 := VL_high (f := fun k => fd (14 * s + k)) (n := 10) 4 (fun k hk => hd _ (by omega)) (by rw [show VL (fun k => fd (14 * s + k)) (10 + 4) = x from h]; exact Int.lt_trans hx RI_10)
  exact h1.2.trans h
theorem SV_z4 {fd : Nat → Int64} {s : Nat} (h : ∀ k, 10 ≤ k → k < 14 → fd (14 * s + k) = 0) : SV fd s 14 = SV fd s 10 := by
  show VL (fun k => fd (14 * s + k)) 10 + (fd (14 * s + 10)).toInt * 268435456 ^ 10 + (fd (14 * s + 11)).toInt * 268435456 ^ 11 + (fd (14 * s + 12)).toInt * 268435456 ^ 12 + (fd (14 * s + 13)).toInt * 268435456 ^ 13 = _
  rw [h 10 (by decide) (by decide), h 11 (by decide) (by decide), h 12 (by decide) (by decide), h 13 (by decide) (by decide), show (0 : Int64).toInt = 0 by decide, Int.zero_mul, Int.zero_mul, Int.zero_mul, Int.zero_mul, Int.add_zero, Int.add_zero, Int.add_zero, Int.add_zero]
  rfl
theorem NV.off {fd fd' : Nat → Int64} {s r : Nat} {x : Int} (h : NV fd s x) (ho : ∀ j, (j < 14 * r ∨ 14 * r + 14 ≤ j) → fd' j = fd j) (hne : s ≠ r) : NV fd' s x := by
  refine Eq.trans ?_ h
  exact VL_ext (fun k hk => ho _ (by omega))
theorem w1 : WH 1 10 := Or.inr ⟨rfl, rfl⟩
theorem sq_lt {x y : Int} (hx : 0 ≤ x ∧ x < RI) (hy : 0 ≤ y ∧ y < RI) : 0 ≤ x + y ∧ x + y < 268435456 ^ 10 ∧ 0 ≤ x - y + RI ∧ x - y + RI < 268435456 ^ 10 := by
  have h : 2 * RI < 268435456 ^ 10 := by decide +kernel
  omega
theorem i32_bit {x : Int64} {m : Nat} (h : x.toInt = (m : Int)) (hm : m < 2) : x.toInt32 = nI m := by
  have e : x = 0 ∨ x = 1 := by
    rcases (show m = 0 ∨ m = 1 by omega) with rfl | rfl
    · exact Or.inl (i64_eq_of (h.trans (by decide)))
    · exact Or.inr (i64_eq_of (h.trans (by decide)))
  rcases e with rfl | rfl
  · have : m = 0 := by
      have h2 : (0 : Int64).toInt = 0 := by decide
      omega
    subst this
    decide
  · have : m = 1 := by
      have h2 : (1 : Int64).toInt = 1 := by decide
      omega
    subst this
    decide
theorem and_1 {x : Int64} (hx : 0 ≤ x.toInt) : (x &&& 1).toInt = x.toInt % 2 := by
  have h := and_mask (c := 1) hx (by decide)
  exact h
theorem N_Model_product (l : Launch) (g : WG) (n0 : Nat → Prop) (mo r a b : Nat) (th pw td wr : Int32) (fd : Nat → Int64) (hr1 : r < 170) (ha : a < 170) (hb1 : b < 170) (fa : Nat → Int64) (hAT : (∀ j, j ≤ 10 → PP 1 10 ∣ VL (fun k => fa (210 * 1 + 14 * j + k)) 10 - 268435456 ^ (10 + j))) (x y : Int) (hd : DD fd) (hx : NV fd a x) (hy : NV fd b y) (hxr : x < RI) (hyr : y < RI) : Ctr l y_Model_product (.code y_Model_product prog_11_method_17_code 9 none) 2 51 0 0 n0 g [.ref mo, .int (nI r), .int (nI a), .int (nI b)] (fun H => MS g n0 H mo th pw td wr 1 10 fd ∧ AJ g H (mo + 4) 420 fa) (QV (fun H H' => KJ g (fun q => q = mo + 1 ∨ q = mo + 5) H H' ∧ ∃ fd', MS g n0 H' mo th pw td wr 1 10 fd' ∧ (∀ j, (j < 14 * r ∨ 14 * r + 14 ≤ j) → fd' j = fd j) ∧ NV fd' r ((x * y) % RI))) :=
  (V_Model_product l g n0 mo r a b th pw td wr 1 10 w1 fd hr1 ha hb1 fa hAT).imp (fun _ h => h) (fun v H H' h _ => ⟨h.1, by
    obtain ⟨hk, fd', hm, hpv, hv⟩ := h.2
    have hxx := sq_lt ⟨hx.nn hd ha, hxr⟩ ⟨hy.nn hd hb1, hyr⟩
    rw [hx.ten hd ha hxr, hy.ten hd hb1 hyr, PP_R] at hv
    refine ⟨hk, fd', hm, hpv.1, (SV_z4 (fun k h1 h2 => hpv.2.2 k h1 h2)).trans ?_⟩
    exact hv⟩)
theorem N_Model_add (l : Launch) (g : WG) (n0 : Nat → Prop) (mo r a b : Nat) (th pw td wr : Int32) (fd : Nat → Int64) (hr1 : r < 170) (ha : a < 170) (hb1 : b < 170) (x y : Int) (hd : DD fd) (hx : NV fd a x) (hy : NV fd b y) (hxr : x < RI) (hyr : y < RI) : Ctr l y_Model_add (.code y_Model_add prog_11_method_15_code 5 none) 2 51 0 0 n0 g [.ref mo, .int (nI r), .int (nI a), .int (nI b)] (fun H => MS g n0 H mo th pw td wr 1 10 fd) (QV (fun H H' => KJ g (fun q => q = mo + 1 ∨ q = mo + 5) H H' ∧ ∃ fd', MS g n0 H' mo th pw td wr 1 10 fd' ∧ (∀ j, (j < 14 * r ∨ 14 * r + 14 ≤ j) → fd' j = fd j) ∧ NV fd' r ((x + y) % RI))) :=
  (c_Model_add l g n0 mo r a b th pw td wr 1 10 w1 fd hr1 ha hb1).imp (fun _ h => h) (fun v H H' h _ => ⟨h.1, by
    obtain ⟨hk, fd', hm, hpv, hv⟩ := h.2
    have hxx := sq_lt ⟨hx.nn hd ha, hxr⟩ ⟨hy.nn hd hb1, hyr⟩
    rw [hx.ten hd ha hxr, hy.ten hd hb1 hyr, PP_R] at hv
    refine ⟨hk, fd', hm, hpv.1, (SV_z4 (fun k h1 h2 => hpv.2.2 k h1 h2)).trans ?_⟩
    exact hv hxx.1 hxx.2.1⟩)
theorem N_Model_less (l : Launch) (g : WG) (n0 : Nat → Prop) (mo r a b : Nat) (th pw td wr : Int32) (fd : Nat → Int64) (hr1 : r < 170) (ha : a < 170) (hb1 : b < 170) (x y : Int) (hd : DD fd) (hx : NV fd a x) (hy : NV fd b y) (hxr : x < RI) (hyr : y < RI) : Ctr l y_Model_less (.code y_Model_less prog_11_method_16_code 5 none) 2 51 0 0 n0 g [.ref mo, .int (nI r), .int (nI a), .int (nI b)] (fun H => MS g n0 H mo th pw td wr 1 10 fd) (QV (fun H H' => KJ g (fun q => q = mo + 1 ∨ q = mo + 5) H H' ∧ ∃ fd', MS g n0 H' mo th pw td wr 1 10 fd' ∧ (∀ j, (j < 14 * r ∨ 14 * r + 14 ≤ j) → fd' j = fd j) ∧ NV fd' r ((x - y + RI) % RI))) :=
  (c_Model_less l g n0 mo r a b th pw td wr 1 10 w1 fd hr1 ha hb1).imp (fun _ h => h) (fun v H H' h _ => ⟨h.1, by
    obtain ⟨hk, fd', hm, hpv, hv⟩ := h.2
    have hxx := sq_lt ⟨hx.nn hd ha, hxr⟩ ⟨hy.nn hd hb1, hyr⟩
    rw [hx.ten hd ha hxr, hy.ten hd hb1 hyr, PP_R] at hv
    refine ⟨hk, fd', hm, hpv.1, (SV_z4 (fun k h1 h2 => hpv.2.2 k h1 h2)).trans ?_⟩
    exact hv hxx.2.2.1 hxx.2.2.2⟩)
set_option maxHeartbeats 4000000 in
set_option maxRecDepth 100000 in
theorem N_Model_bit (l : Launch) (g : WG) (n0 : Nat → Prop) (mo a i : Nat) (th pw td wr : Int32) (w n : Nat) (hw : WH w n) (fd : Nat → Int64) (ha : a < 170) (hi : i < 392) (E9 : Nat) (hE : NV fd a (E9 : Int)) : Ctr l y_Model_bit (.code y_Model_bit prog_11_method_18_code 3 (some FieldType.int)) 1 22 0 0 n0 g [.ref mo, .int (nI a), .int (nI i)] (fun H => MS g n0 H mo th pw td wr w n fd) (QI (fun r H H' => r = nI (E9 / 2 ^ i % 2) ∧ H' = H)) := by
  refine ctr_mk l (lv0 := [(0, .ref mo), (1, .int (nI a)), (2, .int (nI i))]) (by decide) (Nat.le_of_ble_eq_true rfl) rfl ?_
  intro p e s m below meth c ls E hr hlk hnm hl hP
  have hx := E.1
  have hb := E.2.1
  have hK := E.2.2.2.2.2
  have hF : ∀ q ∈ ([] : List Loc), n0 q.base := fun q hq => absurd hq List.not_mem_nil
  obtain ⟨hmo, hpr, ⟨fa, hab, had⟩, ⟨fc, hac⟩, hfd, hDD, hn01, hn05⟩ := id hP
  obtain ⟨hpd, hn1, hn14, hw1, hPT, hP1, hT0, hT1⟩ := wh_kP hw
  refine lv_aload_n hx hb d_Model_bit_0 rfl (lv_at hl 0 rfl) ?_
  refine lv_iload_n hx hb d_Model_bit_1 rfl (lv_at hl 1 rfl) ?_
  refine lv_iload_n hx hb d_Model_bit_2 rfl (lv_at hl 2 rfl) ?_
  refine lv_bipush (v := nI 28) hx hb d_Model_bit_3 (by decide) ?_
  refine lv_idiv hx hb d_Model_bit_5 (by decide) ?_
  refine lv_topi (fun t9 e9 => ?_)
  obtain rfl : t9 = nI (i / 28) := e9.trans (pk_div (by omega) (by decide) (by decide))
  refine q_cV (rest := []) E (c_Model_limb l g n0 mo a (i / 28) th (nI w) (nI n) pw td wr fd ha (by omega)) w_979 w_15 w_976 w_978 (bw_s 18 rfl) hd_Model_limb rfl ⟨by decide, by decide⟩ (OB.recv E.2.2.2.2.2 (by rfl) hmo) (⟨hmo, hfd⟩) hF hl.1 rfl (Nat.le_of_ble_eq_true rfl) d_Model_bit_6 ⟨by decide, by decide⟩ (ql (fun v1 H1 locs hq hF => ?_))
  obtain ⟨hq, hq9⟩ := hq
  obtain rfl := hq9
  subst hq
  refine lv_iload_n hx hb d_Model_bit_9 rfl (lv_at hl 2 rfl) ?_
  refine lv_bipush (v := nI 28) hx hb d_Model_bit_10 (by decide) ?_
  refine lv_irem hx hb d_Model_bit_12 (by decide) ?_
  refine lv_topi (fun t9 e9 => ?_)
  obtain rfl : t9 = nI (i - i / 28 * 28) := e9.trans (rem28 (by omega))
  refine lv_lshr (v := (fd (14 * a + i / 28)) >>> ((nI (i - i / 28 * 28)).toInt64 &&& 63)) hx hb d_Model_bit_13 rfl ?_
  refine lv_lconst (v := 1) hx hb d_Model_bit_14 (by decide) ?_
  refine lv_land hx hb d_Model_bit_15 ?_
  refine lv_l2i (v := (((fd (14 * a + i / 28)) >>> ((nI (i - i / 28 * 28)).toInt64 &&& 63)) &&& 1).toInt32) hx hb d_Model_bit_16 rfl ?_
  have hd : ∀ k, k < 14 → dg ((fun k => fd (14 * a + k)) k) := fun k hk => hDD _ (by omega)
  have h1 := VL_bit1 hd (show i / 28 < 14 by omega) (show i % 28 < 28 from Nat.mod_lt _ (by decide))
  rw [show VL (fun k => fd (14 * a + k)) 14 = (E9 : Int) from hE, pw_at, ← cast_p2 i, ← Int.natCast_ediv, show (2 : Int) = ((2 : Nat) : Int) from rfl, ← Int.natCast_emod] at h1
  have h2 : (fd (14 * a + i / 28) >>> ((nI (i - i / 28 * 28)).toInt64 &&& 63)).toInt = (fd (14 * a + i / 28)).toInt / 2 ^ (i % 28) := by rw [o28]; exact i64_shrN _ (sh_n _ (by omega))
  have d0 := hd (i / 28) (by omega)
  have h3 : ((fd (14 * a + i / 28) >>> ((nI (i - i / 28 * 28)).toInt64 &&& 63)) &&& 1).toInt = ((E9 / 2 ^ i % 2 : Nat) : Int) := by rw [and_1 (by rw [h2]; exact Int.ediv_nonneg d0.1 (Int.le_of_lt (p2_pos _))), h2]; exact h1.symm
  exact q_iret E hr hlk (⟨_, rfl, i32_bit h3 (Nat.mod_lt _ (by decide)), rfl⟩) hF d_Model_bit_17
theorem nr_sq (X : Int) (e : Nat) : ((X ^ e % RI) * (X ^ e % RI)) % RI = X ^ (2 * e) % RI := by rw [← Int.mul_emod, Nat.two_mul, Int.pow_add]
theorem nr_mu (X : Int) (e : Nat) : ((X ^ e % RI) * X) % RI = X ^ (e + 1) % RI := by rw [Int.mul_emod, Int.emod_emod_of_dvd _ (Int.dvd_refl _), ← Int.mul_emod, Int.pow_succ]
theorem one_14 : VL (fun k => if k = 0 then (1 : Int64) else 0) 14 = 1 := by decide +kernel
set_option maxHeartbeats 4000000 in
set_option maxRecDepth 100000 in
theorem N_Model_raise (l : Launch) (g : WG) (n0 : Nat → Prop) (mo r a b : Nat) (th pw td wr : Int32) (fd fa : Nat → Int64) (hr1 : r < 170) (ha : a < 170) (hb1 : b < 170) (hAT : (∀ j, j ≤ 10 → PP 1 10 ∣ VL (fun k => fa (210 * 1 + 14 * j + k)) 10 - 268435456 ^ (10 + j))) (X : Int) (E9 : Nat) (hX : NV fd a X) (hXr : X < RI) (hE : NV fd b (E9 : Int)) (hbw : b ≠ 121 ∧ b ≠ 122) : Ctr l y_Model_raise (.code y_Model_raise prog_11_method_19_code 5 none) 3 79 0 0 n0 g [.ref mo, .int (nI r), .int (nI a), .int (nI b)] (fun H => MS g n0 H mo th pw td wr 1 10 fd ∧ AJ g H (mo + 4) 420 fa) (QV (fun H H' => FRM (MR mo) H H' ∧ AJ g H' (mo + 4) 420 fa ∧ ∃ fd', MS g n0 H' mo th pw td wr 1 10 fd' ∧ (∀ j, ¬ (14 * 121 ≤ j ∧ j < 14 * 123) → (j < 14 * r ∨ 14 * r + 14 ≤ j) → fd' j = fd j) ∧ NV fd' r (X ^ E9 % RI))) := by
  refine ctr_mk l (lv0 := [(0, .ref mo), (1, .int (nI r)), (2, .int (nI a)), (3, .int (nI b))]) (by decide) (Nat.le_of_ble_eq_true rfl) rfl ?_
  intro p e s m below meth c ls E hr hlk hnm hl hP
  have hx := E.1
  have hb := E.2.1
  have hK := E.2.2.2.2.2
  have hF : ∀ q ∈ ([] : List Loc), n0 q.base := fun q hq => absurd hq List.not_mem_nil
  obtain ⟨hm, hab⟩ := hP
  have hDDf := hm.2.2.2.2.2.1
  have hfr : FRM (MR mo) s.heap s.heap := FRM.rf
  have loop : ∀ (k : Nat) (H : Heap) (locs : List Loc) (ls : Array Slot) (v : Int32) (fd1 : Nat → Int64), k ≤ 392 → v = nI k - 1 → FRM (MR mo) s.heap H → MS g n0 H mo th pw td wr 1 10 fd1 → AJ g H (mo + 4) 420 fa → NV fd1 121 (X ^ (E9 / 2 ^ k) % RI) → NV fd1 122 X → NV fd1 b (E9 : Int) → (∀ j, ¬ (14 * 121 ≤ j ∧ j < 14 * 123) → fd1 j = fd j) → (∀ q ∈ locs, n0 q.base) → lv_has ls 5 [(4, .int v), (0, .ref mo), (1, .int (nI r)), (2, .int (nI a)), (3, .int (nI b))] → W p l e { frames := 3, cells := 0, slots := 0, locals := 79 } s m [.ref mo, .int (nI r), .int (nI a), .int (nI b)].toArray below meth c H locs 0 0 (MQ below (QcP (QV (fun H H' => FRM (MR mo) H H' ∧ AJ g H' (mo + 4) 420 fa ∧ ∃ fd', MS g n0 H' mo th pw td wr 1 10 fd' ∧ (∀ j, ¬ (14 * 121 ≤ j ∧ j < 14 * 123) → (j < 14 * r ∨ 14 * r + 14 ≤ j) → fd' j = fd j) ∧ NV fd' r (X ^ E9 % RI)))) [.ref mo, .int (nI r), .int (nI a), .int (nI b)].toArray s 0 0 (fun q => n0 q)) (F0 m 18 ls []) := by
    intro k
    induction k with
    | zero =>
      intro  H   locs   ls   v   fd1 hk392 hv0 hfr hm hab h121 h122 hby hsm hF hl
      subst hv0
      refine lv_iload hx hb d_Model_raise_18 (lv_at hl 0 rfl) ?_
      refine lv_if_lt (tgt := 60) hx hb d_Model_raise_20 (by decide) (fun _ => ?_) (fun h9 => absurd (by decide) h9)
      refine lv_aload_n hx hb d_Model_raise_60 rfl (lv_at hl 1 rfl) ?_
      refine lv_iload_n hx hb d_Model_raise_61 rfl (lv_at hl 2 rfl) ?_
      refine lv_bipush (v := nI 121) hx hb d_Model_raise_62 (by decide) ?_
      refine q_cV (rest := []) E (c_Model_move l g n0 mo r 121 th pw td wr 1 10 w1 fd1 (by omega) (by omega)) w_1076 w_15 w_1073 w_1075 (bw_s 27 rfl) hd_Model_move rfl ⟨by decide, by decide⟩ (OB.recv E.2.2.2.2.2 (by rfl) hm.1) hm hF hl.1 rfl (Nat.le_of_ble_eq_true rfl) d_Model_raise_64 ⟨by decide, by decide⟩ (qv (fun H1 locs hq hF => ?_))
      obtain ⟨hq, fd2, hm, hpwfd2⟩ := hq
      have hab := AJ.off hq (by unfold MR; omega) hab
      have hfr := hfr.tr hq
      rw [show E9 / 2 ^ 0 = E9 from Nat.div_one E9] at h121
      exact q_vret E hr hlk (⟨rfl, hfr, hab, fd2, hm, fun j h1 h2 => (hpwfd2.1 j h2).trans (hsm j h1), (VL_ext (fun k hk => hpwfd2.2 k hk)).trans h121⟩) hF d_Model_raise_67
    | succ k ih =>
      intro  H   locs   ls   v   fd1 hk392 hv0 hfr hm hab h121 h122 hby hsm hF hl
      rw [nI_pred] at hv0
      subst hv0
      refine lv_iload hx hb d_Model_raise_18 (lv_at hl 0 rfl) ?_
      refine lv_if_lt (tgt := 60) hx hb d_Model_raise_20 (by decide) (fun h9 => absurd h9 (nI_pos (by omega))) (fun _ => ?_)
      refine lv_aload_n hx hb d_Model_raise_23 rfl (lv_at hl 1 rfl) ?_
      refine lv_bipush (v := nI 121) hx hb d_Model_raise_24 (by decide) ?_
      refine lv_bipush (v := nI 121) hx hb d_Model_raise_26 (by decide) ?_
      refine lv_bipush (v := nI 121) hx hb d_Model_raise_28 (by decide) ?_
      refine q_cV (rest := []) E (N_Model_product l g n0 mo 121 121 121 th pw td wr fd1 (by decide) (by decide) (by decide) fa hAT (X ^ (E9 / 2 ^ (k + 1)) % RI) (X ^ (E9 / 2 ^ (k + 1)) % RI) hm.2.2.2.2.2.1 h121 h121 (rm_r _).2 (rm_r _).2) w_1113 w_15 w_1110 w_1112 (bw_s 32 rfl) hd_Model_product rfl ⟨by decide, by decide⟩ (OB.recv E.2.2.2.2.2 (by rfl) hm.1) (⟨hm, hab⟩) hF hl.1 rfl (Nat.le_of_ble_eq_true rfl) d_Model_raise_30 ⟨by decide, by decide⟩ (qv (fun H1 locs hq hF => ?_))
      obtain ⟨hq, fd2, hm, ho, hnfd2⟩ := hq
      have hab := hq.ajo (by omega) hab
      have hfr := hfr.tr (kjR hq)
      have h122 := h122.off ho (by decide)
      have hby := hby.off ho hbw.1
      have hsm : (∀ j, ¬ (14 * 121 ≤ j ∧ j < 14 * 123) → fd2 j = fd j) := fun j hj => (ho j (by omega)).trans (hsm j hj)
      rw [nr_sq] at hnfd2
      refine lv_aload_n hx hb d_Model_raise_33 rfl (lv_at hl 1 rfl) ?_
      refine lv_iload_n hx hb d_Model_raise_34 rfl (lv_at hl 4 rfl) ?_
      refine lv_iload hx hb d_Model_raise_35 (lv_at hl 0 rfl) ?_
      refine q_cV (rest := []) E (N_Model_bit l g n0 mo b k th pw td wr 1 10 w1 fd2 hb1 (by omega) E9 hby) w_1093 w_15 w_1090 w_1092 (bw_s 29 rfl) hd_Model_bit rfl ⟨by decide, by decide⟩ (OB.recv E.2.2.2.2.2 (by rfl) hm.1) hm hF hl.1 rfl (Nat.le_of_ble_eq_true rfl) d_Model_raise_37 ⟨by decide, by decide⟩ (qi (fun rb H2 locs hq hF => ?_))
      obtain ⟨hrb, hq⟩ := hq
      have hq := hq.symm
      subst hq
      subst hrb
      refine lv_iconst (v := nI 1) hx hb d_Model_raise_40 (by decide) ?_
      refine lv_icmp_ne (tgt := 54) hx hb d_Model_raise_41 (by decide) (fun hc => ?_) (fun hc => ?_)
      rotate_left
      · skip
        have hc1 : E9 / 2 ^ k % 2 = 1 := (nI_eq (by omega) (by decide)).mp hc
        refine lv_aload_n hx hb d_Model_raise_44 rfl (lv_at hl 1 rfl) ?_
        refine lv_bipush (v := nI 121) hx hb d_Model_raise_45 (by decide) ?_
        refine lv_bipush (v := nI 121) hx hb d_Model_raise_47 (by decide) ?_
        refine lv_bipush (v := nI 122) hx hb d_Model_raise_49 (by decide) ?_
        refine q_cV (rest := []) E (N_Model_product l g n0 mo 121 121 122 th pw td wr fd2 (by decide) (by decide) (by decide) fa hAT (X ^ (2 * (E9 / 2 ^ (k + 1))) % RI) X hm.2.2.2.2.2.1 hnfd2 h122 (rm_r _).2 hXr) w_1113 w_15 w_1110 w_1112 (bw_s 32 rfl) hd_Model_product rfl ⟨by decide, by decide⟩ (OB.recv E.2.2.2.2.2 (by rfl) hm.1) (⟨hm, hab⟩) hF hl.1 rfl (Nat.le_of_ble_eq_true rfl) d_Model_raise_51 ⟨by decide, by decide⟩ (qv (fun H3 locs hq hF => ?_))
        obtain ⟨hq, fd3, hm, ho, hnfd3⟩ := hq
        have hab := hq.ajo (by omega) hab
        have hfr := hfr.tr (kjR hq)
        have h122 := h122.off ho (by decide)
        have hby := hby.off ho hbw.1
        have hsm : (∀ j, ¬ (14 * 121 ≤ j ∧ j < 14 * 123) → fd3 j = fd j) := fun j hj => (ho j (by omega)).trans (hsm j hj)
        rw [nr_mu, ← pw_odd hc1] at hnfd3
        refine lv_iinc (k := 0) (v := nI k - 1) (lv' := [(4, .int (nI k - 1)), (0, .ref mo), (1, .int (nI r)), (2, .int (nI a)), (3, .int (nI b))]) hx hb d_Model_raise_54 hl rfl (i_dec _) (by decide) rfl (fun ls hl => ?_)
        refine lv_goto (tgt := 18) hx hb d_Model_raise_57 (by decide) ?_
        have hl : lv_has ls 5 [(4, .int (nI k - 1)), (0, .ref mo), (1, .int (nI r)), (2, .int (nI a)), (3, .int (nI b))] := lv_sub hl [0, 1, 2, 3, 4] rfl
        exact ih _ _ ls _ fd3 (by omega) rfl hfr hm hab hnfd3 h122 hby hsm hF hl
      have hc0 : E9 / 2 ^ k % 2 ≠ 1 := fun e => hc (by rw [e])
      rw [← pw_even hc0] at hnfd2
      refine lv_iinc (k := 0) (v := nI k - 1) (lv' := [(4, .int (nI k - 1)), (0, .ref mo), (1, .int (nI r)), (2, .int (nI a)), (3, .int (nI b))]) hx hb d_Model_raise_54 hl rfl (i_dec _) (by decide) rfl (fun ls hl => ?_)
      refine lv_goto (tgt := 18) hx hb d_Model_raise_57 (by decide) ?_
      have hl : lv_has ls 5 [(4, .int (nI k - 1)), (0, .ref mo), (1, .int (nI r)), (2, .int (nI a)), (3, .int (nI b))] := lv_sub hl [0, 1, 2, 3, 4] rfl
      exact ih _ _ ls _ fd2 (by omega) rfl hfr hm hab hnfd2 h122 hby hsm hF hl
  refine lv_aload_n hx hb d_Model_raise_0 rfl (lv_at hl 0 rfl) ?_
  refine lv_bipush (v := nI 122) hx hb d_Model_raise_1 (by decide) ?_
  refine lv_iload_n hx hb d_Model_raise_3 rfl (lv_at hl 2 rfl) ?_
  refine q_cV (rest := []) E (c_Model_move l g n0 mo 122 a th pw td wr 1 10 w1 fd (by omega) (by omega)) w_1076 w_15 w_1073 w_1075 (bw_s 27 rfl) hd_Model_move rfl ⟨by decide, by decide⟩ (OB.recv E.2.2.2.2.2 (by rfl) hm.1) hm hF hl.1 rfl (Nat.le_of_ble_eq_true rfl) d_Model_raise_4 ⟨by decide, by decide⟩ (qv (fun H1 locs hq hF => ?_))
  obtain ⟨hq, fd1, hm, hpwfd1⟩ := hq
  have hab := AJ.off hq (by unfold MR; omega) hab
  have hfr := hfr.tr hq
  have h122 : NV fd1 122 X := (VL_ext (fun k hk => hpwfd1.2 k hk)).trans hX
  refine lv_aload_n hx hb d_Model_raise_7 rfl (lv_at hl 0 rfl) ?_
  refine lv_bipush (v := nI 121) hx hb d_Model_raise_8 (by decide) ?_
  refine q_cV (rest := []) E (c_Model_one l g n0 mo 121 th pw td wr 1 10 w1 fd1 (by decide)) w_971 w_15 w_968 w_970 (bw_s 16 rfl) hd_Model_one rfl ⟨by decide, by decide⟩ (OB.recv E.2.2.2.2.2 (by rfl) hm.1) hm hF hl.1 rfl (Nat.le_of_ble_eq_true rfl) d_Model_raise_10 ⟨by decide, by decide⟩ (qv (fun H2 locs hq hF => ?_))
  obtain ⟨hq, fd2, hm, hpwfd2⟩ := hq
  have hab := AJ.off hq (by unfold MR; omega) hab
  have hfr := hfr.tr hq
  have h122 := h122.off hpwfd2.1 (by decide)
  have hby := (hE.off hpwfd1.1 hbw.2).off hpwfd2.1 hbw.1
  have hE0 : E9 / 2 ^ 392 = 0 := by
    have r := VL_range (f := fun k => fd (14 * b + k)) (n := 14) (fun k hk => hDDf _ (by omega))
    rw [show VL (fun k => fd (14 * b + k)) 14 = (E9 : Int) from hE, show (268435456 : Int) ^ 14 = ((2 ^ 392 : Nat) : Int) by decide +kernel] at r
    exact Nat.div_eq_of_lt (Int.ofNat_lt.mp r.2)
  have h121 : NV fd2 121 (X ^ (E9 / 2 ^ 392) % RI) := by
    rw [hE0, Int.pow_zero, show (1 : Int) % RI = 1 by decide +kernel]
    exact (VL_ext (fun k hk => hpwfd2.2 k hk)).trans one_14
  have hsm : (∀ j, ¬ (14 * 121 ≤ j ∧ j < 14 * 123) → fd2 j = fd j) := fun j hj => (hpwfd2.1 j (by omega)).trans (hpwfd1.1 j (by omega))
  refine lv_sipush (v := nI 391) hx hb d_Model_raise_13 (by decide) ?_
  refine lv_istore (lv' := [(4, .int (nI 391)), (0, .ref mo), (1, .int (nI r)), (2, .int (nI a)), (3, .int (nI b))]) hx hb d_Model_raise_16 hl (by decide) rfl (fun ls hl => ?_)
  have hl : lv_has ls 5 [(4, .int (nI 391)), (0, .ref mo), (1, .int (nI r)), (2, .int (nI a)), (3, .int (nI b))] := lv_sub hl [0, 1, 2, 3, 4] rfl
  exact loop 392 _ _ ls _ fd2 (by decide) (by decide) hfr hm hab h121 h122 hby hsm hF hl
