theorem bo_st {y N m j : Nat} (hj : j < 8) (h : y = N / 2 ^ (m + 1) % 2 ^ j) : 2 * y + N / 2 ^ m % 2 = N / 2 ^ m % 2 ^ (j + 1) := by
  rw [h, Nat.pow_succ, ← Nat.div_div_eq_div_mul, Nat.pow_succ, Nat.mul_comm (2 ^ j) 2, Nat.mod_mul]
  omega
theorem MVP.fin7 {g : WG} {n0 : Nat → Prop} {H H' : Heap} {mo : Nat} {th th2 : Int32} {pn tn wn pn2 tn2 wn2 w n : Nat} {B B' : Nat → Int} {fd : Nat → Int64} (h : MVP g n0 H mo th pn tn wn B) (hfr : FRM (fun q => MR mo q ∨ q = mo + 7) H H') (hA : ∃ f, AI g H' (mo + 7) 96 f) (hw : WH w n) (hm : MS g n0 H' mo th2 (nI pn2) (nI tn2) (nI wn2) w n fd) (hB : BV9 fd B') (hb : pn2 ≤ 16 ∧ tn2 ≤ 96 ∧ wn2 ≤ 96) : MVP g n0 H' mo th2 pn2 tn2 wn2 B' :=
  ⟨⟨w, n, fd, hw, hm, hB⟩, h.2.1.imp (fun f hf => ⟨AJ.off hfr (by unfold MR; omega) hf.1, hf.2⟩), (h.mp.fin7 hfr hA hw hm hb).2⟩
/-- the bytes before the marks are laid on -/
def raw9 (P : P3) (j : Nat) : Nat := if j < 48 then wby (xA9 P) 0 j else wby (yA9 P) 0 (j - 48)
theorem raw_b {P : P3} {i : Nat} (hi : i < 96) : raw9 P i = (if i < 48 then xA9 P else yA9 P) / 2 ^ (8 * (47 - (i - i / 48 * 48))) % 2 ^ 8 := by
  unfold raw9 wby
  by_cases c : i < 48
  · rw [if_pos c, if_pos c, show i / 48 = 0 by omega, Nat.zero_mul, Nat.sub_zero]
    split <;> rfl
  · rw [if_neg c, if_neg c, show i / 48 = 1 by omega, Nat.one_mul]
    split <;> rfl
theorem wby_m (N m : Nat) : wby N 0 0 + 32 * m = wby N m 0 := by
  unfold wby
  rw [if_pos rfl, if_pos rfl, Nat.mul_zero, Nat.add_zero]
theorem wby_s {N m j : Nat} (h : j ≠ 0) : wby N 0 j = wby N m j := by
  unfold wby
  rw [if_neg h, if_neg h]
theorem z_cq {x : Int} (h0 : 0 ≤ x) (h1 : x < QJ) : x = 0 ↔ cq x 0 := by
  constructor
  · intro h
    rw [h]
    exact cq.rf _
  · intro h
    have h9 : x % QJ = 0 % QJ := h
    rw [Int.emod_eq_of_lt h0 h1, Int.zero_emod] at h9
    exact h9
/-- with the marks m at the first byte -/
def tb9 (P : P3) (nn : Prop) [Decidable nn] (m j : Nat) : Nat := (if nn then 0 else raw9 P j) + (if j = 0 then 32 * m else 0)
set_option maxHeartbeats 4000000 in
set_option maxRecDepth 100000 in
theorem NQ_Model_inverse (l : Launch) (g : WG) (n0 : Nat → Prop) (mo r a : Nat) (th pw td wr : Int32) (fd fa : Nat → Int64) (hr1 : r < 170) (ha : a < 170) (ha3 : a ≠ 123) (hAT : (∀ j, j ≤ 14 → PP 0 14 ∣ VL (fun k => fa (210 * 0 + 14 * j + k)) 14 - 268435456 ^ (14 + j))) (X : Int) (hX : NV fd a X) (hXr : X < QJ) : Ctr l y_Model_inverse (.code y_Model_inverse prog_11_method_21_code 3 none) 4 103 0 0 n0 g [.ref mo, .int (nI r), .int (nI a)] (fun H => MS g n0 H mo th pw td wr 0 14 fd ∧ AJ g H (mo + 4) 420 fa) (QV (fun H H' => FRM (MR mo) H H' ∧ AJ g H' (mo + 4) 420 fa ∧ ∃ fd', MS g n0 H' mo th pw td wr 0 14 fd' ∧ (∀ j, ¬ (14 * 121 ≤ j ∧ j < 14 * 124) → (j < 14 * r ∨ 14 * r + 14 ≤ j) → fd' j = fd j) ∧ NV fd' r (X ^ (QN - 2) % QJ))) := by
  refine ctr_mk l (lv0 := [(0, .ref mo), (1, .int (nI r)), (2, .int (nI a))]) (by decide) (Nat.le_of_ble_eq_true rfl) rfl ?_
  intro p e s m below meth c ls E hr hlk hnm hl hP
  have hx := E.1
  have hb := E.2.1
  have hK := E.2.2.2.2.2
  have hF : ∀ q ∈ ([] : List Loc), n0 q.base := fun q hq => absurd hq List.not_mem_nil
  obtain ⟨hm, hab⟩ := hP
  refine lv_aload_n hx hb d_Model_inverse_0 rfl (lv_at hl 0 rfl) ?_
  refine lv_bipush (v := nI 123) hx hb d_Model_inverse_1 (by decide) ?_
  refine lv_ldc2 (v := -2) hx hb E.2.2.2.1 (E.2.2.2.2.1 _ w_1118) d_Model_inverse_3 ?_
  refine q_cV (rest := []) E (NQ_Model_primeAnd l g n0 mo 123 (-2) th pw td wr fd (by decide) (by decide)) w_1122 w_15 w_1119 w_1121 (bw_s 34 rfl) hd_Model_primeAnd rfl ⟨by decide, by decide⟩ (OB.recv E.2.2.2.2.2 (by rfl) hm.1) hm hF hl.1 rfl (Nat.le_of_ble_eq_true rfl) d_Model_inverse_6 ⟨by decide, by decide⟩ (qv (fun H1 locs hq hF => ?_))
  obtain ⟨hfr, fd1, hm, ho, hn⟩ := hq
  have hab := AJ.off hfr (by unfold MR; omega) hab
  have hn2 : NV fd1 123 ((QN - 2 : Nat) : Int) := hn.trans (by decide +kernel)
  refine lv_aload_n hx hb d_Model_inverse_9 rfl (lv_at hl 0 rfl) ?_
  refine lv_iload_n hx hb d_Model_inverse_10 rfl (lv_at hl 1 rfl) ?_
  refine lv_iload_n hx hb d_Model_inverse_11 rfl (lv_at hl 2 rfl) ?_
  refine lv_bipush (v := nI 123) hx hb d_Model_inverse_12 (by decide) ?_
  refine q_cV (rest := []) E (NQ_Model_raise l g n0 mo r a 123 th pw td wr fd1 fa hr1 ha (by decide) hAT X (QN - 2) (hX.off ho ha3) hXr hn2 (by decide)) w_1126 w_15 w_1123 w_1125 (bw_s 35 rfl) hd_Model_raise rfl ⟨by decide, by decide⟩ (OB.recv E.2.2.2.2.2 (by rfl) hm.1) (⟨hm, hab⟩) hF hl.1 rfl (Nat.le_of_ble_eq_true rfl) d_Model_inverse_14 ⟨by decide, by decide⟩ (qv (fun H2 locs hq hF => ?_))
  obtain ⟨hfr2, hab, fd2, hm, ho2, hn3⟩ := hq
  exact q_vret E hr hlk (⟨rfl, hfr.tr hfr2, hab, fd2, hm, fun j h1 h2 => (ho2 j (by omega) h2).trans (ho j (by omega)), hn3⟩) hF d_Model_inverse_17
set_option maxHeartbeats 4000000 in
set_option maxRecDepth 100000 in
theorem N_Model_byteOf (l : Launch) (g : WG) (n0 : Nat → Prop) (mo a kb : Nat) (th pw td wr : Int32) (w n : Nat) (hw : WH w n) (fd : Nat → Int64) (ha : a < 170) (hkb : kb < 48) (N : Nat) (hN : NV fd a (N : Int)) : Ctr l y_Model_byteOf (.code y_Model_byteOf prog_11_method_24_code 5 (some FieldType.int)) 2 44 0 0 n0 g [.ref mo, .int (nI a), .int (nI kb)] (fun H => MS g n0 H mo th pw td wr w n fd) (QI (fun r H H' => r = nI (N / 2 ^ (8 * kb) % 2 ^ 8) ∧ H' = H)) := by
  refine ctr_mk l (lv0 := [(0, .ref mo), (1, .int (nI a)), (2, .int (nI kb))]) (by decide) (Nat.le_of_ble_eq_true rfl) rfl ?_
  intro p e s m below meth c ls E hr hlk hnm hl hP
  have hx := E.1
  have hb := E.2.1
  have hK := E.2.2.2.2.2
  have hF : ∀ q ∈ ([] : List Loc), n0 q.base := fun q hq => absurd hq List.not_mem_nil
  have hm := hP
  have lp : ∀ (k : Nat) (locs : List Loc) (ls : Array Slot) (v : Int32) (y : Nat), k ≤ 8 → v = nI k - 1 → y = N / 2 ^ (8 * kb + k) % 2 ^ (8 - k) → (∀ q ∈ locs, n0 q.base) → lv_has ls 5 [(4, .int v), (3, .int (nI y)), (0, .ref mo), (1, .int (nI a)), (2, .int (nI kb))] → W p l e { frames := 2, cells := 0, slots := 0, locals := 44 } s m [.ref mo, .int (nI a), .int (nI kb)].toArray below meth c s.heap locs 0 0 (MQ below (QcP (QI (fun r H H' => r = nI (N / 2 ^ (8 * kb) % 2 ^ 8) ∧ H' = H))) [.ref mo, .int (nI a), .int (nI kb)].toArray s 0 0 (fun q => n0 q)) (F0 m 6 ls []) := by
    intro k
    induction k with
    | zero =>
      intro  locs   ls   v   y hk8 hv0 hy hF hl
      subst hv0
      refine lv_iload hx hb d_Model_byteOf_6 (lv_at hl 0 rfl) ?_
      refine lv_if_lt (tgt := 34) hx hb d_Model_byteOf_8 (by decide) (fun _ => ?_) (fun h9 => absurd (by decide) h9)
      refine lv_iload_n hx hb d_Model_byteOf_34 rfl (lv_at hl 1 rfl) ?_
      exact q_iret E hr hlk (⟨_, rfl, by rw [hy, Nat.add_zero, Nat.sub_zero], rfl⟩) hF d_Model_byteOf_35
    | succ k ih =>
      intro  locs   ls   v   y hk8 hv0 hy hF hl
      rw [nI_pred] at hv0
      subst hv0
      refine lv_iload hx hb d_Model_byteOf_6 (lv_at hl 0 rfl) ?_
      refine lv_if_lt (tgt := 34) hx hb d_Model_byteOf_8 (by decide) (fun h9 => absurd h9 (nI_pos (by omega))) (fun _ => ?_)
      refine lv_iconst (v := nI 2) hx hb d_Model_byteOf_11 (by decide) ?_
      refine lv_iload_n hx hb d_Model_byteOf_12 rfl (lv_at hl 1 rfl) ?_
      refine lv_imul hx hb d_Model_byteOf_13 ?_
      refine lv_topi (fun t9 e9 => ?_)
      obtain rfl : t9 = nI (2 * y) := e9.trans (pk_mul _ _)
      refine lv_aload_n hx hb d_Model_byteOf_14 rfl (lv_at hl 2 rfl) ?_
      refine lv_iload_n hx hb d_Model_byteOf_15 rfl (lv_at hl 3 rfl) ?_
      refine lv_bipush (v := nI 8) hx hb d_Model_byteOf_16 (by decide) ?_
      refine lv_iload_n hx hb d_Model_byteOf_18 rfl (lv_at hl 4 rfl) ?_
      refine lv_imul hx hb d_Model_byteOf_19 ?_
      refine lv_topi (fun t9 e9 => ?_)
      obtain rfl : t9 = nI (8 * kb) := e9.trans (pk_mul _ _)
      refine lv_iload hx hb d_Model_byteOf_20 (lv_at hl 0 rfl) ?_
      refine lv_iadd hx hb d_Model_byteOf_22 ?_
      refine lv_topi (fun t9 e9 => ?_)
      obtain rfl : t9 = nI ((8 * kb) + k) := e9.trans (nI_add _ _)
      refine q_cV (rest := [.int (nI (2 * y))]) E (N_Model_bit l g n0 mo a (8 * kb + k) th pw td wr w n hw fd ha (by omega) N hN) w_1093 w_15 w_1090 w_1092 (bw_s 29 rfl) hd_Model_bit rfl ⟨by decide, by decide⟩ (OB.recv E.2.2.2.2.2 (by rfl) hm.1) hm hF hl.1 rfl (Nat.le_of_ble_eq_true rfl) d_Model_byteOf_23 ⟨by decide, by decide⟩ (qi (fun rb H1 locs hq hF => ?_))
      obtain ⟨hrb, hq⟩ := hq
      have hq := hq.symm
      subst hq
      subst hrb
      refine lv_iadd hx hb d_Model_byteOf_26 ?_
      refine lv_topi (fun t9 e9 => ?_)
      obtain rfl : t9 = nI (2 * y + N / 2 ^ (8 * kb + k) % 2) := e9.trans (nI_add _ _)
      refine lv_istore_n (lv' := [(3, .int (nI (2 * y + N / 2 ^ (8 * kb + k) % 2))), (4, .int (nI k)), (0, .ref mo), (1, .int (nI a)), (2, .int (nI kb))]) hx hb d_Model_byteOf_27 rfl hl (by decide) rfl (fun ls hl => ?_)
      have hy2 := bo_st (y := y) (N := N) (m := 8 * kb + k) (j := 7 - k) (by omega) (by rw [hy, show 8 - (k + 1) = 7 - k by omega]; rfl)
      rw [show 7 - k + 1 = 8 - k by omega] at hy2
      refine lv_iinc (k := 1) (v := nI k - 1) (lv' := [(4, .int (nI k - 1)), (3, .int (nI (2 * y + N / 2 ^ (8 * kb + k) % 2))), (0, .ref mo), (1, .int (nI a)), (2, .int (nI kb))]) hx hb d_Model_byteOf_28 hl rfl (i_dec _) (by decide) rfl (fun ls hl => ?_)
      refine lv_goto (tgt := 6) hx hb d_Model_byteOf_31 (by decide) ?_
      have hl : lv_has ls 5 [(4, .int (nI k - 1)), (3, .int (nI (2 * y + N / 2 ^ (8 * kb + k) % 2))), (0, .ref mo), (1, .int (nI a)), (2, .int (nI kb))] := lv_sub hl [0, 1, 2, 3, 4] rfl
      exact ih _ ls _ _ (by omega) rfl hy2 hF hl
  refine lv_iconst (v := nI 0) hx hb d_Model_byteOf_0 (by decide) ?_
  refine lv_istore_n (lv' := [(3, .int (nI 0)), (0, .ref mo), (1, .int (nI a)), (2, .int (nI kb))]) hx hb d_Model_byteOf_1 rfl hl (by decide) rfl (fun ls hl => ?_)
  refine lv_bipush (v := nI 7) hx hb d_Model_byteOf_2 (by decide) ?_
  refine lv_istore (lv' := [(4, .int (nI 7)), (3, .int (nI 0)), (0, .ref mo), (1, .int (nI a)), (2, .int (nI kb))]) hx hb d_Model_byteOf_4 hl (by decide) rfl (fun ls hl => ?_)
  have hl : lv_has ls 5 [(4, .int (nI 7)), (3, .int (nI 0)), (0, .ref mo), (1, .int (nI a)), (2, .int (nI kb))] := lv_sub hl [0, 1, 2, 3, 4] rfl
  exact lp 8 _ ls _ 0 (by decide) (by decide) (by rw [Nat.sub_self, Nat.pow_zero, Nat.mod_one]) hF hl
set_option maxHeartbeats 4000000 in
set_option maxRecDepth 100000 in
theorem W_Model_bytes (l : Launch) (g : WG) (n0 : Nat → Prop) (mo : Nat) (th : Int32) (pn tn wn : Nat) (B : Nat → Int) (a : Int32) (sh : Int32) (hn7 : n0 (mo + 7)) (m7 : Nat → Int32) : Ctr l y_Model_bytes (.code y_Model_bytes prog_11_method_47_code 6 none) 5 125 0 0 n0 g [.ref mo, .int a, .int sh] (fun H => MVP g n0 H mo th pn tn wn B ∧ AI g H (mo + 7) 96 m7) (QV (fun H H' => ((okP a (nI 1)) ∧ (∃ k1, a = nI k1 ∧ k1 < 12 ∧ ∃ n tb ft, AI g H' (mo + 7) 96 ft ∧ TX9 (ptB B (32 + 3 * k1)) sh n tb ∧ (∀ j, j < n → ft j = nI (tb j)) ∧ MVP g n0 H' mo 0 pn tn n B)) ∨ (¬ (okP a (nI 1)) ∧ MVP g n0 H' mo 1 pn tn wn B ∧ AI g H' (mo + 7) 96 m7))) := by
  refine ctr_mk l (lv0 := [(0, .ref mo), (1, .int a), (2, .int sh)]) (by decide) (Nat.le_of_ble_eq_true rfl) rfl ?_
  intro p e s m below meth c ls E hr hlk hnm hl hP
  have hx := E.1
  have hb := E.2.1
  have hK := E.2.2.2.2.2
  have hF : ∀ q ∈ ([] : List Loc), n0 q.base := fun q hq => absurd hq List.not_mem_nil
  obtain ⟨hP, hT7⟩ := hP
  obtain ⟨⟨w9, n9, fd, hw9, hm, hB⟩, ⟨fa, hab0, hAT, hAQ⟩, hho, -, -, hbd, hmn, -, -, hn8⟩ := id hP
  have hfr : FRM (MR mo) s.heap s.heap := FRM.rf
  have bad : ∀ (locs : List Loc) (ls : Array Slot), ¬ (okP a (nI 1)) → (∀ q ∈ locs, n0 q.base) → lv_has ls 6 [(0, .ref mo), (1, .int a), (2, .int sh)] → W p l e { frames := 5, cells := 0, slots := 0, locals := 125 } s m [.ref mo, .int a, .int sh].toArray below meth c s.heap locs 0 0 (MQ below (QcP (QV (fun H H' => ((okP a (nI 1)) ∧ (∃ k1, a = nI k1 ∧ k1 < 12 ∧ ∃ n tb ft, AI g H' (mo + 7) 96 ft ∧ TX9 (ptB B (32 + 3 * k1)) sh n tb ∧ (∀ j, j < n → ft j = nI (tb j)) ∧ MVP g n0 H' mo 0 pn tn n B)) ∨ (¬ (okP a (nI 1)) ∧ MVP g n0 H' mo 1 pn tn wn B ∧ AI g H' (mo + 7) 96 m7)))) [.ref mo, .int a, .int sh].toArray s 0 0 (fun q => n0 q)) (F0 m 5 ls [.int (nI 1), .ref mo]) := by
    intro  locs   ls hno hF hl
    refine lv_iconst (v := nI 1) hx hb d_Model_bytes_5 (by decide) ?_
    refine q_cV (rest := []) E (c_Model_fails l g n0 mo th (nI pn) (nI tn) (nI wn) w9 n9 hw9 (nI 1) (nI 1) fd hmn (Or.inl rfl)) w_1056 w_15 w_1053 w_1055 (bw_s 24 rfl) hd_Model_fails rfl ⟨by decide, by decide⟩ (OB.recv E.2.2.2.2.2 (by rfl) hm.1) hm hF hl.1 rfl (Nat.le_of_ble_eq_true rfl) d_Model_bytes_6 ⟨by decide, by decide⟩ (qi (fun rf H1 locs hq hF => ?_))
    obtain ⟨hrf, hq, hm⟩ := hq
    subst hrf
    have hfr := hfr.tr hq
    rw [if_neg (by decide)] at hm
    refine lv_if_eq (tgt := 13) hx hb d_Model_bytes_9 (by decide) (fun h9 => absurd h9 (by decide)) (fun _ => ?_)
    exact q_vret E hr hlk (⟨rfl, Or.inr ⟨hno, hP.keep hfr hw9 hm hB, AI.off hfr (show ¬ MR mo (mo + 7) by unfold MR; omega) hT7⟩⟩) hF d_Model_bytes_12
  have good : ∀ (locs : List Loc) (ls : Array Slot), okP a (nI 1) → (∀ q ∈ locs, n0 q.base) → lv_has ls 6 [(0, .ref mo), (1, .int a), (2, .int sh)] → W p l e { frames := 5, cells := 0, slots := 0, locals := 125 } s m [.ref mo, .int a, .int sh].toArray below meth c s.heap locs 0 0 (MQ below (QcP (QV (fun H H' => ((okP a (nI 1)) ∧ (∃ k1, a = nI k1 ∧ k1 < 12 ∧ ∃ n tb ft, AI g H' (mo + 7) 96 ft ∧ TX9 (ptB B (32 + 3 * k1)) sh n tb ∧ (∀ j, j < n → ft j = nI (tb j)) ∧ MVP g n0 H' mo 0 pn tn n B)) ∨ (¬ (okP a (nI 1)) ∧ MVP g n0 H' mo 1 pn tn wn B ∧ AI g H' (mo + 7) 96 m7)))) [.ref mo, .int a, .int sh].toArray s 0 0 (fun q => n0 q)) (F0 m 5 ls [.int (nI 0), .ref mo]) := by
    intro  locs   ls hok hF hl
    refine lv_iconst (v := nI 1) hx hb d_Model_bytes_5 (by decide) ?_
    refine q_cV (rest := []) E (c_Model_fails l g n0 mo th (nI pn) (nI tn) (nI wn) w9 n9 hw9 (nI 0) (nI 1) fd hmn (Or.inr rfl)) w_1056 w_15 w_1053 w_1055 (bw_s 24 rfl) hd_Model_fails rfl ⟨by decide, by decide⟩ (OB.recv E.2.2.2.2.2 (by rfl) hm.1) hm hF hl.1 rfl (Nat.le_of_ble_eq_true rfl) d_Model_bytes_6 ⟨by decide, by decide⟩ (qi (fun rf H1 locs hq hF => ?_))
    obtain ⟨hrf, hq, hm⟩ := hq
    subst hrf
    have hfr := hfr.tr hq
    rw [if_pos nI_0] at hm
    refine lv_if_eq (tgt := 13) hx hb d_Model_bytes_9 (by decide) (fun _ => ?_) (fun h9 => absurd (by decide) h9)
    obtain ⟨k1, e_k1, h_k1⟩ := okP_nat (by decide) (by decide) hok
    rw [e_k1] at hl
    refine lv_aload_n hx hb d_Model_bytes_13 rfl (lv_at hl 0 rfl) ?_
    refine lv_iconst (v := nI 0) hx hb d_Model_bytes_14 (by decide) ?_
    refine q_cV (rest := []) E (c_Model_use l g n0 mo 0 (nI pn) (nI tn) (nI wn) w9 n9 hw9 0 14 hw0 fd hmn) w_967 w_15 w_964 w_966 (bw_s 15 rfl) hd_Model_use rfl ⟨by decide, by decide⟩ (OB.recv E.2.2.2.2.2 (by rfl) hm.1) hm hF hl.1 rfl (Nat.le_of_ble_eq_true rfl) d_Model_bytes_15 ⟨by decide, by decide⟩ (qv (fun H2 locs hq hF => ?_))
    obtain ⟨hq, hm⟩ := hq
    have hfr := hfr.tr hq
    refine lv_iload_n hx hb d_Model_bytes_18 rfl (lv_at hl 1 rfl) ?_
    refine q_cS (rest := []) E (c_Model_slot l g n0 (nI k1)) w_1154 w_15 w_1152 w_1153 hd_Model_slot rfl ⟨by decide, by decide⟩ trivial hF hl.1 rfl (Nat.le_of_ble_eq_true rfl) d_Model_bytes_19 ⟨by decide, by decide⟩ (qi (fun rs H3 locs hq hF => ?_))
    obtain ⟨hrs, hq9⟩ := hq
    subst hrs
    subst hq9
    refine lv_topi (fun t9 e9 => ?_)
    obtain rfl : t9 = nI (32 + 3 * k1) := e9.trans (by rw [pk_mul, nI_add])
    refine lv_istore_n (lv' := [(3, .int (nI (32 + 3 * k1))), (0, .ref mo), (1, .int (nI k1)), (2, .int sh)]) hx hb d_Model_bytes_22 rfl hl (by decide) rfl (fun ls hl => ?_)
    refine lv_aload_n hx hb d_Model_bytes_23 rfl (lv_at hl 1 rfl) ?_
    refine lv_iload_n hx hb d_Model_bytes_24 rfl (lv_at hl 0 rfl) ?_
    refine lv_iconst (v := nI 2) hx hb d_Model_bytes_25 (by decide) ?_
    refine lv_iadd hx hb d_Model_bytes_26 ?_
    refine lv_topi (fun t9 e9 => ?_)
    obtain rfl : t9 = nI ((32 + 3 * k1) + 2) := e9.trans (nI_add _ _)
    have hn7 := hn7
    have h1z := (hB (32 + 3 * k1 + 2) (by omega))
    have hrg := h1z.2.2 (by omega)
    refine q_cV (rest := []) E (N_Model_isZero l g n0 mo (32 + 3 * k1 + 2) 0 (nI pn) (nI tn) (nI wn) 0 14 hw0 fd (by omega) (B (32 + 3 * k1 + 2)) h1z.1) w_1105 w_15 w_1102 w_1104 (bw_s 30 rfl) hd_Model_isZero rfl ⟨by decide, by decide⟩ (OB.recv E.2.2.2.2.2 (by rfl) hm.1) hm hF hl.1 rfl (Nat.le_of_ble_eq_true rfl) d_Model_bytes_27 ⟨by decide, by decide⟩ (qi (fun rz H4 locs hq hF => ?_))
    obtain ⟨hrz, hq⟩ := hq
    have hq := hq.symm
    subst hq
    have hrz : (rz = 1 ∧ cq (ptB B (32 + 3 * k1)).2.2 0) ∨ (rz = 0 ∧ ¬ cq (ptB B (32 + 3 * k1)).2.2 0) := hrz.imp (fun h => ⟨h.1, (z_cq hrg.1 hrg.2).mp h.2⟩) (fun h => ⟨h.1, fun q => h.2 ((z_cq hrg.1 hrg.2).mpr q)⟩)
    refine lv_istore (lv' := [(4, .int rz), (3, .int (nI (32 + 3 * k1))), (0, .ref mo), (1, .int (nI k1)), (2, .int sh)]) hx hb d_Model_bytes_30 hl (by decide) rfl (fun ls hl => ?_)
    refine lv_aload_n hx hb d_Model_bytes_32 rfl (lv_at hl 2 rfl) ?_
    refine lv_sipush (v := nI 148) hx hb d_Model_bytes_33 (by decide) ?_
    refine lv_iload_n hx hb d_Model_bytes_36 rfl (lv_at hl 1 rfl) ?_
    refine lv_iconst (v := nI 2) hx hb d_Model_bytes_37 (by decide) ?_
    refine lv_iadd hx hb d_Model_bytes_38 ?_
    refine lv_topi (fun t9 e9 => ?_)
    obtain rfl : t9 = nI ((32 + 3 * k1) + 2) := e9.trans (nI_add _ _)
    refine q_cV (rest := []) E (NQ_Model_inverse l g n0 mo 148 (32 + 3 * k1 + 2) 0 (nI pn) (nI tn) (nI wn) fd fa (by decide) (by omega) (by omega) hAQ (B (32 + 3 * k1 + 2)) h1z.1 hrg.2) w_1117 w_15 w_1114 w_1116 (bw_s 33 rfl) hd_Model_inverse rfl ⟨by decide, by decide⟩ (OB.recv E.2.2.2.2.2 (by rfl) hm.1) (⟨hm, (AJ.off hfr (show ¬ MR mo (mo + 4) by unfold MR; omega) hab0)⟩) hF hl.1 rfl (Nat.le_of_ble_eq_true rfl) d_Model_bytes_39 ⟨by decide, by decide⟩ (qv (fun H5 locs hq hF => ?_))
    obtain ⟨hq, -, fd_1, hm, ho1, hi9⟩ := hq
    have hfr := hfr.tr hq
    have hi9 : MQ9 fd_1 148 ((ptB B (32 + 3 * k1)).2.2 ^ (QN - 2)) := hi9
    have hB1 : BV9 fd_1 B := hB.kq (fun j hj => ho1 j (by omega) (by omega))
    refine lv_aload_n hx hb d_Model_bytes_42 rfl (lv_at hl 2 rfl) ?_
    refine lv_sipush (v := nI 149) hx hb d_Model_bytes_43 (by decide) ?_
    refine lv_iload_n hx hb d_Model_bytes_46 rfl (lv_at hl 1 rfl) ?_
    refine lv_iconst (v := nI 1) hx hb d_Model_bytes_47 (by decide) ?_
    refine lv_iadd hx hb d_Model_bytes_48 ?_
    refine lv_topi (fun t9 e9 => ?_)
    obtain rfl : t9 = nI ((32 + 3 * k1) + 1) := e9.trans (nI_add _ _)
    refine lv_sipush (v := nI 148) hx hb d_Model_bytes_49 (by decide) ?_
    refine q_cV (rest := []) E (M_Model_product l g n0 mo 149 (32 + 3 * k1 + 1) 148 0 (nI pn) (nI tn) (nI wn) fd_1 (by decide) (by omega) (by decide) fa hAQ (ptB B (32 + 3 * k1)).2.1 ((ptB B (32 + 3 * k1)).2.2 ^ (QN - 2)) (hB1.pm (by omega)).2.1 hi9) w_1113 w_15 w_1110 w_1112 (bw_s 32 rfl) hd_Model_product rfl ⟨by decide, by decide⟩ (OB.recv E.2.2.2.2.2 (by rfl) hm.1) (⟨hm, (AJ.off hfr (show ¬ MR mo (mo + 4) by unfold MR; omega) hab0)⟩) hF hl.1 rfl (Nat.le_of_ble_eq_true rfl) d_Model_bytes_52 ⟨by decide, by decide⟩ (qv (fun H6 locs hq hF => ?_))
    obtain ⟨hq, fd_2, hm, ho2, hy9⟩ := hq
    have hfr := hfr.tr (kjR hq)
    have hi9 := hi9.off ho2 (by decide)
    have hB1 : BV9 fd_2 B := hB1.kq (fun j hj => ho2 j (by omega))
    refine lv_aload_n hx hb d_Model_bytes_55 rfl (lv_at hl 2 rfl) ?_
    refine lv_sipush (v := nI 148) hx hb d_Model_bytes_56 (by decide) ?_
    refine lv_iload_n hx hb d_Model_bytes_59 rfl (lv_at hl 1 rfl) ?_
    refine lv_sipush (v := nI 148) hx hb d_Model_bytes_60 (by decide) ?_
    refine q_cV (rest := []) E (M_Model_product l g n0 mo 148 (32 + 3 * k1) 148 0 (nI pn) (nI tn) (nI wn) fd_2 (by decide) (by omega) (by decide) fa hAQ (ptB B (32 + 3 * k1)).1 ((ptB B (32 + 3 * k1)).2.2 ^ (QN - 2)) (hB1.pm (by omega)).1 hi9) w_1113 w_15 w_1110 w_1112 (bw_s 32 rfl) hd_Model_product rfl ⟨by decide, by decide⟩ (OB.recv E.2.2.2.2.2 (by rfl) hm.1) (⟨hm, (AJ.off hfr (show ¬ MR mo (mo + 4) by unfold MR; omega) hab0)⟩) hF hl.1 rfl (Nat.le_of_ble_eq_true rfl) d_Model_bytes_63 ⟨by decide, by decide⟩ (qv (fun H7 locs hq hF => ?_))
    obtain ⟨hq, fd_3, hm, ho3, hx9⟩ := hq
    have hfr := hfr.tr (kjR hq)
    have hy9 := hy9.off ho3 (by decide)
    have hB1 : BV9 fd_3 B := hB1.kq (fun j hj => ho3 j (by omega))
    have hx9 : NV fd_3 148 ((xA9 (ptB B (32 + 3 * k1)) : Nat) : Int) := by rw [xA_v]; exact hx9
    have hy9 : NV fd_3 149 ((yA9 (ptB B (32 + 3 * k1)) : Nat) : Int) := by rw [yA_v]; exact hy9
    have tail : ∀ (NN mk : Nat) (H : Heap) (locs : List Loc) (ls : Array Slot) (fd1 : Nat → Int64) (ft : Nat → Int32) (tx : Nat → Nat), (0 < NN ∧ NN ≤ 96) → MS g n0 H mo 0 (nI pn) (nI tn) (nI NN) 0 14 fd1 → ((sh = 0 ∧ NN = 96) ∨ (¬ sh = 0 ∧ NN = 48)) → FRM (fun q => MR mo q ∨ q = mo + 7) s.heap H → (∀ q ∈ locs, n0 q.base) → BV9 fd1 B → AI g H (mo + 7) 96 ft → (∀ j, j < NN → ft j = nI (tx j)) → TX9 (ptB B (32 + 3 * k1)) sh NN (fun j => tx j + (if j = 0 then 32 * mk else 0)) → lv_has ls 6 [(5, .int (nI mk)), (0, .ref mo)] → W p l e { frames := 5, cells := 0, slots := 0, locals := 125 } s m [.ref mo, .int a, .int sh].toArray below meth c H locs 0 0 (MQ below (QcP (QV (fun H H' => ((okP a (nI 1)) ∧ (∃ k1, a = nI k1 ∧ k1 < 12 ∧ ∃ n tb ft, AI g H' (mo + 7) 96 ft ∧ TX9 (ptB B (32 + 3 * k1)) sh n tb ∧ (∀ j, j < n → ft j = nI (tb j)) ∧ MVP g n0 H' mo 0 pn tn n B)) ∨ (¬ (okP a (nI 1)) ∧ MVP g n0 H' mo 1 pn tn wn B ∧ AI g H' (mo + 7) 96 m7)))) [.ref mo, .int a, .int sh].toArray s 0 0 (fun q => n0 q)) (F0 m 188 ls []) := by
      intro  NN mk   H   locs   ls   fd1   ft   tx hNp hm hN hfx hF hB1 hft hT htx hl
      refine lv_aload_n hx hb d_Model_bytes_188 rfl (lv_at hl 1 rfl) ?_
      refine q_get (C := "KateDeskModel") (T := T_Model) (N := 14) (ci := 8) E hm.1 in_Model rfl 11 (by decide) w_1012 rfl rfl d_Model_bytes_189 ?_
      refine lv_iconst (v := nI 0) hx hb d_Model_bytes_192 (by decide) ?_
      refine lv_dup2_11 hx hb d_Model_bytes_193 rfl rfl ?_
      refine q_iald E hft 0 rfl (by decide) (by decide) d_Model_bytes_194 ?_
      refine lv_bipush (v := nI 32) hx hb d_Model_bytes_195 (by decide) ?_
      refine lv_iload hx hb d_Model_bytes_197 (lv_at hl 0 rfl) ?_
      refine lv_imul hx hb d_Model_bytes_199 ?_
      refine lv_iadd hx hb d_Model_bytes_200 ?_
      have h0 := hT 0 (by omega)
      refine lv_topi (fun t9 e9 => ?_)
      obtain rfl : t9 = nI (tx 0 + 32 * mk) := e9.trans (by rw [h0, pk_mul, nI_add])
      refine q_iast E hft hn7 hF 0 rfl (by omega) (by decide) d_Model_bytes_201 (fun H1 locs hq hft hF => ?_)
      have hm := hm.frm hq (by omega) (by omega) (by omega) (by omega) (OB.off hq (by omega) hm.1)
      have hfx := hfx.tr (hq.mono (fun q h => Or.inr h))
      have hall : ∀ j, j < NN → upd ft 0 (nI (tx 0 + 32 * mk)) j = nI (tx j + (if j = 0 then 32 * mk else 0)) := fun j hj => by
        by_cases e9 : j = 0
        · rw [e9, up_s, if_pos rfl]
        · rw [up_n e9, if_neg e9, Nat.add_zero]; exact hT j hj
      exact q_vret E hr hlk (⟨rfl, Or.inl ⟨hok, k1, e_k1, by omega, NN, fun j => tx j + (if j = 0 then 32 * mk else 0), _, hft, htx, hall, hP.fin7 hfx ⟨_, hft⟩ hw0 hm hB1 ⟨hbd.1, hbd.2.1, by omega⟩⟩⟩) hF d_Model_bytes_202
    have loop : ∀ (k : Nat) (i NN : Nat) (H : Heap) (locs : List Loc) (ls : Array Slot) (ft : Nat → Int32) (tx : Nat → Nat), i + k = NN → MS g n0 H mo 0 (nI pn) (nI tn) (nI NN) 0 14 fd_3 → ((sh = 0 ∧ NN = 96) ∨ (¬ sh = 0 ∧ NN = 48)) → FRM (fun q => MR mo q ∨ q = mo + 7) s.heap H → (∀ q ∈ locs, n0 q.base) → AI g H (mo + 7) 96 ft → (∀ j, j < i → ft j = nI (tx j)) → (∀ j, tx j = (if rz = 1 then 0 else raw9 (ptB B (32 + 3 * k1)) j)) → lv_has ls 6 [(5, .int (nI i)), (4, .int rz), (0, .ref mo), (2, .int sh)] → W p l e { frames := 5, cells := 0, slots := 0, locals := 125 } s m [.ref mo, .int a, .int sh].toArray below meth c H locs 0 0 (MQ below (QcP (QV (fun H H' => ((okP a (nI 1)) ∧ (∃ k1, a = nI k1 ∧ k1 < 12 ∧ ∃ n tb ft, AI g H' (mo + 7) 96 ft ∧ TX9 (ptB B (32 + 3 * k1)) sh n tb ∧ (∀ j, j < n → ft j = nI (tb j)) ∧ MVP g n0 H' mo 0 pn tn n B)) ∨ (¬ (okP a (nI 1)) ∧ MVP g n0 H' mo 1 pn tn wn B ∧ AI g H' (mo + 7) 96 m7)))) [.ref mo, .int a, .int sh].toArray s 0 0 (fun q => n0 q)) (F0 m 84 ls []) := by
      intro k
      induction k with
      | zero =>
        intro  i NN   H   locs   ls   ft   tx hi hm hN hfx hF hft hT htx0 hl
        obtain rfl : NN = i := by omega
        have hfr : FRM (MR mo) H H := FRM.rf
        have hNp : 0 < NN ∧ NN ≤ 96 := by omega
        refine lv_iload hx hb d_Model_bytes_84 (lv_at hl 0 rfl) ?_
        refine lv_aload_n hx hb d_Model_bytes_86 rfl (lv_at hl 2 rfl) ?_
        refine q_get (C := "KateDeskModel") (T := T_Model) (N := 14) (ci := 8) E hm.1 in_Model rfl 12 (by decide) w_1013 rfl rfl d_Model_bytes_87 ?_
        refine lv_icmp_ge (tgt := 143) hx hb d_Model_bytes_90 (by decide) (fun _ => ?_) (fun h9 => absurd (nI_le (Nat.le_refl _) (by omega)) h9)
        refine lv_iload hx hb d_Model_bytes_143 (lv_at hl 1 rfl) ?_
        rcases hrz with ⟨ez, hz⟩ | ⟨ez, hz⟩
        · skip
          subst ez
          refine lv_if_eq (tgt := 152) hx hb d_Model_bytes_145 (by decide) (fun h9 => absurd h9 (by decide)) (fun _ => ?_)
          refine lv_iconst (v := nI 2) hx hb d_Model_bytes_148 (by decide) ?_
          refine lv_goto (tgt := 153) hx hb d_Model_bytes_149 (by decide) ?_
          refine lv_istore (lv' := [(5, .int (nI 2)), (4, .int 1), (0, .ref mo), (2, .int sh)]) hx hb d_Model_bytes_153 hl (by decide) rfl (fun ls hl => ?_)
          refine lv_iload_n hx hb d_Model_bytes_155 rfl (lv_at hl 3 rfl) ?_
          refine lv_if_eq (tgt := 188) hx hb d_Model_bytes_156 (by decide) (fun hs => ?_) (fun hs => ?_)
          · skip
            have hN4 : NN = 96 := hN.elim (fun h => h.2) (fun h => absurd hs h.1)
            have hl : lv_has ls 6 [(5, .int (nI 2)), (0, .ref mo)] := lv_sub hl [0, 2] rfl
            exact tail NN 2 _ _ ls fd_3 _ _ hNp hm hN hfx hF hB1 hft hT (Or.inl ⟨hz, Or.inl ⟨hs, hN4, by show tx 0 + _ = _; rw [htx0, if_pos rfl]; rfl⟩, fun j h1 _ => by show tx j + _ = _; rw [htx0, if_pos rfl, if_neg (by omega)]⟩) hl
          · skip
            have hN4 : NN = 48 := hN.elim (fun h => absurd h.1 hs) (fun h => h.2)
            refine lv_iload hx hb d_Model_bytes_159 (lv_at hl 0 rfl) ?_
            refine lv_iload hx hb d_Model_bytes_161 (lv_at hl 1 rfl) ?_
            refine lv_if_eq (tgt := 170) hx hb d_Model_bytes_163 (by decide) (fun h9 => absurd h9 (by decide)) (fun _ => ?_)
            refine lv_iconst (v := nI 4) hx hb d_Model_bytes_166 (by decide) ?_
            refine lv_goto (tgt := 185) hx hb d_Model_bytes_167 (by decide) ?_
            refine lv_iadd hx hb d_Model_bytes_185 ?_
            refine lv_topi (fun t9 e9 => ?_)
            obtain rfl : t9 = nI 6 := e9.trans (by decide)
            refine lv_istore (lv' := [(5, .int (nI 6)), (4, .int 1), (0, .ref mo), (2, .int sh)]) hx hb d_Model_bytes_186 hl (by decide) rfl (fun ls hl => ?_)
            have hl : lv_has ls 6 [(5, .int (nI 6)), (0, .ref mo)] := lv_sub hl [0, 2] rfl
            exact tail NN 6 _ _ ls fd_3 _ _ hNp hm hN hfx hF hB1 hft hT (Or.inl ⟨hz, Or.inr ⟨hs, hN4, by show tx 0 + _ = _; rw [htx0, if_pos rfl]; rfl⟩, fun j h1 _ => by show tx j + _ = _; rw [htx0, if_pos rfl, if_neg (by omega)]⟩) hl
        · skip
          subst ez
          refine lv_if_eq (tgt := 152) hx hb d_Model_bytes_145 (by decide) (fun _ => ?_) (fun h9 => absurd (rfl) h9)
          refine lv_iconst (v := nI 0) hx hb d_Model_bytes_152 (by decide) ?_
          refine lv_istore (lv' := [(5, .int (nI 0)), (4, .int 0), (0, .ref mo), (2, .int sh)]) hx hb d_Model_bytes_153 hl (by decide) rfl (fun ls hl => ?_)
          refine lv_iload_n hx hb d_Model_bytes_155 rfl (lv_at hl 3 rfl) ?_
          refine lv_if_eq (tgt := 188) hx hb d_Model_bytes_156 (by decide) (fun hs => ?_) (fun hs => ?_)
          · skip
            have hN4 : NN = 96 := hN.elim (fun h => h.2) (fun h => absurd hs h.1)
            have hl : lv_has ls 6 [(5, .int (nI 0)), (0, .ref mo)] := lv_sub hl [0, 2] rfl
            exact tail NN 0 _ _ ls fd_3 _ _ hNp hm hN hfx hF hB1 hft hT (Or.inr ⟨hz, Or.inl ⟨hs, hN4, fun j hj => by show tx j + _ = _; rw [htx0, if_neg (by decide)]; unfold raw9; rw [if_pos hj]; split <;> rfl, fun j hj => by show tx (48 + j) + _ = _; rw [htx0, if_neg (by decide)]; unfold raw9; rw [if_neg (by omega), if_neg (by omega), Nat.add_sub_cancel_left, Nat.add_zero]⟩⟩) hl
          · skip
            have hN4 : NN = 48 := hN.elim (fun h => absurd h.1 hs) (fun h => h.2)
            refine lv_iload hx hb d_Model_bytes_159 (lv_at hl 0 rfl) ?_
            refine lv_iload hx hb d_Model_bytes_161 (lv_at hl 1 rfl) ?_
            refine lv_if_eq (tgt := 170) hx hb d_Model_bytes_163 (by decide) (fun _ => ?_) (fun h9 => absurd (rfl) h9)
            refine lv_aload_n hx hb d_Model_bytes_170 rfl (lv_at hl 2 rfl) ?_
            refine lv_sipush (v := nI 149) hx hb d_Model_bytes_171 (by decide) ?_
            refine q_cV (rest := [.int (nI 0)]) E (M_Model_isGreat l g n0 mo 149 0 (nI pn) (nI tn) (nI NN) fd_3 (by decide) (by decide) ((yA9 (ptB B (32 + 3 * k1)) : Nat) : Int) (by show NV _ _ (_ % QJ); rw [Int.emod_eq_of_lt (Int.natCast_nonneg _) (yA_q _)]; exact hy9)) w_1159 w_15 w_1156 w_1158 (bw_s 38 rfl) hd_Model_isGreat rfl ⟨by decide, by decide⟩ (OB.recv E.2.2.2.2.2 (by rfl) hm.1) hm hF hl.1 rfl (Nat.le_of_ble_eq_true rfl) d_Model_bytes_174 ⟨by decide, by decide⟩ (qi (fun rg H1 locs hq hF => ?_))
            obtain ⟨hrg9, hq, fd_4, hm, ho9⟩ := hq
            rw [Int.emod_eq_of_lt (Int.natCast_nonneg _) (yA_q _)] at hrg9
            have hB1 : BV9 fd_4 B := hB1.kq (fun j hj => ho9 j (by omega))
            have hft := AI.off hq (show ¬ MR mo (mo + 7) by unfold MR; omega) hft
            have hfx := hfx.tr (hq.mono (fun q h => Or.inl h))
            refine lv_if_eq (tgt := 184) hx hb d_Model_bytes_177 (by decide) (fun hg => ?_) (fun hg => ?_)
            · skip
              have em : mK9 (ptB B (32 + 3 * k1)) = 4 := by unfold mK9; rw [if_neg (hrg9.resolve_left (fun h => absurd (h.1.symm.trans hg) (by decide))).2]
              refine lv_iconst (v := nI 4) hx hb d_Model_bytes_184 (by decide) ?_
              refine lv_iadd hx hb d_Model_bytes_185 ?_
              refine lv_topi (fun t9 e9 => ?_)
              obtain rfl : t9 = nI 4 := e9.trans (by decide)
              refine lv_istore (lv' := [(5, .int (nI 4)), (4, .int 0), (0, .ref mo), (2, .int sh)]) hx hb d_Model_bytes_186 hl (by decide) rfl (fun ls hl => ?_)
              have hl : lv_has ls 6 [(5, .int (nI 4)), (0, .ref mo)] := lv_sub hl [0, 2] rfl
              exact tail NN 4 _ _ ls fd_4 _ _ hNp hm hN hfx hF hB1 hft hT (Or.inr ⟨hz, Or.inr ⟨hs, hN4, fun j hj => by show tx j + _ = _; rw [htx0, if_neg (by decide)]; unfold raw9; rw [if_pos hj, em]; by_cases e9 : j = 0; (rw [e9, if_pos rfl]; exact wby_m _ _); (rw [if_neg e9, Nat.add_zero]; exact wby_s e9)⟩⟩) hl
            · skip
              have em : mK9 (ptB B (32 + 3 * k1)) = 5 := by unfold mK9; rw [if_pos (hrg9.resolve_right (fun h => hg h.1)).2]
              refine lv_iconst (v := nI 5) hx hb d_Model_bytes_180 (by decide) ?_
              refine lv_goto (tgt := 185) hx hb d_Model_bytes_181 (by decide) ?_
              refine lv_iadd hx hb d_Model_bytes_185 ?_
              refine lv_topi (fun t9 e9 => ?_)
              obtain rfl : t9 = nI 5 := e9.trans (by decide)
              refine lv_istore (lv' := [(5, .int (nI 5)), (4, .int 0), (0, .ref mo), (2, .int sh)]) hx hb d_Model_bytes_186 hl (by decide) rfl (fun ls hl => ?_)
              have hl : lv_has ls 6 [(5, .int (nI 5)), (0, .ref mo)] := lv_sub hl [0, 2] rfl
              exact tail NN 5 _ _ ls fd_4 _ _ hNp hm hN hfx hF hB1 hft hT (Or.inr ⟨hz, Or.inr ⟨hs, hN4, fun j hj => by show tx j + _ = _; rw [htx0, if_neg (by decide)]; unfold raw9; rw [if_pos hj, em]; by_cases e9 : j = 0; (rw [e9, if_pos rfl]; exact wby_m _ _); (rw [if_neg e9, Nat.add_zero]; exact wby_s e9)⟩⟩) hl
      | succ k ih =>
        intro  i NN   H   locs   ls   ft   tx hi hm hN hfx hF hft hT htx0 hl
        have hi96 : i < 96 := by omega
        refine lv_iload hx hb d_Model_bytes_84 (lv_at hl 0 rfl) ?_
        refine lv_aload_n hx hb d_Model_bytes_86 rfl (lv_at hl 2 rfl) ?_
        refine q_get (C := "KateDeskModel") (T := T_Model) (N := 14) (ci := 8) E hm.1 in_Model rfl 12 (by decide) w_1013 rfl rfl d_Model_bytes_87 ?_
        refine lv_icmp_ge (tgt := 143) hx hb d_Model_bytes_90 (by decide) (fun h9 => absurd h9 (nI_ge (by omega) (by omega))) (fun _ => ?_)
        refine lv_aload_n hx hb d_Model_bytes_93 rfl (lv_at hl 2 rfl) ?_
        refine q_get (C := "KateDeskModel") (T := T_Model) (N := 14) (ci := 8) E hm.1 in_Model rfl 11 (by decide) w_1012 rfl rfl d_Model_bytes_94 ?_
        refine lv_iload hx hb d_Model_bytes_97 (lv_at hl 0 rfl) ?_
        refine lv_iload hx hb d_Model_bytes_99 (lv_at hl 1 rfl) ?_
        rcases hrz with ⟨ez, hz⟩ | ⟨ez, hz⟩
        · skip
          subst ez
          refine lv_if_eq (tgt := 108) hx hb d_Model_bytes_101 (by decide) (fun h9 => absurd h9 (by decide)) (fun _ => ?_)
          refine lv_iconst (v := nI 0) hx hb d_Model_bytes_104 (by decide) ?_
          refine lv_goto (tgt := 136) hx hb d_Model_bytes_105 (by decide) ?_
          refine lv_topi (fun t9 e9 => ?_)
          obtain rfl : t9 = nI (tx i) := e9.trans (by rw [htx0, if_pos rfl])
          refine q_iast E hft hn7 hF i rfl (by omega) (by decide) d_Model_bytes_136 (fun H1 locs hq hft hF => ?_)
          have hm := hm.frm hq (by omega) (by omega) (by omega) (by omega) (OB.off hq (by omega) hm.1)
          have hfx := hfx.tr (hq.mono (fun q h => Or.inr h))
          have hT2 : ∀ j, j < i + 1 → upd ft i (nI (tx i)) j = nI (tx j) := fun j hj => by by_cases e9 : j = i; (rw [e9, up_s]); (rw [up_n e9]; exact hT j (by omega))
          refine lv_iinc (k := 0) (v := nI (i + 1)) (lv' := [(5, .int (nI (i + 1))), (4, .int 1), (0, .ref mo), (2, .int sh)]) hx hb d_Model_bytes_137 hl rfl (i_inc i) (by decide) rfl (fun ls hl => ?_)
          refine lv_goto (tgt := 84) hx hb d_Model_bytes_140 (by decide) ?_
          have hl : lv_has ls 6 [(5, .int (nI (i + 1))), (4, .int 1), (0, .ref mo), (2, .int sh)] := lv_sub hl [0, 1, 2, 3] rfl
          exact ih (i + 1) NN _ _ ls _ _ (by omega) hm hN hfx hF hft hT2 htx0 hl
        · skip
          subst ez
          refine lv_if_eq (tgt := 108) hx hb d_Model_bytes_101 (by decide) (fun _ => ?_) (fun h9 => absurd (rfl) h9)
          refine lv_aload_n hx hb d_Model_bytes_108 rfl (lv_at hl 2 rfl) ?_
          refine lv_iload hx hb d_Model_bytes_109 (lv_at hl 0 rfl) ?_
          refine lv_bipush (v := nI 48) hx hb d_Model_bytes_111 (by decide) ?_
          refine lv_icmp_ge (tgt := 122) hx hb d_Model_bytes_113 (by decide) (fun hc => ?_) (fun hc => ?_)
          · skip
            have hc : ¬ i < 48 := fun h => nI_ge h (by omega) hc
            refine lv_sipush (v := nI 149) hx hb d_Model_bytes_122 (by decide) ?_
            refine lv_bipush (v := nI 47) hx hb d_Model_bytes_125 (by decide) ?_
            refine lv_iload hx hb d_Model_bytes_127 (lv_at hl 0 rfl) ?_
            refine lv_bipush (v := nI 48) hx hb d_Model_bytes_129 (by decide) ?_
            refine lv_irem hx hb d_Model_bytes_131 (by decide) ?_
            refine lv_topi (fun t9 e9 => ?_)
            obtain rfl : t9 = nI (i - i / 48 * 48) := e9.trans (rem48 (by omega))
            refine lv_isub hx hb d_Model_bytes_132 ?_
            refine lv_topi (fun t9 e9 => ?_)
            obtain rfl : t9 = nI (47 - (i - i / 48 * 48)) := e9.trans (pk_sub (by omega))
            refine q_cV (rest := [.int (nI i), .ref (mo + 7)]) E (N_Model_byteOf l g n0 mo 149 (47 - (i - i / 48 * 48)) 0 (nI pn) (nI tn) (nI NN) 0 14 hw0 fd_3 (by decide) (by omega) (yA9 (ptB B (32 + 3 * k1))) hy9) w_1187 w_15 w_1184 w_1186 (bw_s 44 rfl) hd_Model_byteOf rfl ⟨by decide, by decide⟩ (OB.recv E.2.2.2.2.2 (by rfl) hm.1) hm hF hl.1 rfl (Nat.le_of_ble_eq_true rfl) d_Model_bytes_133 ⟨by decide, by decide⟩ (qi (fun rb H1 locs hq hF => ?_))
            obtain ⟨hrb, hq⟩ := hq
            have hq := hq.symm
            subst hq
            subst hrb
            refine lv_topi (fun t9 e9 => ?_)
            obtain rfl : t9 = nI (tx i) := e9.trans (by rw [htx0, if_neg (by decide), raw_b hi96, if_neg hc])
            refine q_iast E hft hn7 hF i rfl (by omega) (by decide) d_Model_bytes_136 (fun H2 locs hq hft hF => ?_)
            have hm := hm.frm hq (by omega) (by omega) (by omega) (by omega) (OB.off hq (by omega) hm.1)
            have hfx := hfx.tr (hq.mono (fun q h => Or.inr h))
            have hT2 : ∀ j, j < i + 1 → upd ft i (nI (tx i)) j = nI (tx j) := fun j hj => by by_cases e9 : j = i; (rw [e9, up_s]); (rw [up_n e9]; exact hT j (by omega))
            refine lv_iinc (k := 0) (v := nI (i + 1)) (lv' := [(5, .int (nI (i + 1))), (4, .int 0), (0, .ref mo), (2, .int sh)]) hx hb d_Model_bytes_137 hl rfl (i_inc i) (by decide) rfl (fun ls hl => ?_)
            refine lv_goto (tgt := 84) hx hb d_Model_bytes_140 (by decide) ?_
            have hl : lv_has ls 6 [(5, .int (nI (i + 1))), (4, .int 0), (0, .ref mo), (2, .int sh)] := lv_sub hl [0, 1, 2, 3] rfl
            exact ih (i + 1) NN _ _ ls _ _ (by omega) hm hN hfx hF hft hT2 htx0 hl
          · skip
            have hc : i < 48 := Classical.byContradiction (fun h => hc (nI_le (by omega) (by omega)))
            refine lv_sipush (v := nI 148) hx hb d_Model_bytes_116 (by decide) ?_
            refine lv_goto (tgt := 125) hx hb d_Model_bytes_119 (by decide) ?_
            refine lv_bipush (v := nI 47) hx hb d_Model_bytes_125 (by decide) ?_
            refine lv_iload hx hb d_Model_bytes_127 (lv_at hl 0 rfl) ?_
            refine lv_bipush (v := nI 48) hx hb d_Model_bytes_129 (by decide) ?_
            refine lv_irem hx hb d_Model_bytes_131 (by decide) ?_
            refine lv_topi (fun t9 e9 => ?_)
            obtain rfl : t9 = nI (i - i / 48 * 48) := e9.trans (rem48 (by omega))
            refine lv_isub hx hb d_Model_bytes_132 ?_
            refine lv_topi (fun t9 e9 => ?_)
            obtain rfl : t9 = nI (47 - (i - i / 48 * 48)) := e9.trans (pk_sub (by omega))
            refine q_cV (rest := [.int (nI i), .ref (mo + 7)]) E (N_Model_byteOf l g n0 mo 148 (47 - (i - i / 48 * 48)) 0 (nI pn) (nI tn) (nI NN) 0 14 hw0 fd_3 (by decide) (by omega) (xA9 (ptB B (32 + 3 * k1))) hx9) w_1187 w_15 w_1184 w_1186 (bw_s 44 rfl) hd_Model_byteOf rfl ⟨by decide, by decide⟩ (OB.recv E.2.2.2.2.2 (by rfl) hm.1) hm hF hl.1 rfl (Nat.le_of_ble_eq_true rfl) d_Model_bytes_133 ⟨by decide, by decide⟩ (qi (fun rb H1 locs hq hF => ?_))
            obtain ⟨hrb, hq⟩ := hq
            have hq := hq.symm
            subst hq
            subst hrb
            refine lv_topi (fun t9 e9 => ?_)
            obtain rfl : t9 = nI (tx i) := e9.trans (by rw [htx0, if_neg (by decide), raw_b hi96, if_pos hc])
            refine q_iast E hft hn7 hF i rfl (by omega) (by decide) d_Model_bytes_136 (fun H2 locs hq hft hF => ?_)
            have hm := hm.frm hq (by omega) (by omega) (by omega) (by omega) (OB.off hq (by omega) hm.1)
            have hfx := hfx.tr (hq.mono (fun q h => Or.inr h))
            have hT2 : ∀ j, j < i + 1 → upd ft i (nI (tx i)) j = nI (tx j) := fun j hj => by by_cases e9 : j = i; (rw [e9, up_s]); (rw [up_n e9]; exact hT j (by omega))
            refine lv_iinc (k := 0) (v := nI (i + 1)) (lv' := [(5, .int (nI (i + 1))), (4, .int 0), (0, .ref mo), (2, .int sh)]) hx hb d_Model_bytes_137 hl rfl (i_inc i) (by decide) rfl (fun ls hl => ?_)
            refine lv_goto (tgt := 84) hx hb d_Model_bytes_140 (by decide) ?_
            have hl : lv_has ls 6 [(5, .int (nI (i + 1))), (4, .int 0), (0, .ref mo), (2, .int sh)] := lv_sub hl [0, 1, 2, 3] rfl
            exact ih (i + 1) NN _ _ ls _ _ (by omega) hm hN hfx hF hft hT2 htx0 hl
    refine lv_aload_n hx hb d_Model_bytes_66 rfl (lv_at hl 2 rfl) ?_
    refine lv_iload_n hx hb d_Model_bytes_67 rfl (lv_at hl 4 rfl) ?_
    refine lv_if_eq (tgt := 76) hx hb d_Model_bytes_68 (by decide) (fun hs => ?_) (fun hs => ?_)
    rotate_left
    · skip
      refine lv_bipush (v := nI 48) hx hb d_Model_bytes_71 (by decide) ?_
      refine lv_goto (tgt := 78) hx hb d_Model_bytes_73 (by decide) ?_
      refine q_put (C := "KateDeskModel") (T := T_Model) (N := 14) (ci := 8) (ty := .int) E hm.1 in_Model ty_Model tyok_Model nm_Model rfl 12 (by decide) w_1013 rfl rfl (by decide +kernel) rfl rfl (Nat.le_of_ble_eq_true rfl) hmn hF d_Model_bytes_78 (fun H8 locs hq ho2 hF => ?_)
      have hfr := hfr.tr (hq.mono (fun q h => Or.inl h))
      have hm : MS g n0 H8 mo 0 (nI pn) (nI tn) (nI 48) 0 14 fd_3 := hm.frm hq (by omega) (by omega) (by omega) (by omega) ho2
      obtain ⟨ft0, hft0⟩ := hP.2.2.2.2.1.imp (fun f hf => AI.off hfr (show ¬ MR mo (mo + 7) by unfold MR; omega) hf)
      refine lv_iconst (v := nI 0) hx hb d_Model_bytes_81 (by decide) ?_
      refine lv_istore (lv' := [(5, .int (nI 0)), (4, .int rz), (3, .int (nI (32 + 3 * k1))), (0, .ref mo), (1, .int (nI k1)), (2, .int sh)]) hx hb d_Model_bytes_82 hl (by decide) rfl (fun ls hl => ?_)
      have hl : lv_has ls 6 [(5, .int (nI 0)), (4, .int rz), (0, .ref mo), (2, .int sh)] := lv_sub hl [0, 1, 3, 5] rfl
      exact loop 48 0 48 _ _ ls ft0 (fun j => if rz = 1 then 0 else raw9 (ptB B (32 + 3 * k1)) j) (by omega) hm (Or.inr ⟨hs, rfl⟩) (hfr.mono (fun q h => Or.inl h)) hF hft0 (fun j hj => absurd hj (Nat.not_lt_zero _)) (fun j => rfl) hl
    refine lv_bipush (v := nI 96) hx hb d_Model_bytes_76 (by decide) ?_
    refine q_put (C := "KateDeskModel") (T := T_Model) (N := 14) (ci := 8) (ty := .int) E hm.1 in_Model ty_Model tyok_Model nm_Model rfl 12 (by decide) w_1013 rfl rfl (by decide +kernel) rfl rfl (Nat.le_of_ble_eq_true rfl) hmn hF d_Model_bytes_78 (fun H8 locs hq ho2 hF => ?_)
    have hfr := hfr.tr (hq.mono (fun q h => Or.inl h))
    have hm : MS g n0 H8 mo 0 (nI pn) (nI tn) (nI 96) 0 14 fd_3 := hm.frm hq (by omega) (by omega) (by omega) (by omega) ho2
    obtain ⟨ft0, hft0⟩ := hP.2.2.2.2.1.imp (fun f hf => AI.off hfr (show ¬ MR mo (mo + 7) by unfold MR; omega) hf)
    refine lv_iconst (v := nI 0) hx hb d_Model_bytes_81 (by decide) ?_
    refine lv_istore (lv' := [(5, .int (nI 0)), (4, .int rz), (3, .int (nI (32 + 3 * k1))), (0, .ref mo), (1, .int (nI k1)), (2, .int sh)]) hx hb d_Model_bytes_82 hl (by decide) rfl (fun ls hl => ?_)
    have hl : lv_has ls 6 [(5, .int (nI 0)), (4, .int rz), (0, .ref mo), (2, .int sh)] := lv_sub hl [0, 1, 3, 5] rfl
    exact loop 96 0 96 _ _ ls ft0 (fun j => if rz = 1 then 0 else raw9 (ptB B (32 + 3 * k1)) j) (by omega) hm (Or.inl ⟨hs, rfl⟩) (hfr.mono (fun q h => Or.inl h)) hF hft0 (fun j hj => absurd hj (Nat.not_lt_zero _)) (fun j => rfl) hl
  refine lv_aload_n hx hb d_Model_bytes_0 rfl (lv_at hl 0 rfl) ?_
  refine lv_iload_n hx hb d_Model_bytes_1 rfl (lv_at hl 1 rfl) ?_
  refine q_cS (rest := [.ref mo]) E (c_Model_noPoint l g n0 a ) w_1151 w_15 w_1149 w_1150 hd_Model_noPoint rfl ⟨by decide, by decide⟩ trivial hF hl.1 rfl (Nat.le_of_ble_eq_true rfl) d_Model_bytes_2 ⟨by decide, by decide⟩ (qi (fun r_0 H1 locs hq hF => ?_))
  obtain ⟨h_0, hq⟩ := hq
  subst hq
  rcases h_0 with ⟨rfl, f_0⟩ | ⟨rfl, f_0⟩
  · skip
    have hl : lv_has ls 6 [(0, .ref mo), (1, .int a), (2, .int sh)] := lv_sub hl [0, 1, 2] rfl
    exact bad _ ls (fun h => (f_0) h) hF hl
  · skip
    have hl : lv_has ls 6 [(0, .ref mo), (1, .int a), (2, .int sh)] := lv_sub hl [0, 1, 2] rfl
    exact good _ ls f_0 hF hl
set_option maxHeartbeats 4000000 in
set_option maxRecDepth 100000 in
theorem W_Model_out (l : Launch) (g : WG) (n0 : Nat → Prop) (mo : Nat) (th : Int32) (pn tn wn : Nat) (B : Nat → Int) (kv : Int32) (ft : Nat → Int32) (T : Nat → Nat) (hT : ∀ j, j < wn → ft j = nI (T j)) : Ctr l y_Model_out (.code y_Model_out prog_11_method_48_code 5 (some FieldType.long)) 1 25 0 0 n0 g [.ref mo, .int kv] (fun H => MVP g n0 H mo th pn tn wn B ∧ AI g H (mo + 7) 96 ft) (QL (fun r H H' => ((((0 : Int64).toInt ≤ kv.toInt64.toInt ∧ kv.toInt64.toInt ≤ (nI wn - nI 1).toInt64.toInt)) ∧ (∃ k1, kv = nI k1 ∧ k1 < wn ∧ r = OU9 T k1 wn 8 ∧ MVP g n0 H' mo 0 pn tn wn B)) ∨ (¬ (((0 : Int64).toInt ≤ kv.toInt64.toInt ∧ kv.toInt64.toInt ≤ (nI wn - nI 1).toInt64.toInt)) ∧ MVP g n0 H' mo 1 pn tn wn B))) := by
  refine ctr_mk l (lv0 := [(0, .ref mo), (1, .int kv)]) (by decide) (Nat.le_of_ble_eq_true rfl) rfl ?_
  intro p e s m below meth c ls E hr hlk hnm hl hP
  have hx := E.1
  have hb := E.2.1
  have hK := E.2.2.2.2.2
  have hF : ∀ q ∈ ([] : List Loc), n0 q.base := fun q hq => absurd hq List.not_mem_nil
  obtain ⟨hP, hft⟩ := hP
  obtain ⟨⟨w9, n9, fd, hw9, hm, hB⟩, ⟨fa, hab0, hAT, hAQ⟩, hho, -, -, hbd, hmn, -, -, hn8⟩ := id hP
  have hfr : FRM (MR mo) s.heap s.heap := FRM.rf
  have bad : ∀ (locs : List Loc) (ls : Array Slot), ¬ (((0 : Int64).toInt ≤ kv.toInt64.toInt ∧ kv.toInt64.toInt ≤ (nI wn - nI 1).toInt64.toInt)) → (∀ q ∈ locs, n0 q.base) → lv_has ls 5 [(0, .ref mo), (1, .int kv)] → W p l e { frames := 1, cells := 0, slots := 0, locals := 25 } s m [.ref mo, .int kv].toArray below meth c s.heap locs 0 0 (MQ below (QcP (QL (fun r H H' => ((((0 : Int64).toInt ≤ kv.toInt64.toInt ∧ kv.toInt64.toInt ≤ (nI wn - nI 1).toInt64.toInt)) ∧ (∃ k1, kv = nI k1 ∧ k1 < wn ∧ r = OU9 T k1 wn 8 ∧ MVP g n0 H' mo 0 pn tn wn B)) ∨ (¬ (((0 : Int64).toInt ≤ kv.toInt64.toInt ∧ kv.toInt64.toInt ≤ (nI wn - nI 1).toInt64.toInt)) ∧ MVP g n0 H' mo 1 pn tn wn B)))) [.ref mo, .int kv].toArray s 0 0 (fun q => n0 q)) (F0 m 22 ls [.int (nI 1), .ref mo]) := by
    intro  locs   ls hno hF hl
    refine lv_iconst (v := nI 1) hx hb d_Model_out_22 (by decide) ?_
    refine q_cV (rest := []) E (c_Model_fails l g n0 mo th (nI pn) (nI tn) (nI wn) w9 n9 hw9 (nI 1) (nI 1) fd hmn (Or.inl rfl)) w_1056 w_15 w_1053 w_1055 (bw_s 24 rfl) hd_Model_fails rfl ⟨by decide, by decide⟩ (OB.recv E.2.2.2.2.2 (by rfl) hm.1) hm hF hl.1 rfl (Nat.le_of_ble_eq_true rfl) d_Model_out_23 ⟨by decide, by decide⟩ (qi (fun rf H1 locs hq hF => ?_))
    obtain ⟨hrf, hq, hm⟩ := hq
    subst hrf
    have hfr := hfr.tr hq
    rw [if_neg (by decide)] at hm
    refine lv_if_eq (tgt := 31) hx hb d_Model_out_26 (by decide) (fun h9 => absurd h9 (by decide)) (fun _ => ?_)
    refine lv_lconst (v := 0) hx hb d_Model_out_29 (by decide) ?_
    exact q_lret E hr hlk (⟨_, rfl, Or.inr ⟨hno, hP.keep hfr hw9 hm hB⟩⟩) hF d_Model_out_30
  have good : ∀ (locs : List Loc) (ls : Array Slot), ((0 : Int64).toInt ≤ kv.toInt64.toInt ∧ kv.toInt64.toInt ≤ (nI wn - nI 1).toInt64.toInt) → (∀ q ∈ locs, n0 q.base) → lv_has ls 5 [(0, .ref mo), (1, .int kv)] → W p l e { frames := 1, cells := 0, slots := 0, locals := 25 } s m [.ref mo, .int kv].toArray below meth c s.heap locs 0 0 (MQ below (QcP (QL (fun r H H' => ((((0 : Int64).toInt ≤ kv.toInt64.toInt ∧ kv.toInt64.toInt ≤ (nI wn - nI 1).toInt64.toInt)) ∧ (∃ k1, kv = nI k1 ∧ k1 < wn ∧ r = OU9 T k1 wn 8 ∧ MVP g n0 H' mo 0 pn tn wn B)) ∨ (¬ (((0 : Int64).toInt ≤ kv.toInt64.toInt ∧ kv.toInt64.toInt ≤ (nI wn - nI 1).toInt64.toInt)) ∧ MVP g n0 H' mo 1 pn tn wn B)))) [.ref mo, .int kv].toArray s 0 0 (fun q => n0 q)) (F0 m 22 ls [.int (nI 0), .ref mo]) := by
    intro  locs   ls hok hF hl
    refine lv_iconst (v := nI 1) hx hb d_Model_out_22 (by decide) ?_
    refine q_cV (rest := []) E (c_Model_fails l g n0 mo th (nI pn) (nI tn) (nI wn) w9 n9 hw9 (nI 0) (nI 1) fd hmn (Or.inr rfl)) w_1056 w_15 w_1053 w_1055 (bw_s 24 rfl) hd_Model_fails rfl ⟨by decide, by decide⟩ (OB.recv E.2.2.2.2.2 (by rfl) hm.1) hm hF hl.1 rfl (Nat.le_of_ble_eq_true rfl) d_Model_out_23 ⟨by decide, by decide⟩ (qi (fun rf H1 locs hq hF => ?_))
    obtain ⟨hrf, hq, hm⟩ := hq
    subst hrf
    have hfr := hfr.tr hq
    rw [if_pos nI_0] at hm
    refine lv_if_eq (tgt := 31) hx hb d_Model_out_26 (by decide) (fun _ => ?_) (fun h9 => absurd (by decide) h9)
    obtain ⟨k1, e_k1, h_k1⟩ := out_k hbd.2.2 hok
    rw [e_k1] at hl
    have ht7 := AI.off hfr (show ¬ MR mo (mo + 7) by unfold MR; omega) hft
    refine lv_lconst (v := 0) hx hb d_Model_out_31 (by decide) ?_
    refine lv_lstore_n (lv' := [(2, .long 0), (0, .ref mo), (1, .int (nI k1))]) hx hb d_Model_out_32 rfl hl (by decide) rfl (fun ls hl => ?_)
    refine lv_iconst (v := nI 0) hx hb d_Model_out_33 (by decide) ?_
    refine lv_istore (lv' := [(4, .int (nI 0)), (2, .long 0), (0, .ref mo), (1, .int (nI k1))]) hx hb d_Model_out_34 hl (by decide) rfl (fun ls hl => ?_)
    have hl : lv_has ls 5 [(4, .int (nI 0)), (2, .long (OU9 T k1 wn 0)), (0, .ref mo), (1, .int (nI k1))] := lv_sub hl [0, 1, 2, 3] rfl
    have loop : ∀ (k : Nat) (i : Nat) (locs : List Loc) (ls : Array Slot), i + k = 8 → (∀ q ∈ locs, n0 q.base) → lv_has ls 5 [(4, .int (nI i)), (2, .long (OU9 T k1 wn i)), (0, .ref mo), (1, .int (nI k1))] → W p l e { frames := 1, cells := 0, slots := 0, locals := 25 } s m [.ref mo, .int kv].toArray below meth c H1 locs 0 0 (MQ below (QcP (QL (fun r H H' => ((((0 : Int64).toInt ≤ kv.toInt64.toInt ∧ kv.toInt64.toInt ≤ (nI wn - nI 1).toInt64.toInt)) ∧ (∃ k1, kv = nI k1 ∧ k1 < wn ∧ r = OU9 T k1 wn 8 ∧ MVP g n0 H' mo 0 pn tn wn B)) ∨ (¬ (((0 : Int64).toInt ≤ kv.toInt64.toInt ∧ kv.toInt64.toInt ≤ (nI wn - nI 1).toInt64.toInt)) ∧ MVP g n0 H' mo 1 pn tn wn B)))) [.ref mo, .int kv].toArray s 0 0 (fun q => n0 q)) (F0 m 36 ls []) := by
      intro k
      induction k with
      | zero =>
        intro  i   locs   ls hi hF hl
        obtain rfl : i = 8 := by omega
        refine lv_iload hx hb d_Model_out_36 (lv_at hl 0 rfl) ?_
        refine lv_bipush (v := nI 8) hx hb d_Model_out_38 (by decide) ?_
        refine lv_icmp_ge (tgt := 79) hx hb d_Model_out_40 (by decide) (fun _ => ?_) (fun h9 => absurd (by decide) h9)
        refine lv_lload_n hx hb d_Model_out_79 rfl (lv_at hl 1 rfl) ?_
        exact q_lret E hr hlk (⟨_, rfl, Or.inl ⟨hok, k1, e_k1, h_k1, rfl, hP.keep hfr hw9 hm hB⟩⟩) hF d_Model_out_80
      | succ k ih =>
        intro  i   locs   ls hi hF hl
        refine lv_iload hx hb d_Model_out_36 (lv_at hl 0 rfl) ?_
        refine lv_bipush (v := nI 8) hx hb d_Model_out_38 (by decide) ?_
        refine lv_icmp_ge (tgt := 79) hx hb d_Model_out_40 (by decide) (fun h9 => absurd h9 (nI_ge (by omega) (by decide))) (fun _ => ?_)
        refine lv_iload_n hx hb d_Model_out_43 rfl (lv_at hl 3 rfl) ?_
        refine lv_iload hx hb d_Model_out_44 (lv_at hl 0 rfl) ?_
        refine lv_iadd hx hb d_Model_out_46 ?_
        refine lv_topi (fun t9 e9 => ?_)
        obtain rfl : t9 = nI (k1 + i) := e9.trans (nI_add _ _)
        refine lv_aload_n hx hb d_Model_out_47 rfl (lv_at hl 2 rfl) ?_
        refine q_get (C := "KateDeskModel") (T := T_Model) (N := 14) (ci := 8) E hm.1 in_Model rfl 12 (by decide) w_1013 rfl rfl d_Model_out_48 ?_
        refine lv_icmp_ge (tgt := 79) hx hb d_Model_out_51 (by decide) (fun hc => ?_) (fun hc => ?_)
        rotate_left
        · skip
          have hc2 : k1 + i < wn := Nat.lt_of_not_le (fun q => hc (nI_le q (by omega)))
          refine lv_lload_n hx hb d_Model_out_54 rfl (lv_at hl 1 rfl) ?_
          refine lv_aload_n hx hb d_Model_out_55 rfl (lv_at hl 2 rfl) ?_
          refine q_get (C := "KateDeskModel") (T := T_Model) (N := 14) (ci := 8) E hm.1 in_Model rfl 11 (by decide) w_1012 rfl rfl d_Model_out_56 ?_
          refine lv_iload_n hx hb d_Model_out_59 rfl (lv_at hl 3 rfl) ?_
          refine lv_iload hx hb d_Model_out_60 (lv_at hl 0 rfl) ?_
          refine lv_iadd hx hb d_Model_out_62 ?_
          refine lv_topi (fun t9 e9 => ?_)
          obtain rfl : t9 = nI (k1 + i) := e9.trans (nI_add _ _)
          refine q_iald E ht7 (k1 + i) rfl (by omega) (by decide) d_Model_out_63 ?_
          rw [hT (k1 + i) hc2]
          refine lv_i2l (v := (nI (T (k1 + i))).toInt64) hx hb d_Model_out_64 rfl ?_
          refine lv_bipush (v := nI 8) hx hb d_Model_out_65 (by decide) ?_
          refine lv_iload hx hb d_Model_out_67 (lv_at hl 0 rfl) ?_
          refine lv_imul hx hb d_Model_out_69 ?_
          refine lv_lshl (v := ((nI (T (k1 + i))).toInt64) <<< (((nI 8) * (nI i)).toInt64 &&& 63)) hx hb d_Model_out_70 rfl ?_
          refine lv_lor hx hb d_Model_out_71 ?_
          refine lv_topl (fun t9 e9 => ?_)
          obtain rfl : t9 = OU9 T k1 wn (i + 1) := e9.trans (by show _ = (if k1 + i < wn then _ else _); rw [if_pos hc2])
          refine lv_lstore_n (lv' := [(2, .long (OU9 T k1 wn (i + 1))), (4, .int (nI i)), (0, .ref mo), (1, .int (nI k1))]) hx hb d_Model_out_72 rfl hl (by decide) rfl (fun ls hl => ?_)
          refine lv_iinc (k := 1) (v := nI (i + 1)) (lv' := [(4, .int (nI (i + 1))), (2, .long (OU9 T k1 wn (i + 1))), (0, .ref mo), (1, .int (nI k1))]) hx hb d_Model_out_73 hl rfl (i_inc i) (by decide) rfl (fun ls hl => ?_)
          refine lv_goto (tgt := 36) hx hb d_Model_out_76 (by decide) ?_
          have hl : lv_has ls 5 [(4, .int (nI (i + 1))), (2, .long (OU9 T k1 wn (i + 1))), (0, .ref mo), (1, .int (nI k1))] := lv_sub hl [0, 1, 2, 3] rfl
          exact ih (i + 1) _ ls (by omega) hF hl
        have hc2 : ¬ k1 + i < wn := fun h => nI_ge h (by omega) hc
        have e8 : OU9 T k1 wn 8 = OU9 T k1 wn i := by have h9 := OU9_st (T := T) hc2 (8 - i); rw [show i + (8 - i) = 8 by omega] at h9; exact h9
        refine lv_lload_n hx hb d_Model_out_79 rfl (lv_at hl 1 rfl) ?_
        exact q_lret E hr hlk (⟨_, rfl, Or.inl ⟨hok, k1, e_k1, h_k1, e8.symm, hP.keep hfr hw9 hm hB⟩⟩) hF d_Model_out_80
    exact loop 8 0 _ ls (by omega) hF hl
  refine lv_aload_n hx hb d_Model_out_0 rfl (lv_at hl 0 rfl) ?_
  refine lv_iload_n hx hb d_Model_out_1 rfl (lv_at hl 1 rfl) ?_
  refine lv_i2l (v := kv.toInt64) hx hb d_Model_out_2 rfl ?_
  refine lv_lconst (v := 0) hx hb d_Model_out_3 (by decide) ?_
  refine lv_aload_n hx hb d_Model_out_4 rfl (lv_at hl 0 rfl) ?_
  refine q_get (C := "KateDeskModel") (T := T_Model) (N := 14) (ci := 8) E hm.1 in_Model rfl 12 (by decide) w_1013 rfl rfl d_Model_out_5 ?_
  refine lv_iconst (v := nI 1) hx hb d_Model_out_8 (by decide) ?_
  refine lv_isub hx hb d_Model_out_9 ?_
  refine lv_i2l (v := ((nI wn) - (nI 1)).toInt64) hx hb d_Model_out_10 rfl ?_
  refine q_cS (rest := [.ref mo]) E (c_Model_in l g n0 kv.toInt64 0 (((nI wn) - (nI 1)).toInt64) ) w_1101 w_15 w_1099 w_1100 hd_Model_in rfl ⟨by decide, by decide⟩ trivial hF hl.1 rfl (Nat.le_of_ble_eq_true rfl) d_Model_out_11 ⟨by decide, by decide⟩ (qi (fun r_0 H1 locs hq hF => ?_))
  obtain ⟨h_0, hq⟩ := hq
  subst hq
  rcases h_0 with ⟨rfl, f_0⟩ | ⟨rfl, f_0⟩
  · skip
    refine lv_if_ne (tgt := 21) hx hb d_Model_out_14 (by decide) (fun h9 => absurd (by decide) h9) (fun _ => ?_)
    refine lv_iconst (v := nI 1) hx hb d_Model_out_17 (by decide) ?_
    refine lv_goto (tgt := 22) hx hb d_Model_out_18 (by decide) ?_
    have hl : lv_has ls 5 [(0, .ref mo), (1, .int kv)] := lv_sub hl [0, 1] rfl
    exact bad _ ls (fun h => (f_0) h) hF hl
  · skip
    refine lv_if_ne (tgt := 21) hx hb d_Model_out_14 (by decide) (fun _ => ?_) (fun h9 => absurd h9 (by decide))
    refine lv_iconst (v := nI 0) hx hb d_Model_out_21 (by decide) ?_
    have hl : lv_has ls 5 [(0, .ref mo), (1, .int kv)] := lv_sub hl [0, 1] rfl
    exact good _ ls f_0 hF hl
