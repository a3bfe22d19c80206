theorem NQ_Model_product (l : Launch) (g : WG) (n0 : Nat → Prop) (mo r a b : Nat) (th pw td wr : Int32) (fd : Nat → Int64) (hr1 : r < 170) (ha : a < 170) (hb1 : b < 170) (fa : Nat → Int64) (hAT : (∀ j, j ≤ 14 → PP 0 14 ∣ VL (fun k => fa (210 * 0 + 14 * j + k)) 14 - 268435456 ^ (14 + j))) (x y : Int) (hd : DD fd) (hx : NV fd a x) (hy : NV fd b y) (hxr : x < QJ) (hyr : y < QJ) : Ctr l y_Model_product (.code y_Model_product prog_11_method_17_code 9 none) 2 51 0 0 n0 g [.ref mo, .int (nI r), .int (nI a), .int (nI b)] (fun H => MS g n0 H mo th pw td wr 0 14 fd ∧ AJ g H (mo + 4) 420 fa) (QV (fun H H' => KJ g (fun q => q = mo + 1 ∨ q = mo + 5) H H' ∧ ∃ fd', MS g n0 H' mo th pw td wr 0 14 fd' ∧ (∀ j, (j < 14 * r ∨ 14 * r + 14 ≤ j) → fd' j = fd j) ∧ NV fd' r ((x * y) % QJ))) :=
  (V_Model_product l g n0 mo r a b th pw td wr 0 14 w0_ fd hr1 ha hb1 fa hAT).imp (fun _ h => h) (fun v H H' h _ => ⟨h.1, by
    obtain ⟨hk, fd', hm, hpv, hv⟩ := h.2
    rw [show SV fd a 14 = x from hx, show SV fd b 14 = y from hy, PP_Q] at hv
    exact ⟨hk, fd', hm, hpv.1, hv⟩⟩)
theorem nqs_sq (X : Int) (e : Nat) : ((X ^ e % QJ) * (X ^ e % QJ)) % QJ = X ^ (2 * e) % QJ := by rw [← Int.mul_emod, Nat.two_mul, Int.pow_add]
theorem nqs_mu (X : Int) (e : Nat) : ((X ^ e % QJ) * X) % QJ = X ^ (e + 1) % QJ := by rw [Int.mul_emod, Int.emod_emod_of_dvd _ (Int.dvd_refl _), ← Int.mul_emod, Int.pow_succ]
set_option maxHeartbeats 4000000 in
set_option maxRecDepth 100000 in
theorem NQ_Model_raise (l : Launch) (g : WG) (n0 : Nat → Prop) (mo r a b : Nat) (th pw td wr : Int32) (fd fa : Nat → Int64) (hr1 : r < 170) (ha : a < 170) (hb1 : b < 170) (hAT : (∀ j, j ≤ 14 → PP 0 14 ∣ VL (fun k => fa (210 * 0 + 14 * j + k)) 14 - 268435456 ^ (14 + j))) (X : Int) (E9 : Nat) (hX : NV fd a X) (hXr : X < QJ) (hE : NV fd b (E9 : Int)) (hbw : b ≠ 121 ∧ b ≠ 122) : Ctr l y_Model_raise (.code y_Model_raise prog_11_method_19_code 5 none) 3 79 0 0 n0 g [.ref mo, .int (nI r), .int (nI a), .int (nI b)] (fun H => MS g n0 H mo th pw td wr 0 14 fd ∧ AJ g H (mo + 4) 420 fa) (QV (fun H H' => FRM (MR mo) H H' ∧ AJ g H' (mo + 4) 420 fa ∧ ∃ fd', MS g n0 H' mo th pw td wr 0 14 fd' ∧ (∀ j, ¬ (14 * 121 ≤ j ∧ j < 14 * 123) → (j < 14 * r ∨ 14 * r + 14 ≤ j) → fd' j = fd j) ∧ NV fd' r (X ^ E9 % QJ))) := by
  refine ctr_mk l (lv0 := [(0, .ref mo), (1, .int (nI r)), (2, .int (nI a)), (3, .int (nI b))]) (by decide) (Nat.le_of_ble_eq_true rfl) rfl ?_
  intro p e s m below meth c ls E hr hlk hnm hl hP
  have hx := E.1
  have hb := E.2.1
  have hK := E.2.2.2.2.2
  have hF : ∀ q ∈ ([] : List Loc), n0 q.base := fun q hq => absurd hq List.not_mem_nil
  obtain ⟨hm, hab⟩ := hP
  have hDDf := hm.2.2.2.2.2.1
  have hfr : FRM (MR mo) s.heap s.heap := FRM.rf
  have loop : ∀ (k : Nat) (H : Heap) (locs : List Loc) (ls : Array Slot) (v : Int32) (fd1 : Nat → Int64), k ≤ 392 → v = nI k - 1 → FRM (MR mo) s.heap H → MS g n0 H mo th pw td wr 0 14 fd1 → AJ g H (mo + 4) 420 fa → NV fd1 121 (X ^ (E9 / 2 ^ k) % QJ) → NV fd1 122 X → NV fd1 b (E9 : Int) → (∀ j, ¬ (14 * 121 ≤ j ∧ j < 14 * 123) → fd1 j = fd j) → (∀ q ∈ locs, n0 q.base) → lv_has ls 5 [(4, .int v), (0, .ref mo), (1, .int (nI r)), (2, .int (nI a)), (3, .int (nI b))] → W p l e { frames := 3, cells := 0, slots := 0, locals := 79 } s m [.ref mo, .int (nI r), .int (nI a), .int (nI b)].toArray below meth c H locs 0 0 (MQ below (QcP (QV (fun H H' => FRM (MR mo) H H' ∧ AJ g H' (mo + 4) 420 fa ∧ ∃ fd', MS g n0 H' mo th pw td wr 0 14 fd' ∧ (∀ j, ¬ (14 * 121 ≤ j ∧ j < 14 * 123) → (j < 14 * r ∨ 14 * r + 14 ≤ j) → fd' j = fd j) ∧ NV fd' r (X ^ E9 % QJ)))) [.ref mo, .int (nI r), .int (nI a), .int (nI b)].toArray s 0 0 (fun q => n0 q)) (F0 m 18 ls []) := by
    intro k
    induction k with
    | zero =>
      intro  H   locs   ls   v   fd1 hk392 hv0 hfr hm hab h121 h122 hby hsm hF hl
      subst hv0
      refine lv_iload hx hb d_Model_raise_18 (lv_at hl 0 rfl) ?_
      refine lv_if_lt (tgt := 60) hx hb d_Model_raise_20 (by decide) (fun _ => ?_) (fun h9 => absurd (by decide) h9)
      refine lv_aload_n hx hb d_Model_raise_60 rfl (lv_at hl 1 rfl) ?_
      refine lv_iload_n hx hb d_Model_raise_61 rfl (lv_at hl 2 rfl) ?_
      refine lv_bipush (v := nI 121) hx hb d_Model_raise_62 (by decide) ?_
      refine q_cV (rest := []) E (c_Model_move l g n0 mo r 121 th pw td wr 0 14 w0_ fd1 (by omega) (by omega)) w_1076 w_15 w_1073 w_1075 (bw_s 27 rfl) hd_Model_move rfl ⟨by decide, by decide⟩ (OB.recv E.2.2.2.2.2 (by rfl) hm.1) hm hF hl.1 rfl (Nat.le_of_ble_eq_true rfl) d_Model_raise_64 ⟨by decide, by decide⟩ (qv (fun H1 locs hq hF => ?_))
      obtain ⟨hq, fd2, hm, hpwfd2⟩ := hq
      have hab := AJ.off hq (by unfold MR; omega) hab
      have hfr := hfr.tr hq
      rw [show E9 / 2 ^ 0 = E9 from Nat.div_one E9] at h121
      exact q_vret E hr hlk (⟨rfl, hfr, hab, fd2, hm, fun j h1 h2 => (hpwfd2.1 j h2).trans (hsm j h1), (VL_ext (fun k hk => hpwfd2.2 k hk)).trans h121⟩) hF d_Model_raise_67
    | succ k ih =>
      intro  H   locs   ls   v   fd1 hk392 hv0 hfr hm hab h121 h122 hby hsm hF hl
      rw [nI_pred] at hv0
      subst hv0
      refine lv_iload hx hb d_Model_raise_18 (lv_at hl 0 rfl) ?_
      refine lv_if_lt (tgt := 60) hx hb d_Model_raise_20 (by decide) (fun h9 => absurd h9 (nI_pos (by omega))) (fun _ => ?_)
      refine lv_aload_n hx hb d_Model_raise_23 rfl (lv_at hl 1 rfl) ?_
      refine lv_bipush (v := nI 121) hx hb d_Model_raise_24 (by decide) ?_
      refine lv_bipush (v := nI 121) hx hb d_Model_raise_26 (by decide) ?_
      refine lv_bipush (v := nI 121) hx hb d_Model_raise_28 (by decide) ?_
      refine q_cV (rest := []) E (NQ_Model_product l g n0 mo 121 121 121 th pw td wr fd1 (by decide) (by decide) (by decide) fa hAT (X ^ (E9 / 2 ^ (k + 1)) % QJ) (X ^ (E9 / 2 ^ (k + 1)) % QJ) hm.2.2.2.2.2.1 h121 h121 (qm_r _).2 (qm_r _).2) w_1113 w_15 w_1110 w_1112 (bw_s 32 rfl) hd_Model_product rfl ⟨by decide, by decide⟩ (OB.recv E.2.2.2.2.2 (by rfl) hm.1) (⟨hm, hab⟩) hF hl.1 rfl (Nat.le_of_ble_eq_true rfl) d_Model_raise_30 ⟨by decide, by decide⟩ (qv (fun H1 locs hq hF => ?_))
      obtain ⟨hq, fd2, hm, ho, hnfd2⟩ := hq
      have hab := hq.ajo (by omega) hab
      have hfr := hfr.tr (kjR hq)
      have h122 := h122.off ho (by decide)
      have hby := hby.off ho hbw.1
      have hsm : (∀ j, ¬ (14 * 121 ≤ j ∧ j < 14 * 123) → fd2 j = fd j) := fun j hj => (ho j (by omega)).trans (hsm j hj)
      rw [nqs_sq] at hnfd2
      refine lv_aload_n hx hb d_Model_raise_33 rfl (lv_at hl 1 rfl) ?_
      refine lv_iload_n hx hb d_Model_raise_34 rfl (lv_at hl 4 rfl) ?_
      refine lv_iload hx hb d_Model_raise_35 (lv_at hl 0 rfl) ?_
      refine q_cV (rest := []) E (N_Model_bit l g n0 mo b k th pw td wr 0 14 w0_ fd2 hb1 (by omega) E9 hby) w_1093 w_15 w_1090 w_1092 (bw_s 29 rfl) hd_Model_bit rfl ⟨by decide, by decide⟩ (OB.recv E.2.2.2.2.2 (by rfl) hm.1) hm hF hl.1 rfl (Nat.le_of_ble_eq_true rfl) d_Model_raise_37 ⟨by decide, by decide⟩ (qi (fun rb H2 locs hq hF => ?_))
      obtain ⟨hrb, hq⟩ := hq
      have hq := hq.symm
      subst hq
      subst hrb
      refine lv_iconst (v := nI 1) hx hb d_Model_raise_40 (by decide) ?_
      refine lv_icmp_ne (tgt := 54) hx hb d_Model_raise_41 (by decide) (fun hc => ?_) (fun hc => ?_)
      rotate_left
      · skip
        have hc1 : E9 / 2 ^ k % 2 = 1 := (nI_eq (by omega) (by decide)).mp hc
        refine lv_aload_n hx hb d_Model_raise_44 rfl (lv_at hl 1 rfl) ?_
        refine lv_bipush (v := nI 121) hx hb d_Model_raise_45 (by decide) ?_
        refine lv_bipush (v := nI 121) hx hb d_Model_raise_47 (by decide) ?_
        refine lv_bipush (v := nI 122) hx hb d_Model_raise_49 (by decide) ?_
        refine q_cV (rest := []) E (NQ_Model_product l g n0 mo 121 121 122 th pw td wr fd2 (by decide) (by decide) (by decide) fa hAT (X ^ (2 * (E9 / 2 ^ (k + 1))) % QJ) X hm.2.2.2.2.2.1 hnfd2 h122 (qm_r _).2 hXr) w_1113 w_15 w_1110 w_1112 (bw_s 32 rfl) hd_Model_product rfl ⟨by decide, by decide⟩ (OB.recv E.2.2.2.2.2 (by rfl) hm.1) (⟨hm, hab⟩) hF hl.1 rfl (Nat.le_of_ble_eq_true rfl) d_Model_raise_51 ⟨by decide, by decide⟩ (qv (fun H3 locs hq hF => ?_))
        obtain ⟨hq, fd3, hm, ho, hnfd3⟩ := hq
        have hab := hq.ajo (by omega) hab
        have hfr := hfr.tr (kjR hq)
        have h122 := h122.off ho (by decide)
        have hby := hby.off ho hbw.1
        have hsm : (∀ j, ¬ (14 * 121 ≤ j ∧ j < 14 * 123) → fd3 j = fd j) := fun j hj => (ho j (by omega)).trans (hsm j hj)
        rw [nqs_mu, ← pw_odd hc1] at hnfd3
        refine lv_iinc (k := 0) (v := nI k - 1) (lv' := [(4, .int (nI k - 1)), (0, .ref mo), (1, .int (nI r)), (2, .int (nI a)), (3, .int (nI b))]) hx hb d_Model_raise_54 hl rfl (i_dec _) (by decide) rfl (fun ls hl => ?_)
        refine lv_goto (tgt := 18) hx hb d_Model_raise_57 (by decide) ?_
        have hl : lv_has ls 5 [(4, .int (nI k - 1)), (0, .ref mo), (1, .int (nI r)), (2, .int (nI a)), (3, .int (nI b))] := lv_sub hl [0, 1, 2, 3, 4] rfl
        exact ih _ _ ls _ fd3 (by omega) rfl hfr hm hab hnfd3 h122 hby hsm hF hl
      have hc0 : E9 / 2 ^ k % 2 ≠ 1 := fun e => hc (by rw [e])
      rw [← pw_even hc0] at hnfd2
      refine lv_iinc (k := 0) (v := nI k - 1) (lv' := [(4, .int (nI k - 1)), (0, .ref mo), (1, .int (nI r)), (2, .int (nI a)), (3, .int (nI b))]) hx hb d_Model_raise_54 hl rfl (i_dec _) (by decide) rfl (fun ls hl => ?_)
      refine lv_goto (tgt := 18) hx hb d_Model_raise_57 (by decide) ?_
      have hl : lv_has ls 5 [(4, .int (nI k - 1)), (0, .ref mo), (1, .int (nI r)), (2, .int (nI a)), (3, .int (nI b))] := lv_sub hl [0, 1, 2, 3, 4] rfl
      exact ih _ _ ls _ fd2 (by omega) rfl hfr hm hab hnfd2 h122 hby hsm hF hl
  refine lv_aload_n hx hb d_Model_raise_0 rfl (lv_at hl 0 rfl) ?_
  refine lv_bipush (v := nI 122) hx hb d_Model_raise_1 (by decide) ?_
  refine lv_iload_n hx hb d_Model_raise_3 rfl (lv_at hl 2 rfl) ?_
  refine q_cV (rest := []) E (c_Model_move l g n0 mo 122 a th pw td wr 0 14 w0_ fd (by omega) (by omega)) w_1076 w_15 w_1073 w_1075 (bw_s 27 rfl) hd_Model_move rfl ⟨by decide, by decide⟩ (OB.recv E.2.2.2.2.2 (by rfl) hm.1) hm hF hl.1 rfl (Nat.le_of_ble_eq_true rfl) d_Model_raise_4 ⟨by decide, by decide⟩ (qv (fun H1 locs hq hF => ?_))
  obtain ⟨hq, fd1, hm, hpwfd1⟩ := hq
  have hab := AJ.off hq (by unfold MR; omega) hab
  have hfr := hfr.tr hq
  have h122 : NV fd1 122 X := (VL_ext (fun k hk => hpwfd1.2 k hk)).trans hX
  refine lv_aload_n hx hb d_Model_raise_7 rfl (lv_at hl 0 rfl) ?_
  refine lv_bipush (v := nI 121) hx hb d_Model_raise_8 (by decide) ?_
  refine q_cV (rest := []) E (c_Model_one l g n0 mo 121 th pw td wr 0 14 w0_ fd1 (by decide)) w_971 w_15 w_968 w_970 (bw_s 16 rfl) hd_Model_one rfl ⟨by decide, by decide⟩ (OB.recv E.2.2.2.2.2 (by rfl) hm.1) hm hF hl.1 rfl (Nat.le_of_ble_eq_true rfl) d_Model_raise_10 ⟨by decide, by decide⟩ (qv (fun H2 locs hq hF => ?_))
  obtain ⟨hq, fd2, hm, hpwfd2⟩ := hq
  have hab := AJ.off hq (by unfold MR; omega) hab
  have hfr := hfr.tr hq
  have h122 := h122.off hpwfd2.1 (by decide)
  have hby := (hE.off hpwfd1.1 hbw.2).off hpwfd2.1 hbw.1
  have hE0 : E9 / 2 ^ 392 = 0 := by
    have r := VL_range (f := fun k => fd (14 * b + k)) (n := 14) (fun k hk => hDDf _ (by omega))
    rw [show VL (fun k => fd (14 * b + k)) 14 = (E9 : Int) from hE, show (268435456 : Int) ^ 14 = ((2 ^ 392 : Nat) : Int) by decide +kernel] at r
    exact Nat.div_eq_of_lt (Int.ofNat_lt.mp r.2)
  have h121 : NV fd2 121 (X ^ (E9 / 2 ^ 392) % QJ) := by
    rw [hE0, Int.pow_zero, show (1 : Int) % QJ = 1 by decide +kernel]
    exact (VL_ext (fun k hk => hpwfd2.2 k hk)).trans one_14
  have hsm : (∀ j, ¬ (14 * 121 ≤ j ∧ j < 14 * 123) → fd2 j = fd j) := fun j hj => (hpwfd2.1 j (by omega)).trans (hpwfd1.1 j (by omega))
  refine lv_sipush (v := nI 391) hx hb d_Model_raise_13 (by decide) ?_
  refine lv_istore (lv' := [(4, .int (nI 391)), (0, .ref mo), (1, .int (nI r)), (2, .int (nI a)), (3, .int (nI b))]) hx hb d_Model_raise_16 hl (by decide) rfl (fun ls hl => ?_)
  have hl : lv_has ls 5 [(4, .int (nI 391)), (0, .ref mo), (1, .int (nI r)), (2, .int (nI a)), (3, .int (nI b))] := lv_sub hl [0, 1, 2, 3, 4] rfl
  exact loop 392 _ _ ls _ fd2 (by decide) (by decide) hfr hm hab h121 h122 hby hsm hF hl
theorem paq_bd {f : Nat → Int64} {q : Int64} {k : Nat} (hq : -4294967296 ≤ q.toInt ∧ q.toInt ≤ 4294967296) (h : (f k).toInt = if k < 14 then (kP 0 k).toInt + (if k = 0 then q.toInt else 0) else 0) : -4611686018427387904 ≤ (f k).toInt ∧ (f k).toInt ≤ 4611686018427387904 := by
  rw [h]
  split
  · have d := kQ_dg k (by assumption)
    unfold dg at d
    have d : 0 ≤ (kP 0 k).toInt ∧ (kP 0 k).toInt < 268435456 := d
    split <;> omega
  · omega
theorem VL_paq {f : Nat → Int64} {q : Int} {n : Nat} (h : ∀ k, k < n + 1 → (f k).toInt = (kP 0 k).toInt + (if k = 0 then q else 0)) : VL f (n + 1) = VL (kP 0) (n + 1) + q := by
  induction n with
  | zero =>
    show (0 : Int) + (f 0).toInt * 268435456 ^ 0 = 0 + (kP 0 0).toInt * 268435456 ^ 0 + q
    rw [h 0 (by decide), if_pos rfl, show (268435456 : Int) ^ 0 = 1 from rfl]
    omega
  | succ n ih =>
    show VL f (n + 1) + (f (n + 1)).toInt * 268435456 ^ (n + 1) = VL (kP 0) (n + 1) + (kP 0 (n + 1)).toInt * 268435456 ^ (n + 1) + q
    rw [ih (fun k hk => h k (by omega)), h (n + 1) (by omega), if_neg (Nat.succ_ne_zero n), Int.add_zero]
    omega
set_option maxHeartbeats 4000000 in
set_option maxRecDepth 100000 in
theorem NQ_Model_primeAnd (l : Launch) (g : WG) (n0 : Nat → Prop) (mo r : Nat) (qz : Int64) (th pw td wr : Int32) (fd : Nat → Int64) (hr1 : r < 170) (hqz : -4 ≤ qz.toInt ∧ qz.toInt ≤ 4) : Ctr l y_Model_primeAnd (.code y_Model_primeAnd prog_11_method_20_code 5 none) 1 24 0 0 n0 g [.ref mo, .int (nI r), .long qz] (fun H => MS g n0 H mo th pw td wr 0 14 fd) (QV (fun H H' => FRM (MR mo) H H' ∧ ∃ fd', MS g n0 H' mo th pw td wr 0 14 fd' ∧ (∀ j, (j < 14 * r ∨ 14 * r + 14 ≤ j) → fd' j = fd j) ∧ NV fd' r (QJ + qz.toInt))) := by
  refine ctr_mk l (lv0 := [(0, .ref mo), (1, .int (nI r)), (2, .long qz)]) (by decide) (Nat.le_of_ble_eq_true rfl) rfl ?_
  intro p e s m below meth c ls E hr hlk hnm hl hP
  have hx := E.1
  have hb := E.2.1
  have hK := E.2.2.2.2.2
  have hF : ∀ q ∈ ([] : List Loc), n0 q.base := fun q hq => absurd hq List.not_mem_nil
  obtain ⟨hmo, hpr, ⟨fa, hab, had⟩, ⟨fc, hac⟩, hfd, hDD, hn01, hn05⟩ := id hP
  have hpd : ∀ k, k < 14 → dg (kP 0 k) := kQ_dg
  have cp : ∀ (k : Nat) (i : Nat) (H : Heap) (locs : List Loc) (ls : Array Slot) (f1 fd1 : Nat → Int64), i + k = 14 → KJ g (fun q => q = mo + 1 ∨ q = mo + 5) s.heap H → AJ g H (mo + 5) 32 f1 → (∀ k, k < 14 → dg (f1 k)) → VL f1 14 = QJ + qz.toInt → AJ g H (mo + 1) 2380 fd1 → DD fd1 → (∀ j, (j < 14 * r ∨ 14 * r + 14 ≤ j) → fd1 j = fd j) → (∀ k, k < i → fd1 (14 * r + k) = f1 k) → (∀ q ∈ locs, n0 q.base) → lv_has ls 5 [(4, .int (nI i)), (0, .ref mo), (1, .int (nI r))] → W p l e { frames := 1, cells := 0, slots := 0, locals := 24 } s m [.ref mo, .int (nI r), .long qz].toArray below meth c H locs 0 0 (MQ below (QcP (QV (fun H H' => FRM (MR mo) H H' ∧ ∃ fd', MS g n0 H' mo th pw td wr 0 14 fd' ∧ (∀ j, (j < 14 * r ∨ 14 * r + 14 ≤ j) → fd' j = fd j) ∧ NV fd' r (QJ + qz.toInt)))) [.ref mo, .int (nI r), .long qz].toArray s 0 0 (fun q => n0 q)) (F0 m 69 ls []) := by
    intro k
    induction k with
    | zero =>
      intro  i   H   locs   ls   f1 fd1 hi hk hf hdf hvl hfd hD1 hout hcp hF hl
      obtain rfl : i = 14 := by omega
      refine lv_iload hx hb d_Model_primeAnd_69 (lv_at hl 0 rfl) ?_
      refine lv_bipush (v := nI 14) hx hb d_Model_primeAnd_71 (by decide) ?_
      refine lv_icmp_ge (tgt := 101) hx hb d_Model_primeAnd_73 (by decide) (fun _ => ?_) (fun h9 => absurd (by decide) h9)
      exact q_vret E hr hlk (⟨rfl, kjR hk, fd1, hP.step hK hk hfd hD1, hout, (VL_ext (fun k hk => hcp k hk)).trans hvl⟩) hF d_Model_primeAnd_101
    | succ k ih =>
      intro  i   H   locs   ls   f1 fd1 hi hk hf hdf hvl hfd hD1 hout hcp hF hl
      refine lv_iload hx hb d_Model_primeAnd_69 (lv_at hl 0 rfl) ?_
      refine lv_bipush (v := nI 14) hx hb d_Model_primeAnd_71 (by decide) ?_
      refine lv_icmp_ge (tgt := 101) hx hb d_Model_primeAnd_73 (by decide) (fun h9 => absurd h9 (nI_ge (by omega) (by decide))) (fun _ => ?_)
      refine lv_aload_n hx hb d_Model_primeAnd_76 rfl (lv_at hl 1 rfl) ?_
      refine q_get (C := "KateDeskModel") (T := T_Model) (N := 14) (ci := 8) E (hk.ob hK hmo) in_Model rfl 1 (by decide) w_1002 rfl rfl d_Model_primeAnd_77 ?_
      refine lv_bipush (v := nI 14) hx hb d_Model_primeAnd_80 (by decide) ?_
      refine lv_iload_n hx hb d_Model_primeAnd_82 rfl (lv_at hl 2 rfl) ?_
      refine lv_imul hx hb d_Model_primeAnd_83 ?_
      refine lv_topi (fun t9 e9 => ?_)
      obtain rfl : t9 = nI (14 * r) := e9.trans (pk_mul _ _)
      refine lv_iload hx hb d_Model_primeAnd_84 (lv_at hl 0 rfl) ?_
      refine lv_iadd hx hb d_Model_primeAnd_86 ?_
      refine lv_topi (fun t9 e9 => ?_)
      obtain rfl : t9 = nI (14 * r + i) := e9.trans (nI_add _ _)
      refine lv_aload_n hx hb d_Model_primeAnd_87 rfl (lv_at hl 1 rfl) ?_
      refine q_get (C := "KateDeskModel") (T := T_Model) (N := 14) (ci := 8) E (hk.ob hK hmo) in_Model rfl 5 (by decide) w_1006 rfl rfl d_Model_primeAnd_88 ?_
      refine lv_iload hx hb d_Model_primeAnd_91 (lv_at hl 0 rfl) ?_
      refine q_lald (N := 32) (f := f1) E hf i rfl (by omega) (by decide) d_Model_primeAnd_93 ?_
      refine q_last E hfd hn01 hF (14 * r + i) rfl (by omega) (by decide) d_Model_primeAnd_94 (fun H1 locs hq hfd2 hF => ?_)
      have hk := hk.tr (hq.mono (fun q h => Or.inl h))
      have hf := hq.ajo (by omega) hf
      refine lv_iinc (k := 0) (v := nI (i + 1)) (lv' := [(4, .int (nI (i + 1))), (0, .ref mo), (1, .int (nI r))]) hx hb d_Model_primeAnd_95 hl rfl (i_inc i) (by decide) rfl (fun ls hl => ?_)
      refine lv_goto (tgt := 69) hx hb d_Model_primeAnd_98 (by decide) ?_
      have hl : lv_has ls 5 [(4, .int (nI (i + 1))), (0, .ref mo), (1, .int (nI r))] := lv_sub hl [0, 1, 2] rfl
      exact ih (i + 1) H1 _ ls _ _ (by omega) hk hf hdf hvl hfd2 (hD1.upd (hdf i (by omega))) (fun j hj => by rw [pk_uLn (by omega)]; exact hout j hj) (fun k hk1 => by by_cases e : k = i; (subst e; rw [pk_uLs]); (rw [pk_uLn (by omega)]; exact hcp k (by omega))) hF hl
  have loop : ∀ (k : Nat) (i : Nat) (H : Heap) (locs : List Loc) (ls : Array Slot) (f1 : Nat → Int64), i + k = 15 → KJ g (fun q => q = mo + 5) s.heap H → AJ g H (mo + 5) 32 f1 → (∀ k, k < i → (f1 k).toInt = if k < 14 then (kP 0 k).toInt + (if k = 0 then qz.toInt else 0) else 0) → (∀ q ∈ locs, n0 q.base) → lv_has ls 5 [(4, .int (nI i)), (0, .ref mo), (1, .int (nI r)), (2, .long qz)] → W p l e { frames := 1, cells := 0, slots := 0, locals := 24 } s m [.ref mo, .int (nI r), .long qz].toArray below meth c H locs 0 0 (MQ below (QcP (QV (fun H H' => FRM (MR mo) H H' ∧ ∃ fd', MS g n0 H' mo th pw td wr 0 14 fd' ∧ (∀ j, (j < 14 * r ∨ 14 * r + 14 ≤ j) → fd' j = fd j) ∧ NV fd' r (QJ + qz.toInt)))) [.ref mo, .int (nI r), .long qz].toArray s 0 0 (fun q => n0 q)) (F0 m 3 ls []) := by
    intro k
    induction k with
    | zero =>
      intro  i   H   locs   ls   f1 hi hk5 hf hlow hF hl
      obtain rfl : i = 15 := by omega
      refine lv_iload hx hb d_Model_primeAnd_3 (lv_at hl 0 rfl) ?_
      refine lv_bipush (v := nI 14) hx hb d_Model_primeAnd_5 (by decide) ?_
      refine lv_icmp_gt (tgt := 60) hx hb d_Model_primeAnd_7 (by decide) (fun _ => ?_) (fun h9 => absurd (by decide) h9)
      refine lv_aload_n hx hb d_Model_primeAnd_60 rfl (lv_at hl 1 rfl) ?_
      refine lv_bipush (v := nI 14) hx hb d_Model_primeAnd_61 (by decide) ?_
      refine q_cV (rest := []) E (c_Model_carries l g n0 mo 14 th (nI 0) (nI 14) pw td wr f1 (by decide) (fun k hk1 => paq_bd ⟨by omega, by omega⟩ (hlow k (by omega)))) w_983 w_15 w_980 w_982 (bw_s 19 rfl) hd_Model_carries rfl ⟨by decide, by decide⟩ (OB.recv E.2.2.2.2.2 (by rfl) (hk5.ob hK hmo)) (⟨hk5.ob hK hmo, hf, hn05⟩) hF hl.1 rfl (Nat.le_of_ble_eq_true rfl) d_Model_primeAnd_63 ⟨by decide, by decide⟩ (qv (fun H1 locs hq hF => ?_))
      obtain ⟨hq, f3, hf3, hd3, hV3, hj3, hb3⟩ := hq
      have hk5 := hk5.tr hq
      have h14 : (f1 14).toInt = 0 := hlow 14 (by decide)
      rw [h14, Int.zero_mul, Int.add_zero, VL_paq (f := f1) (n := 13) (q := qz.toInt) (fun k hk => by rw [hlow k (by omega), if_pos hk]), kQ_rv.2] at hV3
      have hrr : 4 < QJ ∧ QJ + 4 < 268435456 ^ 14 := by decide +kernel
      have hc := carry0 (pw_pos 14) (VL_range hd3) ⟨by omega, by omega⟩ hV3
      refine lv_iconst (v := nI 0) hx hb d_Model_primeAnd_66 (by decide) ?_
      refine lv_istore (lv' := [(4, .int (nI 0)), (0, .ref mo), (1, .int (nI r)), (2, .long qz)]) hx hb d_Model_primeAnd_67 hl (by decide) rfl (fun ls hl => ?_)
      have hl : lv_has ls 5 [(4, .int (nI 0)), (0, .ref mo), (1, .int (nI r))] := lv_sub hl [0, 1, 2] rfl
      exact cp 14 0 _ _ ls f3 fd (by omega) (hk5.mono (fun q h => Or.inr h)) hf3 hd3 hc.2 (hk5.ajo (by omega) hfd) hDD (fun _ _ => rfl) (fun k hk => absurd hk (Nat.not_lt_zero _)) hF hl
    | succ k ih =>
      intro  i   H   locs   ls   f1 hi hk5 hf hlow hF hl
      refine lv_iload hx hb d_Model_primeAnd_3 (lv_at hl 0 rfl) ?_
      refine lv_bipush (v := nI 14) hx hb d_Model_primeAnd_5 (by decide) ?_
      refine lv_icmp_gt (tgt := 60) hx hb d_Model_primeAnd_7 (by decide) (fun h9 => absurd h9 (nI_nlt (by omega) (by decide))) (fun _ => ?_)
      refine lv_aload_n hx hb d_Model_primeAnd_10 rfl (lv_at hl 1 rfl) ?_
      refine q_get (C := "KateDeskModel") (T := T_Model) (N := 14) (ci := 8) E (hk5.ob hK hmo) in_Model rfl 5 (by decide) w_1006 rfl rfl d_Model_primeAnd_11 ?_
      refine lv_iload hx hb d_Model_primeAnd_14 (lv_at hl 0 rfl) ?_
      refine lv_iload hx hb d_Model_primeAnd_16 (lv_at hl 0 rfl) ?_
      refine lv_bipush (v := nI 14) hx hb d_Model_primeAnd_18 (by decide) ?_
      refine lv_icmp_ge (tgt := 52) hx hb d_Model_primeAnd_20 (by decide) (fun hin => ?_) (fun hin => ?_)
      rotate_left
      · skip
        have hin : i < 14 := Nat.lt_of_not_le (fun q => hin (nI_le q (by omega)))
        have h1 := hpd i hin
        unfold dg at h1
        refine lv_aload_n hx hb d_Model_primeAnd_23 rfl (lv_at hl 1 rfl) ?_
        refine q_get (C := "KateDeskModel") (T := T_Model) (N := 14) (ci := 8) E (hk5.ob hK hmo) in_Model rfl 2 (by decide) w_1003 rfl rfl d_Model_primeAnd_24 ?_
        refine lv_bipush (v := nI 14) hx hb d_Model_primeAnd_27 (by decide) ?_
        refine lv_aload_n hx hb d_Model_primeAnd_29 rfl (lv_at hl 1 rfl) ?_
        refine q_get (C := "KateDeskModel") (T := T_Model) (N := 14) (ci := 8) E (hk5.ob hK hmo) in_Model rfl 6 (by decide) w_1007 rfl rfl d_Model_primeAnd_30 ?_
        refine lv_imul hx hb d_Model_primeAnd_33 ?_
        refine lv_iload hx hb d_Model_primeAnd_34 (lv_at hl 0 rfl) ?_
        refine lv_iadd hx hb d_Model_primeAnd_36 ?_
        have hpi : (nI 14) * (nI 0) + nI i = nI (14 * 0 + i) := by rw [pk_mul, nI_add]
        refine q_lald (N := 28) (f := kPr) E (hk5.ajo (by omega) hpr) (14 * 0 + i) hpi (by omega) (by decide) d_Model_primeAnd_37 ?_
        refine lv_iload hx hb d_Model_primeAnd_38 (lv_at hl 0 rfl) ?_
        refine lv_if_ne (tgt := 47) hx hb d_Model_primeAnd_40 (by decide) (fun h0 => ?_) (fun h0 => ?_)
        rotate_left
        · skip
          have h0 : i = 0 := nI_z0 (by omega) h0
          refine lv_lload_n hx hb d_Model_primeAnd_43 rfl (lv_at hl 3 rfl) ?_
          refine lv_goto (tgt := 48) hx hb d_Model_primeAnd_44 (by decide) ?_
          refine lv_ladd hx hb d_Model_primeAnd_48 ?_
          refine lv_goto (tgt := 53) hx hb d_Model_primeAnd_49 (by decide) ?_
          refine lv_topl (fun t et => ?_)
          have hbt : t.toInt = if i < 14 then (kP 0 i).toInt + (if i = 0 then qz.toInt else 0) else 0 := by rw [if_pos hin, if_pos h0, show t = kP 0 i + qz from et]; exact i64_add (by omega) (by omega)
          refine q_last E hf hn05 hF i rfl (by omega) (by decide) d_Model_primeAnd_53 (fun H1 locs hq hf2 hF => ?_)
          have hk5 := hk5.tr hq
          refine lv_iinc (k := 0) (v := nI (i + 1)) (lv' := [(4, .int (nI (i + 1))), (0, .ref mo), (1, .int (nI r)), (2, .long qz)]) hx hb d_Model_primeAnd_54 hl rfl (i_inc i) (by decide) rfl (fun ls hl => ?_)
          refine lv_goto (tgt := 3) hx hb d_Model_primeAnd_57 (by decide) ?_
          have hl : lv_has ls 5 [(4, .int (nI (i + 1))), (0, .ref mo), (1, .int (nI r)), (2, .long qz)] := lv_sub hl [0, 1, 2, 3] rfl
          exact ih (i + 1) H1 _ ls _ (by omega) hk5 hf2 (fun k hk1 => by by_cases e : k = i; (subst e; rw [pk_uLs]; exact hbt); (rw [pk_uLn e]; exact hlow k (by omega))) hF hl
        have h0 : i ≠ 0 := fun e => h0 (by rw [e]; decide)
        refine lv_lconst (v := 0) hx hb d_Model_primeAnd_47 (by decide) ?_
        refine lv_ladd hx hb d_Model_primeAnd_48 ?_
        refine lv_goto (tgt := 53) hx hb d_Model_primeAnd_49 (by decide) ?_
        refine lv_topl (fun t et => ?_)
        have hbt : t.toInt = if i < 14 then (kP 0 i).toInt + (if i = 0 then qz.toInt else 0) else 0 := by rw [if_pos hin, if_neg h0, show t = kP 0 i + 0 from et]; exact i64_add (by rw [show (0 : Int64).toInt = 0 by decide]; omega) (by rw [show (0 : Int64).toInt = 0 by decide]; omega)
        refine q_last E hf hn05 hF i rfl (by omega) (by decide) d_Model_primeAnd_53 (fun H1 locs hq hf2 hF => ?_)
        have hk5 := hk5.tr hq
        refine lv_iinc (k := 0) (v := nI (i + 1)) (lv' := [(4, .int (nI (i + 1))), (0, .ref mo), (1, .int (nI r)), (2, .long qz)]) hx hb d_Model_primeAnd_54 hl rfl (i_inc i) (by decide) rfl (fun ls hl => ?_)
        refine lv_goto (tgt := 3) hx hb d_Model_primeAnd_57 (by decide) ?_
        have hl : lv_has ls 5 [(4, .int (nI (i + 1))), (0, .ref mo), (1, .int (nI r)), (2, .long qz)] := lv_sub hl [0, 1, 2, 3] rfl
        exact ih (i + 1) H1 _ ls _ (by omega) hk5 hf2 (fun k hk1 => by by_cases e : k = i; (subst e; rw [pk_uLs]; exact hbt); (rw [pk_uLn e]; exact hlow k (by omega))) hF hl
      have hin : ¬ i < 14 := by have := (nI_leI (by decide) (by omega)).mp hin; omega
      refine lv_lconst (v := 0) hx hb d_Model_primeAnd_52 (by decide) ?_
      refine lv_topl (fun t et => ?_)
      have hbt : t.toInt = if i < 14 then (kP 0 i).toInt + (if i = 0 then qz.toInt else 0) else 0 := by rw [if_neg hin, et]; decide
      refine q_last E hf hn05 hF i rfl (by omega) (by decide) d_Model_primeAnd_53 (fun H1 locs hq hf2 hF => ?_)
      have hk5 := hk5.tr hq
      refine lv_iinc (k := 0) (v := nI (i + 1)) (lv' := [(4, .int (nI (i + 1))), (0, .ref mo), (1, .int (nI r)), (2, .long qz)]) hx hb d_Model_primeAnd_54 hl rfl (i_inc i) (by decide) rfl (fun ls hl => ?_)
      refine lv_goto (tgt := 3) hx hb d_Model_primeAnd_57 (by decide) ?_
      have hl : lv_has ls 5 [(4, .int (nI (i + 1))), (0, .ref mo), (1, .int (nI r)), (2, .long qz)] := lv_sub hl [0, 1, 2, 3] rfl
      exact ih (i + 1) H1 _ ls _ (by omega) hk5 hf2 (fun k hk1 => by by_cases e : k = i; (subst e; rw [pk_uLs]; exact hbt); (rw [pk_uLn e]; exact hlow k (by omega))) hF hl
  refine lv_iconst (v := nI 0) hx hb d_Model_primeAnd_0 (by decide) ?_
  refine lv_istore (lv' := [(4, .int (nI 0)), (0, .ref mo), (1, .int (nI r)), (2, .long qz)]) hx hb d_Model_primeAnd_1 hl (by decide) rfl (fun ls hl => ?_)
  have hl : lv_has ls 5 [(4, .int (nI 0)), (0, .ref mo), (1, .int (nI r)), (2, .long qz)] := lv_sub hl [0, 1, 2, 3] rfl
  exact loop 15 0 s.heap [] ls fc (by omega) KJ.rf hac (fun k hk1 => absurd hk1 (Nat.not_lt_zero _)) hF hl
