/-! the class's field of Q with values -/
abbrev kQ : Nat → Int64 := kP 0
theorem kQ_dg : ∀ k, k < 14 → dg (kQ k) := fun k hk => kPr_dg _ (by omega)
def WQ : Int := 841507118384846930603904782286659577068546992854475957976608454345014266374498126479335845418930671003198667881656
def W2Q : Int := 1931922363556174173776056784706057198959151296490605225209763994924372958564090416341612281307543130498297881653485
def WIQ : Int := 2514128865546716520952785953976253554081406324674822213899145074122859742170541280619393841074214235878037313279475

theorem QJ_2 : 2 * QJ < 268435456 ^ 14 := by decide +kernel
theorem kQ_rv : RV kQ QJ := ⟨kQ_dg, by decide +kernel⟩
theorem kQ_mi : ((kQ 0).toInt * (268238845 : Int64).toInt + 1) % 268435456 = 0 := by decide +kernel
theorem qw_inv : (268435456 ^ 14 * WIQ) % QJ = 1 := by decide +kernel
theorem qw_one : (WQ * WIQ) % QJ = 1 := by decide +kernel
theorem qw_two : (W2Q * WIQ) % QJ = WQ := by decide +kernel
theorem WQ_r : 0 ≤ WQ ∧ WQ < QJ := by decide
theorem W2Q_r : 0 ≤ W2Q ∧ W2Q < QJ := by decide
theorem qm_r (x : Int) : 0 ≤ x % QJ ∧ x % QJ < QJ := ⟨Int.emod_nonneg _ (Int.ne_of_gt QJ_pos), Int.emod_lt_of_pos _ QJ_pos⟩
theorem qmont_v {v x y M : Int} (h0 : 0 ≤ v) (h1 : v < QJ) (h : 268435456 ^ 14 * v = x * y + M * QJ) : v = (x * y * WIQ) % QJ := by
  have hc := Int.emod_add_mul_ediv (268435456 ^ 14 * WIQ) QJ
  rw [qw_inv] at hc
  generalize (268435456 ^ 14 * WIQ) / QJ = c at *
  have e : x * y * WIQ = v + QJ * (c * v - M * WIQ) := by
    have h2 : x * y = 268435456 ^ 14 * v - M * QJ := by omega
    rw [h2]
    generalize (268435456 : Int) ^ 14 = b at *
    generalize WIQ = w at *
    generalize QJ = r at *
    grind
  rw [e, Int.add_mul_emod_self_left, Int.emod_eq_of_lt h0 h1]
theorem qmm_r (a b c : Int) : ((a % QJ) * (b % QJ) * c) % QJ = (a * b * c) % QJ := by
  rw [Int.mul_emod, ← Int.mul_emod a b, ← Int.mul_emod]
theorem qww_r (a : Int) : (a * (WQ * WIQ)) % QJ = a % QJ := by
  rw [Int.mul_emod, qw_one, Int.mul_one, Int.emod_emod_of_dvd _ (Int.dvd_refl _)]
theorem qrs_sq (X : Int) (e : Nat) : (((X ^ e * WQ) % QJ) * ((X ^ e * WQ) % QJ) * WIQ) % QJ = (X ^ (2 * e) * WQ) % QJ := by
  rw [qmm_r, ← qww_r (X ^ (2 * e) * WQ)]
  congr 1
  rw [Nat.two_mul, Int.pow_add]
  generalize X ^ e = p
  grind
theorem qrs_mu (X : Int) (e : Nat) : (((X ^ e * WQ) % QJ) * ((X * WQ) % QJ) * WIQ) % QJ = (X ^ (e + 1) * WQ) % QJ := by
  rw [qmm_r, ← qww_r (X ^ (e + 1) * WQ)]
  congr 1
  rw [Int.pow_succ]
  generalize X ^ e = p
  grind
theorem Q_Field_multiply (l : Launch) (g : WG) (n0 : Nat → Prop) (o t a b : Nat) (F : Nat → Nat) (mi : Int64) (fa fb : Nat → Int64) (x y : Int) (hfa : RV fa x) (hfb : RV fb y) (hxQ : x < QJ) (hyQ : y < QJ) (htm : F 0 ≠ t) (hmi : mi = 268238845) : Ctr l y_Field_multiply (.code y_Field_multiply prog_3_method_8_code 92 none) 1 24 0 0 n0 g [.ref o, .ref t, .ref a, .ref b] (fun H => FD g n0 H o F mi ∧ (n0 t ∧ ∃ ft, AJ g H t 14 ft) ∧ AJ g H a 14 fa ∧ AJ g H b 14 fb ∧ AJ g H (F 0) 14 kQ) (QV (fun H H' => KJ g (fun q => q = t) H H' ∧ ∃ f', AJ g H' t 14 f' ∧ RV f' ((x * y * WIQ) % QJ))) :=
  (V_Field_multiply l g n0 o t a b F mi fa fb kQ x y QJ hfa hfb kQ_rv hxQ hyQ htm (by rw [hmi]; exact kQ_mi) QJ_2).imp (fun _ h => h) (fun v H H' h _ => ⟨h.1, by
    obtain ⟨hk, f', v, M, hA, hv, h0, hlt, he⟩ := h.2
    exact ⟨hk, f', hA, hv.1, hv.2.trans (qmont_v h0 hlt he)⟩⟩)
set_option maxHeartbeats 4000000 in
set_option maxRecDepth 100000 in
theorem Q_Field_lift (l : Launch) (g : WG) (n0 : Nat → Prop) (o t a : Nat) (F : Nat → Nat) (mi : Int64) (fa : Nat → Int64) (x : Int) (hfa : RV fa x) (hxQ : x < QJ) (htm : F 0 ≠ t) (hmi : mi = 268238845) : Ctr l y_Field_lift (.code y_Field_lift prog_3_method_9_code 3 none) 2 135 0 0 n0 g [.ref o, .ref t, .ref a] (fun H => FD g n0 H o F mi ∧ (n0 t ∧ ∃ ft, AJ g H t 14 ft) ∧ AJ g H a 14 fa ∧ AJ g H (F 0) 14 kQ ∧ ∃ fk, AJ g H (F 3) 14 fk ∧ RV fk W2Q) (QV (fun H H' => KJ g (fun q => q = t) H H' ∧ ∃ f', AJ g H' t 14 f' ∧ RV f' ((x * WQ) % QJ))) := by
  refine ctr_mk l (lv0 := [(0, .ref o), (1, .ref t), (2, .ref a)]) (by decide) (Nat.le_of_ble_eq_true rfl) rfl ?_
  intro p e s m below meth c ls E hr hlk hnm hl hP
  have hx := E.1
  have hb := E.2.1
  have hK := E.2.2.2.2.2
  have hF : ∀ q ∈ ([] : List Loc), n0 q.base := fun q hq => absurd hq List.not_mem_nil
  obtain ⟨hfd, hnt, hA, hM, fk, hfk, hvk⟩ := hP
  have hk : KJ g (fun q => q = t) s.heap s.heap := KJ.rf
  refine lv_aload_n hx hb d_Field_lift_0 rfl (lv_at hl 0 rfl) ?_
  refine lv_aload_n hx hb d_Field_lift_1 rfl (lv_at hl 1 rfl) ?_
  refine lv_aload_n hx hb d_Field_lift_2 rfl (lv_at hl 2 rfl) ?_
  refine lv_aload_n hx hb d_Field_lift_3 rfl (lv_at hl 0 rfl) ?_
  refine q_get (C := "KateDesk$Field") (T := T_Field) (N := 7) (ci := 1) E hfd.1 in_Field rfl 3 (by decide) w_179 rfl rfl d_Field_lift_4 ?_
  refine q_cV (rest := []) E (Q_Field_multiply l g n0 o t a (F 3) F mi fa fk x W2Q hfa hvk hxQ W2Q_r.2 htm hmi) w_165 w_4 w_162 w_163 w_164 hd_Field_multiply rfl ⟨by decide, by decide⟩ (OB.recv E.2.2.2.2.2 (by rfl) ((hk.fd hK hfd).1)) (⟨hfd, hnt, hA, hfk, hM⟩) hF hl.1 rfl (Nat.le_of_ble_eq_true rfl) d_Field_lift_7 ⟨by decide, by decide⟩ (qv (fun H1 locs hq hF => ?_))
  obtain ⟨hq, f9, hf9, hv9⟩ := hq
  have e9 : (x * W2Q * WIQ) % QJ = (x * WQ) % QJ := by rw [Int.mul_assoc, Int.mul_emod, qw_two, Int.mul_emod x WQ, Int.emod_eq_of_lt WQ_r.1 WQ_r.2]
  rw [e9] at hv9
  exact q_vret E hr hlk (⟨rfl, hq, f9, hf9, hv9⟩) hF d_Field_lift_10
set_option maxHeartbeats 4000000 in
set_option maxRecDepth 100000 in
theorem Q_Field_lower (l : Launch) (g : WG) (n0 : Nat → Prop) (o t a : Nat) (F : Nat → Nat) (mi : Int64) (fa : Nat → Int64) (x : Int) (hfa : RV fa x) (hxQ : x < QJ) (htm : F 0 ≠ t) (hmi : mi = 268238845) : Ctr l y_Field_lower (.code y_Field_lower prog_3_method_10_code 3 none) 2 135 0 0 n0 g [.ref o, .ref t, .ref a] (fun H => FD g n0 H o F mi ∧ (n0 t ∧ ∃ ft, AJ g H t 14 ft) ∧ AJ g H a 14 fa ∧ AJ g H (F 0) 14 kQ ∧ ∃ fk, AJ g H (F 2) 14 fk ∧ RV fk 1) (QV (fun H H' => KJ g (fun q => q = t) H H' ∧ ∃ f', AJ g H' t 14 f' ∧ RV f' ((x * WIQ) % QJ))) := by
  refine ctr_mk l (lv0 := [(0, .ref o), (1, .ref t), (2, .ref a)]) (by decide) (Nat.le_of_ble_eq_true rfl) rfl ?_
  intro p e s m below meth c ls E hr hlk hnm hl hP
  have hx := E.1
  have hb := E.2.1
  have hK := E.2.2.2.2.2
  have hF : ∀ q ∈ ([] : List Loc), n0 q.base := fun q hq => absurd hq List.not_mem_nil
  obtain ⟨hfd, hnt, hA, hM, fk, hfk, hvk⟩ := hP
  have hk : KJ g (fun q => q = t) s.heap s.heap := KJ.rf
  refine lv_aload_n hx hb d_Field_lower_0 rfl (lv_at hl 0 rfl) ?_
  refine lv_aload_n hx hb d_Field_lower_1 rfl (lv_at hl 1 rfl) ?_
  refine lv_aload_n hx hb d_Field_lower_2 rfl (lv_at hl 2 rfl) ?_
  refine lv_aload_n hx hb d_Field_lower_3 rfl (lv_at hl 0 rfl) ?_
  refine q_get (C := "KateDesk$Field") (T := T_Field) (N := 7) (ci := 1) E hfd.1 in_Field rfl 2 (by decide) w_178 rfl rfl d_Field_lower_4 ?_
  refine q_cV (rest := []) E (Q_Field_multiply l g n0 o t a (F 2) F mi fa fk x 1 hfa hvk hxQ (by decide) htm hmi) w_165 w_4 w_162 w_163 w_164 hd_Field_multiply rfl ⟨by decide, by decide⟩ (OB.recv E.2.2.2.2.2 (by rfl) ((hk.fd hK hfd).1)) (⟨hfd, hnt, hA, hfk, hM⟩) hF hl.1 rfl (Nat.le_of_ble_eq_true rfl) d_Field_lower_7 ⟨by decide, by decide⟩ (qv (fun H1 locs hq hF => ?_))
  obtain ⟨hq, f9, hf9, hv9⟩ := hq
  rw [Int.mul_one] at hv9
  exact q_vret E hr hlk (⟨rfl, hq, f9, hf9, hv9⟩) hF d_Field_lower_10
set_option maxHeartbeats 4000000 in
set_option maxRecDepth 100000 in
theorem Q_Field_negate (l : Launch) (g : WG) (n0 : Nat → Prop) (o t a : Nat) (F : Nat → Nat) (mi : Int64) (fa : Nat → Int64) (x : Int) (hfa : RV fa x) (hxQ : x < QJ) (htm : F 0 ≠ t) (h05 : F 0 ≠ F 5) (ha5 : a ≠ F 5) : Ctr l y_Field_negate (.code y_Field_negate prog_3_method_6_code 3 none) 2 44 0 0 n0 g [.ref o, .ref t, .ref a] (fun H => FD g n0 H o F mi ∧ (n0 t ∧ ∃ ft, AJ g H t 14 ft) ∧ AJ g H a 14 fa ∧ AJ g H (F 0) 14 kQ) (QV (fun H H' => KJ g (fun q => q = t ∨ q = F 5) H H' ∧ ∃ f', AJ g H' t 14 f' ∧ RV f' (if 0 < x then 0 - x + QJ else 0 - x))) := by
  refine ctr_mk l (lv0 := [(0, .ref o), (1, .ref t), (2, .ref a)]) (by decide) (Nat.le_of_ble_eq_true rfl) rfl ?_
  intro p e s m below meth c ls E hr hlk hnm hl hP
  have hx := E.1
  have hb := E.2.1
  have hK := E.2.2.2.2.2
  have hF : ∀ q ∈ ([] : List Loc), n0 q.base := fun q hq => absurd hq List.not_mem_nil
  obtain ⟨hfd, ⟨hnt, hft⟩, hA, hM⟩ := hP
  refine lv_aload_n hx hb d_Field_negate_0 rfl (lv_at hl 0 rfl) ?_
  refine q_get (C := "KateDesk$Field") (T := T_Field) (N := 7) (ci := 1) E hfd.1 in_Field rfl 5 (by decide) w_181 rfl rfl d_Field_negate_1 ?_
  refine q_cS (rest := []) E (c_Limbs_clear l g n0 (F 5)) w_498 w_5 w_610 w_497 hd_Limbs_clear rfl ⟨by decide, by decide⟩ (hfd.2 5 (by decide)) hF hl.1 rfl (Nat.le_of_ble_eq_true rfl) d_Field_negate_4 ⟨by decide, by decide⟩ (qv (fun H1 locs hq hF => ?_))
  obtain ⟨hk, hz⟩ := hq
  refine lv_aload_n hx hb d_Field_negate_7 rfl (lv_at hl 0 rfl) ?_
  refine lv_aload_n hx hb d_Field_negate_8 rfl (lv_at hl 1 rfl) ?_
  refine lv_aload_n hx hb d_Field_negate_9 rfl (lv_at hl 0 rfl) ?_
  refine q_get (C := "KateDesk$Field") (T := T_Field) (N := 7) (ci := 1) E ((hk.fd hK hfd).1) in_Field rfl 5 (by decide) w_181 rfl rfl d_Field_negate_10 ?_
  refine lv_aload_n hx hb d_Field_negate_13 rfl (lv_at hl 2 rfl) ?_
  refine q_cV (rest := []) E (V_Field_subtract l g n0 o t (F 5) a F mi (fun _ => 0) fa kQ 0 x QJ ⟨fun _ _ => dg_0, VL_z14⟩ hfa kQ_rv QJ_pos hxQ htm) w_169 w_4 w_166 w_167 w_168 hd_Field_subtract rfl ⟨by decide, by decide⟩ (OB.recv E.2.2.2.2.2 (by rfl) ((hk.fd hK hfd).1)) (⟨hk.fd hK hfd, ⟨hnt, hft.elim (fun f h => hk.aj h)⟩, hz, hk.ajo ha5 hA, hk.ajo h05 hM⟩) hF hl.1 rfl (Nat.le_of_ble_eq_true rfl) d_Field_negate_14 ⟨by decide, by decide⟩ (qv (fun H2 locs hq hF => ?_))
  obtain ⟨hq, f9, hf9, hv9⟩ := hq
  exact q_vret E hr hlk (⟨rfl, (hk.mono (fun q h => Or.inr h)).tr (hq.mono (fun q h => Or.inl h)), f9, hf9, hv9⟩) hF d_Field_negate_17
set_option maxHeartbeats 4000000 in
set_option maxRecDepth 100000 in
theorem Q_Field_raise (l : Launch) (g : WG) (n0 : Nat → Prop) (o t a b : Nat) (F : Nat → Nat) (mi : Int64) (fa fb : Nat → Int64) (X : Int) (E9 : Nat) (hfa : RV fa ((X * WQ) % QJ)) (hfb : RV fb (E9 : Int)) (htm : F 0 ≠ t) (h05 : F 0 ≠ F 5) (ht5 : t ≠ F 5) (hbt : b ≠ t) (hb5 : b ≠ F 5) (h1t : F 1 ≠ F 5) (hmi : mi = 268238845) : Ctr l y_Field_raise (.code y_Field_raise prog_3_method_11_code 6 none) 2 135 0 0 n0 g [.ref o, .ref t, .ref a, .ref b] (fun H => FD g n0 H o F mi ∧ (n0 t ∧ ∃ ft, AJ g H t 14 ft) ∧ AJ g H a 14 fa ∧ AJ g H b 14 fb ∧ AJ g H (F 0) 14 kQ ∧ ∃ f1, AJ g H (F 1) 14 f1 ∧ RV f1 WQ) (QV (fun H H' => KJ g (fun q => q = t ∨ q = F 5) H H' ∧ ∃ f', AJ g H' t 14 f' ∧ RV f' ((X ^ E9 * WQ) % QJ))) := by
  refine ctr_mk l (lv0 := [(0, .ref o), (1, .ref t), (2, .ref a), (3, .ref b)]) (by decide) (Nat.le_of_ble_eq_true rfl) rfl ?_
  intro p e s m below meth c ls E hr hlk hnm hl hP
  have hx := E.1
  have hb := E.2.1
  have hK := E.2.2.2.2.2
  have hF : ∀ q ∈ ([] : List Loc), n0 q.base := fun q hq => absurd hq List.not_mem_nil
  obtain ⟨hfd, ⟨hnt, ft0, hft0⟩, hA, hB, hM, f1, hf1, hv1⟩ := hP
  have loop : ∀ (k : Nat) (H : Heap) (locs : List Loc) (ls : Array Slot) (x bg : Int32) (ft : Nat → Int64), k ≤ 392 → x = nI k - 1 → (bg = 0 → E9 / 2 ^ k = 0) → KJ g (fun q => q = t ∨ q = F 5) s.heap H → AJ g H t 14 ft → RV ft ((X ^ (E9 / 2 ^ k) * WQ) % QJ) → AJ g H (F 5) 14 fa → (∀ q ∈ locs, n0 q.base) → lv_has ls 6 [(5, .int x), (4, .int bg), (0, .ref o), (1, .ref t), (2, .ref a), (3, .ref b)] → W p l e { frames := 2, cells := 0, slots := 0, locals := 135 } s m [.ref o, .ref t, .ref a, .ref b].toArray below meth c H locs 0 0 (MQ below (QcP (QV (fun H H' => KJ g (fun q => q = t ∨ q = F 5) H H' ∧ ∃ f', AJ g H' t 14 f' ∧ RV f' ((X ^ E9 * WQ) % QJ)))) [.ref o, .ref t, .ref a, .ref b].toArray s 0 0 (fun q => n0 q)) (F0 m 24 ls []) := by
    intro k
    induction k with
    | zero =>
      intro  H   locs   ls   x bg   ft hk0 hxx hbg hk hft hvt h5 hF hl
      subst hxx
      refine lv_iload hx hb d_Field_raise_24 (lv_at hl 0 rfl) ?_
      refine lv_if_lt (tgt := 72) hx hb d_Field_raise_26 (by decide) (fun _ => ?_) (fun h9 => absurd (by decide) h9)
      rw [show E9 / 2 ^ 0 = E9 from Nat.div_one E9] at hvt
      exact q_vret E hr hlk (⟨rfl, hk, _, hft, hvt⟩) hF d_Field_raise_72
    | succ k ih =>
      intro  H   locs   ls   x bg   ft hk0 hxx hbg hk hft hvt h5 hF hl
      rw [nI_pred] at hxx
      subst hxx
      refine lv_iload hx hb d_Field_raise_24 (lv_at hl 0 rfl) ?_
      refine lv_if_lt (tgt := 72) hx hb d_Field_raise_26 (by decide) (fun h9 => absurd h9 (nI_pos (by omega))) (fun _ => ?_)
      refine lv_iload hx hb d_Field_raise_29 (lv_at hl 1 rfl) ?_
      have tail : ∀ (H : Heap) (locs : List Loc) (ls : Array Slot) (bg : Int32) (ft : Nat → Int64), (bg = 0 → 2 * (E9 / 2 ^ (k + 1)) = 0) → KJ g (fun q => q = t ∨ q = F 5) s.heap H → AJ g H t 14 ft → RV ft ((X ^ (2 * (E9 / 2 ^ (k + 1))) * WQ) % QJ) → AJ g H (F 5) 14 fa → (∀ q ∈ locs, n0 q.base) → lv_has ls 6 [(5, .int (nI k)), (4, .int bg), (0, .ref o), (1, .ref t), (2, .ref a), (3, .ref b)] → W p l e { frames := 2, cells := 0, slots := 0, locals := 135 } s m [.ref o, .ref t, .ref a, .ref b].toArray below meth c H locs 0 0 (MQ below (QcP (QV (fun H H' => KJ g (fun q => q = t ∨ q = F 5) H H' ∧ ∃ f', AJ g H' t 14 f' ∧ RV f' ((X ^ E9 * WQ) % QJ)))) [.ref o, .ref t, .ref a, .ref b].toArray s 0 0 (fun q => n0 q)) (F0 m 41 ls []) := by
        intro  H   locs   ls   bg   ft hbg hk hft hvt h5 hF hl
        refine lv_aload_n hx hb d_Field_raise_41 rfl (lv_at hl 5 rfl) ?_
        refine lv_iload hx hb d_Field_raise_42 (lv_at hl 0 rfl) ?_
        refine lv_iconst (v := nI 1) hx hb d_Field_raise_44 (by decide) ?_
        refine q_cS (rest := []) E (V_Limbs_bits l g n0 b k 1 fb (E9 : Int) hfb (by omega) (by decide)) w_271 w_5 w_575 w_270 hd_Limbs_bits rfl ⟨by decide, by decide⟩ (hk.ajo (fun h => h.elim hbt hb5) hB) hF hl.1 rfl (Nat.le_of_ble_eq_true rfl) d_Field_raise_45 ⟨by decide, by decide⟩ (ql (fun rb H1 locs hq hF => ?_))
        obtain ⟨hrb, hq⟩ := hq
        have hq := hq.symm
        subst hq
        refine lv_lconst (v := 1) hx hb d_Field_raise_48 (by decide) ?_
        refine W.lcmp hx hb d_Field_raise_49 ?_
        refine lv_if_ne (tgt := 66) hx hb d_Field_raise_50 (by decide) (fun hc => ?_) (fun hc => ?_)
        rotate_left
        · skip
          have hc1 : E9 / 2 ^ k % 2 = 1 := bit_1 hrb (cmp_eq hc)
          refine lv_aload_n hx hb d_Field_raise_53 rfl (lv_at hl 2 rfl) ?_
          refine lv_aload_n hx hb d_Field_raise_54 rfl (lv_at hl 3 rfl) ?_
          refine lv_aload_n hx hb d_Field_raise_55 rfl (lv_at hl 3 rfl) ?_
          refine lv_aload_n hx hb d_Field_raise_56 rfl (lv_at hl 2 rfl) ?_
          refine q_get (C := "KateDesk$Field") (T := T_Field) (N := 7) (ci := 1) E ((hk.fd hK hfd).1) in_Field rfl 5 (by decide) w_181 rfl rfl d_Field_raise_57 ?_
          refine q_cV (rest := []) E (Q_Field_multiply l g n0 o t t (F 5) F mi ft fa ((X ^ (2 * (E9 / 2 ^ (k + 1))) * WQ) % QJ) ((X * WQ) % QJ) hvt hfa ((qm_r _).2) ((qm_r _).2) htm hmi) w_165 w_4 w_162 w_163 w_164 hd_Field_multiply rfl ⟨by decide, by decide⟩ (OB.recv E.2.2.2.2.2 (by rfl) ((hk.fd hK hfd).1)) (⟨hk.fd hK hfd, ⟨hnt, _, hft⟩, hft, h5, (hk.ajo (fun h => h.elim htm h05) hM)⟩) hF hl.1 rfl (Nat.le_of_ble_eq_true rfl) d_Field_raise_60 ⟨by decide, by decide⟩ (qv (fun H2 locs hq hF => ?_))
          obtain ⟨hq, f9, hf9, hv9⟩ := hq
          rw [qrs_mu, ← pw_odd hc1] at hv9
          have h5 := hq.ajo (fun h => ht5 h.symm) h5
          have hk := hk.tr (hq.mono (fun q h => Or.inl h))
          refine lv_iconst (v := nI 1) hx hb d_Field_raise_63 (by decide) ?_
          refine lv_istore (lv' := [(4, .int (nI 1)), (5, .int (nI k)), (0, .ref o), (1, .ref t), (2, .ref a), (3, .ref b)]) hx hb d_Field_raise_64 hl (by decide) rfl (fun ls hl => ?_)
          refine lv_iinc (k := 1) (v := nI k - 1) (lv' := [(5, .int (nI k - 1)), (4, .int (nI 1)), (0, .ref o), (1, .ref t), (2, .ref a), (3, .ref b)]) hx hb d_Field_raise_66 hl rfl (i_dec (nI k)) (by decide) rfl (fun ls hl => ?_)
          refine lv_goto (tgt := 24) hx hb d_Field_raise_69 (by decide) ?_
          have hl : lv_has ls 6 [(5, .int (nI k - 1)), (4, .int (nI 1)), (0, .ref o), (1, .ref t), (2, .ref a), (3, .ref b)] := lv_sub hl [0, 1, 2, 3, 4, 5] rfl
          exact ih _ _ ls _ _ f9 (by omega) rfl (fun h => absurd h (by decide)) hk hf9 hv9 h5 hF hl
        have hc0 : E9 / 2 ^ k % 2 ≠ 1 := fun h => hc (bit_0 hrb h)
        have ev := pw_even hc0
        rw [← ev] at hvt hbg
        refine lv_iinc (k := 0) (v := nI k - 1) (lv' := [(5, .int (nI k - 1)), (4, .int bg), (0, .ref o), (1, .ref t), (2, .ref a), (3, .ref b)]) hx hb d_Field_raise_66 hl rfl (i_dec (nI k)) (by decide) rfl (fun ls hl => ?_)
        refine lv_goto (tgt := 24) hx hb d_Field_raise_69 (by decide) ?_
        have hl : lv_has ls 6 [(5, .int (nI k - 1)), (4, .int bg), (0, .ref o), (1, .ref t), (2, .ref a), (3, .ref b)] := lv_sub hl [0, 1, 2, 3, 4, 5] rfl
        exact ih _ _ ls _ _ _ (by omega) rfl hbg hk hft hvt h5 hF hl
      refine lv_if_eq (tgt := 41) hx hb d_Field_raise_31 (by decide) (fun hb9 => ?_) (fun hb9 => ?_)
      rotate_left
      · skip
        refine lv_aload_n hx hb d_Field_raise_34 rfl (lv_at hl 2 rfl) ?_
        refine lv_aload_n hx hb d_Field_raise_35 rfl (lv_at hl 3 rfl) ?_
        refine lv_aload_n hx hb d_Field_raise_36 rfl (lv_at hl 3 rfl) ?_
        refine lv_aload_n hx hb d_Field_raise_37 rfl (lv_at hl 3 rfl) ?_
        refine q_cV (rest := []) E (Q_Field_multiply l g n0 o t t t F mi ft ft ((X ^ (E9 / 2 ^ (k + 1)) * WQ) % QJ) ((X ^ (E9 / 2 ^ (k + 1)) * WQ) % QJ) hvt hvt ((qm_r _).2) ((qm_r _).2) htm hmi) w_165 w_4 w_162 w_163 w_164 hd_Field_multiply rfl ⟨by decide, by decide⟩ (OB.recv E.2.2.2.2.2 (by rfl) ((hk.fd hK hfd).1)) (⟨hk.fd hK hfd, ⟨hnt, _, hft⟩, hft, hft, (hk.ajo (fun h => h.elim htm h05) hM)⟩) hF hl.1 rfl (Nat.le_of_ble_eq_true rfl) d_Field_raise_38 ⟨by decide, by decide⟩ (qv (fun H1 locs hq hF => ?_))
        obtain ⟨hq, f9, hf9, hv9⟩ := hq
        rw [qrs_sq] at hv9
        have h5 := hq.ajo (fun h => ht5 h.symm) h5
        have hk := hk.tr (hq.mono (fun q h => Or.inl h))
        exact tail _ _ ls _ f9 (fun h => absurd h hb9) hk hf9 hv9 h5 hF hl
      have h0 := hbg hb9
      have h00 : 2 * (E9 / 2 ^ (k + 1)) = E9 / 2 ^ (k + 1) := by omega
      rw [← h00] at hvt
      exact tail _ _ ls _ _ (fun _ => by omega) hk hft hvt h5 hF hl
  refine lv_aload_n hx hb d_Field_raise_0 rfl (lv_at hl 0 rfl) ?_
  refine q_get (C := "KateDesk$Field") (T := T_Field) (N := 7) (ci := 1) E hfd.1 in_Field rfl 5 (by decide) w_181 rfl rfl d_Field_raise_1 ?_
  refine lv_aload_n hx hb d_Field_raise_4 rfl (lv_at hl 2 rfl) ?_
  refine q_cS (rest := []) E (c_Limbs_copy l g n0 (F 5) a fa) w_146 w_5 w_144 w_145 hd_Limbs_copy rfl ⟨by decide, by decide⟩ (⟨hfd.2 5 (by decide), hA⟩) hF hl.1 rfl (Nat.le_of_ble_eq_true rfl) d_Field_raise_5 ⟨by decide, by decide⟩ (qv (fun H1 locs hq hF => ?_))
  obtain ⟨hk, h5⟩ := hq
  refine lv_aload_n hx hb d_Field_raise_8 rfl (lv_at hl 1 rfl) ?_
  refine lv_aload_n hx hb d_Field_raise_9 rfl (lv_at hl 0 rfl) ?_
  refine q_get (C := "KateDesk$Field") (T := T_Field) (N := 7) (ci := 1) E ((hk.fd hK hfd).1) in_Field rfl 1 (by decide) w_173 rfl rfl d_Field_raise_10 ?_
  refine q_cS (rest := []) E (c_Limbs_copy l g n0 t (F 1) f1) w_146 w_5 w_144 w_145 hd_Limbs_copy rfl ⟨by decide, by decide⟩ (⟨⟨hnt, hk.aj hft0⟩, hk.ajo h1t hf1⟩) hF hl.1 rfl (Nat.le_of_ble_eq_true rfl) d_Field_raise_13 ⟨by decide, by decide⟩ (qv (fun H2 locs hq hF => ?_))
  obtain ⟨hq, hft⟩ := hq
  have h5 := hq.ajo (fun h => ht5 h.symm) h5
  have hk : KJ g (fun q => q = t ∨ q = F 5) s.heap _ := (hk.mono (fun q h => Or.inr h)).tr (hq.mono (fun q h => Or.inl h))
  refine lv_iconst (v := nI 0) hx hb d_Field_raise_16 (by decide) ?_
  refine lv_istore (lv' := [(4, .int (nI 0)), (0, .ref o), (1, .ref t), (2, .ref a), (3, .ref b)]) hx hb d_Field_raise_17 hl (by decide) rfl (fun ls hl => ?_)
  refine lv_sipush (v := nI 391) hx hb d_Field_raise_19 (by decide) ?_
  refine lv_istore (lv' := [(5, .int (nI 391)), (4, .int (nI 0)), (0, .ref o), (1, .ref t), (2, .ref a), (3, .ref b)]) hx hb d_Field_raise_22 hl (by decide) rfl (fun ls hl => ?_)
  have hl : lv_has ls 6 [(5, .int (nI 391)), (4, .int (nI 0)), (0, .ref o), (1, .ref t), (2, .ref a), (3, .ref b)] := lv_sub hl [0, 1, 2, 3, 4, 5] rfl
  have hE : E9 / 2 ^ 392 = 0 := by
    have r := VL_range hfb.1
    rw [hfb.2, show (268435456 : Int) ^ 14 = ((2 ^ 392 : Nat) : Int) by decide +kernel] at r
    exact Nat.div_eq_of_lt (Int.ofNat_lt.mp r.2)
  exact loop 392 _ _ ls _ _ f1 (by decide) (by decide) (fun _ => hE) hk hft (by rw [hE, Int.pow_zero, Int.one_mul, Int.emod_eq_of_lt WQ_r.1 WQ_r.2]; exact hv1) h5 hF hl
