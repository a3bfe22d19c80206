theorem dv_mod {x y p : Int} (h : p ∣ x - y) : x % p = y % p := by
  obtain ⟨k, hk⟩ := h
  rw [show x = y + p * k by omega]
  exact Int.add_mul_emod_self_left _ _ _
theorem dv1 {p x v b s a : Int} (h : p ∣ x + v * b - s) (ha : p ∣ a - b) : p ∣ x + v * a - s := by
  have h1 := Int.dvd_add h (Int.dvd_mul_of_dvd_right ha (b := v))
  have e : x + v * b - s + v * (a - b) = x + v * a - s := by rw [Int.mul_sub]; omega
  rw [e] at h1
  exact h1
theorem dv2 {p x v b s a : Int} (h : p ∣ x - s) (ha : p ∣ a - b) : p ∣ x - v * b + v * a - s := by
  have h1 := Int.dvd_add h (Int.dvd_mul_of_dvd_right ha (b := v))
  have e : x - s + v * (a - b) = x - v * b + v * a - s := by rw [Int.mul_sub]; omega
  rw [e] at h1
  exact h1
theorem VL_lowz {f : Nat → Int64} {n N : Nat} (h : ∀ k, n + 1 ≤ k → k < N → (f k).toInt = 0) : n + 1 ≤ N → VL f N = VL f n + (f n).toInt * 268435456 ^ n := by
  intro hN
  induction N with
  | zero => omega
  | succ N ih =>
    by_cases e : N = n
    · subst e
      rfl
    · show VL f N + (f N).toInt * 268435456 ^ N = _
      rw [ih (fun k a b => h k a (by omega)) (by omega), h N (by omega) (by omega), Int.zero_mul, Int.add_zero]
theorem VL_tail {f h : Nat → Int64} {n N : Nat} (e : VL f n + (f n).toInt * 268435456 ^ n = VL h n + (h n).toInt * 268435456 ^ n) (hs : ∀ j, n < j → f j = h j) (hN : n + 1 ≤ N) : VL f N = VL h N := by
  induction N with
  | zero => omega
  | succ N ih =>
    by_cases c : N = n
    · subst c
      exact e
    · show VL f N + (f N).toInt * 268435456 ^ N = VL h N + (h N).toInt * 268435456 ^ N
      rw [ih (by omega), hs N (by omega)]
theorem VL_above {f h : Nat → Int64} {n N : Nat} (hs : ∀ j, n ≤ j → f j = h j) (hN : n ≤ N) : VL f N = VL f n + (VL h N - VL h n) := by
  induction N with
  | zero =>
    have : n = 0 := by omega
    subst this
    omega
  | succ N ih =>
    by_cases c : n = N + 1
    · subst c
      omega
    · have h1 := ih (by omega)
      show VL f N + (f N).toInt * 268435456 ^ N = VL f n + (VL h N + (h N).toInt * 268435456 ^ N - VL h n)
      rw [h1, hs N (by omega)]
      omega
theorem VL_fold {f1 f2 : Nat → Int64} {n j N : Nat} {v R : Int} (hj : n ≤ j) (hjN : j < N) (hn : n ≤ N) (hV : VL f2 n = VL f1 n + v * R) (hs : ∀ k, n ≤ k → f2 k = vp_updL f1 j 0 k) : VL f2 N = VL f1 N - (f1 j).toInt * 268435456 ^ j + v * R := by
  rw [VL_above hs hn, hV, VL_upd_lt hjN, VL_upd_ge hj, show (0 : Int64).toInt = 0 by decide, Int.zero_sub, Int.neg_mul]
  omega
set_option maxHeartbeats 4000000 in
set_option maxRecDepth 100000 in
/-- product: it ends, a number is written -/
theorem V_Model_product (l : Launch) (g : WG) (n0 : Nat → Prop) (mo r a b : Nat) (th pw td wr : Int32) (w n : Nat) (hw : WH w n) (fd : Nat → Int64) (hr1 : r < 170) (ha : a < 170) (hb1 : b < 170) (fa : Nat → Int64) (hAT : (∀ j, j ≤ n → PP w n ∣ VL (fun k => fa (210 * w + 14 * j + k)) n - 268435456 ^ (n + j))) : Ctr l y_Model_product (.code y_Model_product prog_11_method_17_code 9 none) 2 51 0 0 n0 g [.ref mo, .int (nI r), .int (nI a), .int (nI b)] (fun H => MS g n0 H mo th pw td wr w n fd ∧ AJ g H (mo + 4) 420 fa) (QV (fun H H' => KJ g (fun q => q = mo + 1 ∨ q = mo + 5) H H' ∧ ∃ fd', MS g n0 H' mo th pw td wr w n fd' ∧ PV fd fd' r n ∧ SV fd' r n = (SV fd a n * SV fd b n) % PP w n)) := by
  refine ctr_mk l (lv0 := [(0, .ref mo), (1, .int (nI r)), (2, .int (nI a)), (3, .int (nI b))]) (by decide) (Nat.le_of_ble_eq_true rfl) rfl ?_
  intro p e s m below meth c ls E hr hlk hnm hl hP
  obtain ⟨hP, hab⟩ := hP
  have hx := E.1
  have hb := E.2.1
  have hK := E.2.2.2.2.2
  have hF : ∀ q ∈ ([] : List Loc), n0 q.base := fun q hq => absurd hq List.not_mem_nil
  obtain ⟨hmo, hpr, ⟨fa9, hab9, had9⟩, ⟨fc, hac⟩, hfd, hDD, hn01, hn05⟩ := id hP
  have had : ∀ k, k < 420 → dg (fa k) := fun k hk => by rw [(hab.same hab9).2 k hk]; exact had9 k hk
  obtain ⟨hpd, hn1, hn14, hw1, hPT, hP1, hT0, hT1⟩ := wh_kP hw
  have hw2 : (w = 0 ∧ n = 14) ∨ (w = 1 ∧ n = 10) := hw
  have hpw := pw_pos n
  have hSa : 0 ≤ SV fd a n ∧ SV fd a n < 268435456 ^ n := VL_range (fun k hk1 => hDD _ (by omega))
  have hSb : 0 ≤ SV fd b n ∧ SV fd b n < 268435456 ^ n := VL_range (fun k hk1 => hDD _ (by omega))
  have hST := mul_lt_pw hSa hSb
  have wl : ∀ (mm : Nat) (H : Heap) (locs : List Loc) (ls : Array Slot) (f1 : Nat → Int64), VL f1 n + (f1 n).toInt * 268435456 ^ n < mm → KJ g (fun q => q = mo + 5) s.heap H → AJ g H (mo + 5) 32 f1 → (∀ k, k < n → dg (f1 k)) → 0 ≤ (f1 n).toInt → (f1 n).toInt ≤ 4294967296 → (PP w n ∣ VL f1 n + (f1 n).toInt * 268435456 ^ n - SV fd a n * SV fd b n) → (∀ q ∈ locs, n0 q.base) → lv_has ls 9 [(0, .ref mo), (1, .int (nI r))] → W p l e { frames := 2, cells := 0, slots := 0, locals := 51 } s m [.ref mo, .int (nI r), .int (nI a), .int (nI b)].toArray below meth c H locs 0 0 (MQ below (QcP (QV (fun H H' => KJ g (fun q => q = mo + 1 ∨ q = mo + 5) H H' ∧ ∃ fd', MS g n0 H' mo th pw td wr w n fd' ∧ PV fd fd' r n ∧ SV fd' r n = (SV fd a n * SV fd b n) % PP w n))) [.ref mo, .int (nI r), .int (nI a), .int (nI b)].toArray s 0 0 (fun q => n0 q)) (F0 m 226 ls []) := by
    intro mm
    induction mm with
    | zero =>
      intro H locs ls f1 hm hk5 hf hdf hp0
      have h1 := (VL_range hdf).1
      have h2 := Int.mul_nonneg hp0 (Int.le_of_lt hpw)
      omega
    | succ mm ihm =>
      intro H locs ls f1 hm hk5 hf hdf hp0 hp1 hVI hF hl
      refine lv_aload_n hx hb d_Model_product_226 rfl (lv_at hl 0 rfl) ?_
      refine q_get (C := "KateDeskModel") (T := T_Model) (N := 14) (ci := 8) E (hk5.ob hK hmo) in_Model rfl 5 (by decide) w_1006 rfl rfl d_Model_product_227 ?_
      refine lv_aload_n hx hb d_Model_product_230 rfl (lv_at hl 0 rfl) ?_
      refine q_get (C := "KateDeskModel") (T := T_Model) (N := 14) (ci := 8) E (hk5.ob hK hmo) in_Model rfl 7 (by decide) w_1008 rfl rfl d_Model_product_231 ?_
      refine q_lald (N := 32) (f := f1) E hf n rfl (by omega) (by decide) d_Model_product_234 ?_
      refine lv_lconst (v := 0) hx hb d_Model_product_235 (by decide) ?_
      refine W.lcmp hx hb d_Model_product_236 ?_
      refine lv_if_le (tgt := 319) hx hb d_Model_product_237 (by decide) (fun hc => ?_) (fun hc => ?_)
      rotate_left
      · skip
        have hv1 : 1 ≤ (f1 n).toInt := by have := cmp_nle hc; omega
        refine lv_aload_n hx hb d_Model_product_240 rfl (lv_at hl 0 rfl) ?_
        refine q_get (C := "KateDeskModel") (T := T_Model) (N := 14) (ci := 8) E (hk5.ob hK hmo) in_Model rfl 5 (by decide) w_1006 rfl rfl d_Model_product_241 ?_
        refine lv_aload_n hx hb d_Model_product_244 rfl (lv_at hl 0 rfl) ?_
        refine q_get (C := "KateDeskModel") (T := T_Model) (N := 14) (ci := 8) E (hk5.ob hK hmo) in_Model rfl 7 (by decide) w_1008 rfl rfl d_Model_product_245 ?_
        refine q_lald (N := 32) (f := f1) E hf n rfl (by omega) (by decide) d_Model_product_248 ?_
        refine lv_topl (fun v ev => ?_)
        rw [← ev] at hv1 hp1 hp0 hVI
        refine lv_lstore (lv' := [(4, .long v), (0, .ref mo), (1, .int (nI r))]) hx hb d_Model_product_249 hl (by decide) rfl (fun ls hl => ?_)
        refine lv_aload_n hx hb d_Model_product_251 rfl (lv_at hl 1 rfl) ?_
        refine q_get (C := "KateDeskModel") (T := T_Model) (N := 14) (ci := 8) E (hk5.ob hK hmo) in_Model rfl 5 (by decide) w_1006 rfl rfl d_Model_product_252 ?_
        refine lv_aload_n hx hb d_Model_product_255 rfl (lv_at hl 1 rfl) ?_
        refine q_get (C := "KateDeskModel") (T := T_Model) (N := 14) (ci := 8) E (hk5.ob hK hmo) in_Model rfl 7 (by decide) w_1008 rfl rfl d_Model_product_256 ?_
        refine lv_lconst (v := 0) hx hb d_Model_product_259 (by decide) ?_
        refine q_last E hf hn05 hF n rfl (by omega) (by decide) d_Model_product_260 (fun H1 locs hq hf2 hF => ?_)
        have hk5 := hk5.tr hq
        refine lv_iconst (v := nI 0) hx hb d_Model_product_261 (by decide) ?_
        refine lv_istore (lv' := [(6, .int (nI 0)), (4, .long v), (0, .ref mo), (1, .int (nI r))]) hx hb d_Model_product_262 hl (by decide) rfl (fun ls hl => ?_)
        have hl : lv_has ls 9 [(6, .int (nI 0)), (4, .long v), (0, .ref mo), (1, .int (nI r))] := lv_sub hl [0, 1, 2, 3] rfl
        have inner : ∀ (k3 : Nat) (i : Nat) (H : Heap) (locs : List Loc) (ls : Array Slot) (f2 : Nat → Int64), i + k3 = n → KJ g (fun q => q = mo + 5) s.heap H → AJ g H (mo + 5) 32 f2 → (∀ k, k < i → (f2 k).toInt = (f1 k).toInt + v.toInt * (fa (210 * w + k)).toInt) → (∀ j, i ≤ j → f2 j = vp_updL f1 n 0 j) → (∀ q ∈ locs, n0 q.base) → lv_has ls 9 [(6, .int (nI i)), (4, .long v), (0, .ref mo), (1, .int (nI r))] → W p l e { frames := 2, cells := 0, slots := 0, locals := 51 } s m [.ref mo, .int (nI r), .int (nI a), .int (nI b)].toArray below meth c H locs 0 0 (MQ below (QcP (QV (fun H H' => KJ g (fun q => q = mo + 1 ∨ q = mo + 5) H H' ∧ ∃ fd', MS g n0 H' mo th pw td wr w n fd' ∧ PV fd fd' r n ∧ SV fd' r n = (SV fd a n * SV fd b n) % PP w n))) [.ref mo, .int (nI r), .int (nI a), .int (nI b)].toArray s 0 0 (fun q => n0 q)) (F0 m 264 ls []) := by
          intro k3
          induction k3 with
          | zero =>
            intro  i   H   locs   ls   f2 hi hk5 hf hlow hge hF hl
            obtain rfl : n = i := by omega
            refine lv_iload hx hb d_Model_product_264 (lv_at hl 0 rfl) ?_
            refine lv_aload_n hx hb d_Model_product_266 rfl (lv_at hl 2 rfl) ?_
            refine q_get (C := "KateDeskModel") (T := T_Model) (N := 14) (ci := 8) E (hk5.ob hK hmo) in_Model rfl 7 (by decide) w_1008 rfl rfl d_Model_product_267 ?_
            refine lv_icmp_ge (tgt := 308) hx hb d_Model_product_270 (by decide) (fun _ => ?_) (fun h9 => absurd (nI_le (Nat.le_refl _) (by omega)) h9)
            refine lv_aload_n hx hb d_Model_product_308 rfl (lv_at hl 2 rfl) ?_
            refine lv_aload_n hx hb d_Model_product_309 rfl (lv_at hl 2 rfl) ?_
            refine q_get (C := "KateDeskModel") (T := T_Model) (N := 14) (ci := 8) E (hk5.ob hK hmo) in_Model rfl 7 (by decide) w_1008 rfl rfl d_Model_product_310 ?_
            have hfn : f2 n = 0 := by rw [hge n (Nat.le_refl _)]; simp only [vp_updL, if_true]
            refine q_cV (rest := []) E (c_Model_carries l g n0 mo n th (nI w) (nI n) pw td wr f2 (by omega) (fun k hk1 => by by_cases e : k = n; (rw [e, hfn]; exact ⟨by decide, by decide⟩); (have h1 := hdf k (by omega); have h2 := vdm hp0 (had (210 * w + k) (by omega)); unfold dg at h1; rw [hlow k (by omega)]; omega))) w_983 w_15 w_980 w_982 (bw_s 19 rfl) hd_Model_carries rfl ⟨by decide, by decide⟩ (OB.recv E.2.2.2.2.2 (by rfl) (hk5.ob hK hmo)) (⟨hk5.ob hK hmo, hf, hn05⟩) hF hl.1 rfl (Nat.le_of_ble_eq_true rfl) d_Model_product_313 ⟨by decide, by decide⟩ (qv (fun H1 locs hq hF => ?_))
            obtain ⟨hq, f3, hf3, hd3, hV3, hj3, hb3⟩ := hq
            have hk5 := hk5.tr hq
            have hr3 := VL_range hd3
            have hr1 := VL_range hdf
            have hR : 0 ≤ VL (fun k => fa (210 * w + k)) n ∧ VL (fun k => fa (210 * w + k)) n < 268435456 ^ n := VL_range (fun k hk1 => had _ (by omega))
            have hV2 : VL f2 n = VL f1 n + v.toInt * VL (fun k => fa (210 * w + k)) n := VL_addq (h := fun k => fa (210 * w + k)) hlow
            rw [hfn, hV2, show (0 : Int64).toInt = 0 by decide, Int.zero_mul, Int.add_zero] at hV3
            have hy0 : 0 ≤ VL f1 n + v.toInt * VL (fun k => fa (210 * w + k)) n := Int.add_nonneg hr1.1 (Int.mul_nonneg hp0 hR.1)
            have hcb := carry_bd hr3 hV3 hy0 (vr_le hp0 hR (by omega)) hp0
            have hlt := vr_lt (A := VL f1 n) hv1 hR
            rw [← ev] at hm
            refine lv_goto (tgt := 226) hx hb d_Model_product_316 (by decide) ?_
            have hl : lv_has ls 9 [(0, .ref mo), (1, .int (nI r))] := lv_sub hl [2, 3] rfl
            exact ihm _ _ ls f3 (by rw [hV3]; omega) hk5 hf3 hd3 hcb.1 (by omega) (by rw [hV3]; exact dv1 hVI (hAT 0 (Nat.zero_le _))) hF hl
          | succ k3 ih3 =>
            intro  i   H   locs   ls   f2 hi hk5 hf hlow hge hF hl
            refine lv_iload hx hb d_Model_product_264 (lv_at hl 0 rfl) ?_
            refine lv_aload_n hx hb d_Model_product_266 rfl (lv_at hl 2 rfl) ?_
            refine q_get (C := "KateDeskModel") (T := T_Model) (N := 14) (ci := 8) E (hk5.ob hK hmo) in_Model rfl 7 (by decide) w_1008 rfl rfl d_Model_product_267 ?_
            refine lv_icmp_ge (tgt := 308) hx hb d_Model_product_270 (by decide) (fun h9 => absurd h9 (nI_ge (by omega) (by omega))) (fun _ => ?_)
            refine lv_aload_n hx hb d_Model_product_273 rfl (lv_at hl 2 rfl) ?_
            refine q_get (C := "KateDeskModel") (T := T_Model) (N := 14) (ci := 8) E (hk5.ob hK hmo) in_Model rfl 5 (by decide) w_1006 rfl rfl d_Model_product_274 ?_
            refine lv_iload hx hb d_Model_product_277 (lv_at hl 0 rfl) ?_
            refine lv_dup2_11 hx hb d_Model_product_279 rfl rfl ?_
            refine q_lald (N := 32) (f := f2) E hf i rfl (by omega) (by decide) d_Model_product_280 ?_
            refine lv_lload hx hb d_Model_product_281 (lv_at hl 1 rfl) ?_
            refine lv_aload_n hx hb d_Model_product_283 rfl (lv_at hl 2 rfl) ?_
            refine q_get (C := "KateDeskModel") (T := T_Model) (N := 14) (ci := 8) E (hk5.ob hK hmo) in_Model rfl 4 (by decide) w_1005 rfl rfl d_Model_product_284 ?_
            refine lv_sipush (v := nI 210) hx hb d_Model_product_287 (by decide) ?_
            refine lv_aload_n hx hb d_Model_product_290 rfl (lv_at hl 2 rfl) ?_
            refine q_get (C := "KateDeskModel") (T := T_Model) (N := 14) (ci := 8) E (hk5.ob hK hmo) in_Model rfl 6 (by decide) w_1007 rfl rfl d_Model_product_291 ?_
            refine lv_imul hx hb d_Model_product_294 ?_
            refine lv_iload hx hb d_Model_product_295 (lv_at hl 0 rfl) ?_
            refine lv_iadd hx hb d_Model_product_297 ?_
            have hai : ((nI 210) * (nI w)) + (nI i) = nI (210 * w + i) := by rw [pk_mul, nI_add]
            refine q_lald (N := 420) (f := fa) E (hk5.ajo (by omega) hab) (210 * w + i) hai (by omega) (by decide) d_Model_product_298 ?_
            refine lv_lmul hx hb d_Model_product_299 ?_
            refine lv_ladd hx hb d_Model_product_300 ?_
            refine q_last E hf hn05 hF i rfl (by omega) (by decide) d_Model_product_301 (fun H1 locs hq hf2 hF => ?_)
            have hk5 := hk5.tr hq
            have e1 : f2 i = f1 i := by rw [hge i (Nat.le_refl _)]; simp only [vp_updL, show i ≠ n by omega, if_false]
            have h1 := hdf i (by omega)
            have h2 := vdm hp0 (had (210 * w + i) (by omega))
            unfold dg at h1
            have e2 : (v * fa (210 * w + i)).toInt = v.toInt * (fa (210 * w + i)).toInt := i64_mul (by omega) (by omega)
            have e3 : (f2 i + v * fa (210 * w + i)).toInt = (f1 i).toInt + v.toInt * (fa (210 * w + i)).toInt := by rw [e1, ← e2]; exact i64_add (by rw [e2]; omega) (by rw [e2]; omega)
            refine lv_iinc (k := 0) (v := nI (i + 1)) (lv' := [(6, .int (nI (i + 1))), (4, .long v), (0, .ref mo), (1, .int (nI r))]) hx hb d_Model_product_302 hl rfl (i_inc i) (by decide) rfl (fun ls hl => ?_)
            refine lv_goto (tgt := 264) hx hb d_Model_product_305 (by decide) ?_
            have hl : lv_has ls 9 [(6, .int (nI (i + 1))), (4, .long v), (0, .ref mo), (1, .int (nI r))] := lv_sub hl [0, 1, 2, 3] rfl
            exact ih3 (i + 1) H1 _ ls _ (by omega) hk5 hf2 (fun k hk1 => by by_cases e : k = i; (subst e; simp only [vp_updL, if_true]; exact e3); (simp only [vp_updL, e, if_false]; exact hlow k (by omega))) (fun j hj => by simp only [vp_updL, show j ≠ i by omega, if_false]; exact hge j (by omega)) hF hl
        exact inner n 0 _ _ ls _ (by omega) hk5 hf2 (fun k hk1 => absurd hk1 (Nat.not_lt_zero _)) (fun _ _ => rfl) hF hl
      have hz0 := cmp_le hc
      refine lv_aload_n hx hb d_Model_product_319 rfl (lv_at hl 0 rfl) ?_
      refine lv_iload_n hx hb d_Model_product_320 rfl (lv_at hl 1 rfl) ?_
      refine q_cV (rest := []) E (c_Model_settles l g n0 mo r th pw td wr w n hw f1 fd hr1 hdf) w_988 w_15 w_985 w_987 (bw_s 20 rfl) hd_Model_settles rfl ⟨by decide, by decide⟩ (OB.recv E.2.2.2.2.2 (by rfl) (hk5.ob hK hmo)) (⟨hk5.ob hK hmo, hk5.ajo (by omega) hpr, hf, hk5.ajo (by omega) hfd, hn01, hn05⟩) hF hl.1 rfl (Nat.le_of_ble_eq_true rfl) d_Model_product_321 ⟨by decide, by decide⟩ (qv (fun H1 locs hq hF => ?_))
      obtain ⟨hq, fd2, hfd2, ho, hdd, hz, hV⟩ := hq
      have hk := (hk5.mono (fun q h => Or.inr h) : KJ g (fun q => q = mo + 1 ∨ q = mo + 5) s.heap _).tr hq
      have hpv : PV fd fd2 r n := ⟨ho, hdd, hz⟩
      have hz9 : (f1 n).toInt = 0 := by omega
      rw [hz9, Int.zero_mul, Int.add_zero] at hVI
      exact q_vret E hr hlk (⟨rfl, hk, fd2, hP.step hK hk hfd2 (hpv.dd hDD), hpv, hV.trans (dv_mod hVI)⟩) hF d_Model_product_324
  have dl : ∀ (k : Nat) (c4 : Nat) (H : Heap) (locs : List Loc) (ls : Array Slot) (f1 : Nat → Int64), c4 + k = 4 → KJ g (fun q => q = mo + 5) s.heap H → AJ g H (mo + 5) 32 f1 → (∀ k, k < n → dg (f1 k)) → (∀ k, n ≤ k → k ≤ 2 * n → 0 ≤ (f1 k).toInt) → TS f1 n (n + 1) ≤ 4294967296 → (1 ≤ c4 → ∀ k, n + 1 ≤ k → k < 2 * n + 1 → (f1 k).toInt = 0) → (PP w n ∣ VL f1 (2 * n + 1) - SV fd a n * SV fd b n) → (∀ q ∈ locs, n0 q.base) → lv_has ls 9 [(4, .int (nI c4)), (0, .ref mo), (1, .int (nI r))] → W p l e { frames := 2, cells := 0, slots := 0, locals := 51 } s m [.ref mo, .int (nI r), .int (nI a), .int (nI b)].toArray below meth c H locs 0 0 (MQ below (QcP (QV (fun H H' => KJ g (fun q => q = mo + 1 ∨ q = mo + 5) H H' ∧ ∃ fd', MS g n0 H' mo th pw td wr w n fd' ∧ PV fd fd' r n ∧ SV fd' r n = (SV fd a n * SV fd b n) % PP w n))) [.ref mo, .int (nI r), .int (nI a), .int (nI b)].toArray s 0 0 (fun q => n0 q)) (F0 m 101 ls []) := by
    intro k
    induction k with
    | zero =>
      intro  c4   H   locs   ls   f1 hi hk5 hf hdf htp hTS hup hVI hF hl
      obtain rfl : c4 = 4 := by omega
      refine lv_iload hx hb d_Model_product_101 (lv_at hl 0 rfl) ?_
      refine lv_iconst (v := nI 4) hx hb d_Model_product_103 (by decide) ?_
      refine lv_icmp_ge (tgt := 226) hx hb d_Model_product_104 (by decide) (fun _ => ?_) (fun h9 => absurd (by decide) h9)
      have hl : lv_has ls 9 [(0, .ref mo), (1, .int (nI r))] := lv_sub hl [1, 2] rfl
      have h0n := htp n (Nat.le_refl _) (by omega)
      have hT : (f1 n).toInt ≤ 4294967296 := by
        have h1 : TS f1 n (n + 1) = (f1 n).toInt + TS f1 (n + 1) n := rfl
        have h2 := TS_nonneg (f := f1) (m := n) (j := n + 1) (fun k a b => htp k (by omega) (by omega))
        omega
      have h8 := Int.add_nonneg (VL_range hdf).1 (Int.mul_nonneg h0n (Int.le_of_lt hpw))
      exact wl (VL f1 n + (f1 n).toInt * 268435456 ^ n + 1).toNat _ _ ls f1 (by omega) hk5 hf hdf h0n hT (by rw [VL_lowz (hup (by decide)) (by omega)] at hVI; exact hVI) hF hl
    | succ k ih =>
      intro  c4   H   locs   ls   f1 hi hk5 hf hdf htp hTS hup hVI hF hl
      refine lv_iload hx hb d_Model_product_101 (lv_at hl 0 rfl) ?_
      refine lv_iconst (v := nI 4) hx hb d_Model_product_103 (by decide) ?_
      refine lv_icmp_ge (tgt := 226) hx hb d_Model_product_104 (by decide) (fun h9 => absurd h9 (nI_ge (by omega) (by decide))) (fun _ => ?_)
      refine lv_aload_n hx hb d_Model_product_107 rfl (lv_at hl 1 rfl) ?_
      refine q_get (C := "KateDeskModel") (T := T_Model) (N := 14) (ci := 8) E (hk5.ob hK hmo) in_Model rfl 7 (by decide) w_1008 rfl rfl d_Model_product_108 ?_
      refine lv_istore (lv' := [(5, .int (nI n)), (4, .int (nI c4)), (0, .ref mo), (1, .int (nI r))]) hx hb d_Model_product_111 hl (by decide) rfl (fun ls hl => ?_)
      have hl : lv_has ls 9 [(5, .int (nI n)), (4, .int (nI c4)), (0, .ref mo), (1, .int (nI r))] := lv_sub hl [0, 1, 2, 3] rfl
      have el : ∀ (k2 : Nat) (j : Nat) (u : Int) (H : Heap) (locs : List Loc) (ls : Array Slot) (f1 : Nat → Int64), j + k2 = 2 * n + 1 → n ≤ j → 0 ≤ u → KJ g (fun q => q = mo + 5) s.heap H → AJ g H (mo + 5) 32 f1 → u + TS f1 j (2 * n + 1 - j) ≤ 4294967296 → (∀ k, k < n → 0 ≤ (f1 k).toInt ∧ (f1 k).toInt ≤ 268435456 + u * 268435456) → VL f1 n ≤ (1 + u) * (268435456 ^ n - 1) → (∀ k, j ≤ k → k ≤ 2 * n → 0 ≤ (f1 k).toInt) → (∀ k, n ≤ k → k < j → (f1 k).toInt = 0) → (PP w n ∣ VL f1 (2 * n + 1) - SV fd a n * SV fd b n) → (∀ q ∈ locs, n0 q.base) → lv_has ls 9 [(5, .int (nI j)), (4, .int (nI c4)), (0, .ref mo), (1, .int (nI r))] → W p l e { frames := 2, cells := 0, slots := 0, locals := 51 } s m [.ref mo, .int (nI r), .int (nI a), .int (nI b)].toArray below meth c H locs 0 0 (MQ below (QcP (QV (fun H H' => KJ g (fun q => q = mo + 1 ∨ q = mo + 5) H H' ∧ ∃ fd', MS g n0 H' mo th pw td wr w n fd' ∧ PV fd fd' r n ∧ SV fd' r n = (SV fd a n * SV fd b n) % PP w n))) [.ref mo, .int (nI r), .int (nI a), .int (nI b)].toArray s 0 0 (fun q => n0 q)) (F0 m 113 ls []) := by
        intro k2
        induction k2 with
        | zero =>
          intro  j   u   H   locs   ls   f1 hi hnj hu0 hk5 hf hTS hlim hVu htp hzz hVI hF hl
          obtain rfl : j = 2 * n + 1 := by omega
          refine lv_iload hx hb d_Model_product_113 (lv_at hl 0 rfl) ?_
          refine lv_iconst (v := nI 2) hx hb d_Model_product_115 (by decide) ?_
          refine lv_aload_n hx hb d_Model_product_116 rfl (lv_at hl 2 rfl) ?_
          refine q_get (C := "KateDeskModel") (T := T_Model) (N := 14) (ci := 8) E (hk5.ob hK hmo) in_Model rfl 7 (by decide) w_1008 rfl rfl d_Model_product_117 ?_
          refine lv_imul hx hb d_Model_product_120 ?_
          refine lv_topi (fun t9 e9 => ?_)
          obtain rfl : t9 = nI (2 * n) := e9.trans (pk_mul _ _)
          refine lv_icmp_gt (tgt := 212) hx hb d_Model_product_121 (by decide) (fun _ => ?_) (fun h9 => absurd (nI_lt (by omega) (by omega)) h9)
          refine lv_aload_n hx hb d_Model_product_212 rfl (lv_at hl 2 rfl) ?_
          refine lv_aload_n hx hb d_Model_product_213 rfl (lv_at hl 2 rfl) ?_
          refine q_get (C := "KateDeskModel") (T := T_Model) (N := 14) (ci := 8) E (hk5.ob hK hmo) in_Model rfl 7 (by decide) w_1008 rfl rfl d_Model_product_214 ?_
          have hfn : (f1 n).toInt = 0 := hzz n (Nat.le_refl _) (by omega)
          have hT : TS f1 (2 * n + 1) (2 * n + 1 - (2 * n + 1)) = 0 := by rw [Nat.sub_self]; rfl
          refine q_cV (rest := []) E (c_Model_carries l g n0 mo n th (nI w) (nI n) pw td wr f1 (by omega) (fun k hk1 => by by_cases e : k = n; (rw [e, hfn]; exact ⟨by decide, by decide⟩); (have h1 := hlim k (by omega); omega))) w_983 w_15 w_980 w_982 (bw_s 19 rfl) hd_Model_carries rfl ⟨by decide, by decide⟩ (OB.recv E.2.2.2.2.2 (by rfl) (hk5.ob hK hmo)) (⟨hk5.ob hK hmo, hf, hn05⟩) hF hl.1 rfl (Nat.le_of_ble_eq_true rfl) d_Model_product_217 ⟨by decide, by decide⟩ (qv (fun H1 locs hq hF => ?_))
          obtain ⟨hq, f3, hf3, hd3, hV3, hj3, hb3⟩ := hq
          have hk5 := hk5.tr hq
          have hr3 := VL_range hd3
          have hy0 := VL_nonneg (f := f1) (n := n) (fun k hk1 => (hlim k hk1).1)
          have hV3b := hV3
          rw [hfn, Int.zero_mul, Int.add_zero] at hV3
          have hcb := carry_bd hr3 hV3 hy0 hVu hu0
          have hz3 : ∀ k, n + 1 ≤ k → k < n + 1 + n → (f3 k).toInt = 0 := fun k a b => by rw [hj3 k (by omega)]; exact hzz k (by omega) (by omega)
          refine lv_iinc (k := 1) (v := nI (c4 + 1)) (lv' := [(4, .int (nI (c4 + 1))), (5, .int (nI (2 * n + 1))), (0, .ref mo), (1, .int (nI r))]) hx hb d_Model_product_220 hl rfl (i_inc c4) (by decide) rfl (fun ls hl => ?_)
          refine lv_goto (tgt := 101) hx hb d_Model_product_223 (by decide) ?_
          have hl : lv_has ls 9 [(4, .int (nI (c4 + 1))), (0, .ref mo), (1, .int (nI r))] := lv_sub hl [0, 2, 3] rfl
          refine ih (c4 + 1) _ _ ls f3 (by omega) hk5 hf3 hd3 (fun k h1 h2 => ?_) ?_ (fun _ k h1 h2 => hz3 k h1 (by omega)) (by rw [VL_tail hV3b (fun j hj => hj3 j hj) (by omega)]; exact hVI) hF hl
          · by_cases e : k = n
            · rw [e]; exact hcb.1
            · rw [hz3 k (by omega) (by omega)]; exact Int.le_refl _
          · show (f3 n).toInt + TS f3 (n + 1) n ≤ _
            rw [TS_zero hz3]; omega
        | succ k2 ih2 =>
          intro  j   u   H   locs   ls   f1 hi hnj hu0 hk5 hf hTS hlim hVu htp hzz hVI hF hl
          obtain ⟨m2, hm2⟩ : ∃ m2, 2 * n + 1 - j = m2 + 1 := ⟨2 * n - j, by omega⟩
          have hTj : TS f1 j (2 * n + 1 - j) = (f1 j).toInt + TS f1 (j + 1) (2 * n + 1 - (j + 1)) := by rw [hm2, show 2 * n + 1 - (j + 1) = m2 by omega]; rfl
          have hTn := TS_nonneg (f := f1) (m := 2 * n + 1 - (j + 1)) (j := j + 1) (fun k h1 h2 => htp k (by omega) (by omega))
          have hv0 := htp j (Nat.le_refl _) (by omega)
          refine lv_iload hx hb d_Model_product_113 (lv_at hl 0 rfl) ?_
          refine lv_iconst (v := nI 2) hx hb d_Model_product_115 (by decide) ?_
          refine lv_aload_n hx hb d_Model_product_116 rfl (lv_at hl 2 rfl) ?_
          refine q_get (C := "KateDeskModel") (T := T_Model) (N := 14) (ci := 8) E (hk5.ob hK hmo) in_Model rfl 7 (by decide) w_1008 rfl rfl d_Model_product_117 ?_
          refine lv_imul hx hb d_Model_product_120 ?_
          refine lv_topi (fun t9 e9 => ?_)
          obtain rfl : t9 = nI (2 * n) := e9.trans (pk_mul _ _)
          refine lv_icmp_gt (tgt := 212) hx hb d_Model_product_121 (by decide) (fun h9 => absurd h9 (nI_nlt (by omega) (by omega))) (fun _ => ?_)
          refine lv_aload_n hx hb d_Model_product_124 rfl (lv_at hl 2 rfl) ?_
          refine q_get (C := "KateDeskModel") (T := T_Model) (N := 14) (ci := 8) E (hk5.ob hK hmo) in_Model rfl 5 (by decide) w_1006 rfl rfl d_Model_product_125 ?_
          refine lv_iload hx hb d_Model_product_128 (lv_at hl 0 rfl) ?_
          refine q_lald (N := 32) (f := f1) E hf j rfl (by omega) (by decide) d_Model_product_130 ?_
          refine lv_topl (fun v ev => ?_)
          rw [← ev] at hTj hv0
          refine lv_lstore (lv' := [(6, .long v), (5, .int (nI j)), (4, .int (nI c4)), (0, .ref mo), (1, .int (nI r))]) hx hb d_Model_product_131 hl (by decide) rfl (fun ls hl => ?_)
          refine lv_aload_n hx hb d_Model_product_133 rfl (lv_at hl 3 rfl) ?_
          refine q_get (C := "KateDeskModel") (T := T_Model) (N := 14) (ci := 8) E (hk5.ob hK hmo) in_Model rfl 5 (by decide) w_1006 rfl rfl d_Model_product_134 ?_
          refine lv_iload hx hb d_Model_product_137 (lv_at hl 1 rfl) ?_
          refine lv_lconst (v := 0) hx hb d_Model_product_139 (by decide) ?_
          refine q_last E hf hn05 hF j rfl (by omega) (by decide) d_Model_product_140 (fun H1 locs hq hf2 hF => ?_)
          have hk5 := hk5.tr hq
          have hTe : TS (vp_updL f1 j 0) (j + 1) (2 * n + 1 - (j + 1)) = TS f1 (j + 1) (2 * n + 1 - (j + 1)) := TS_ext (fun k h1 h2 => by simp only [vp_updL, show k ≠ j by omega, if_false])
          refine lv_iconst (v := nI 0) hx hb d_Model_product_141 (by decide) ?_
          refine lv_istore (lv' := [(8, .int (nI 0)), (6, .long v), (5, .int (nI j)), (4, .int (nI c4)), (0, .ref mo), (1, .int (nI r))]) hx hb d_Model_product_142 hl (by decide) rfl (fun ls hl => ?_)
          have hl : lv_has ls 9 [(8, .int (nI 0)), (6, .long v), (5, .int (nI j)), (4, .int (nI c4)), (0, .ref mo), (1, .int (nI r))] := lv_sub hl [0, 1, 2, 3, 4, 5] rfl
          by_cases hv1 : 1 ≤ v.toInt
          · skip
            have inner : ∀ (k3 : Nat) (i : Nat) (H : Heap) (locs : List Loc) (ls : Array Slot) (f2 : Nat → Int64), i + k3 = n → KJ g (fun q => q = mo + 5) s.heap H → AJ g H (mo + 5) 32 f2 → (∀ k, k < i → (f2 k).toInt = (f1 k).toInt + v.toInt * (fa (210 * w + 14 * (j - n) + k)).toInt) → (∀ k, i ≤ k → f2 k = vp_updL f1 j 0 k) → (∀ q ∈ locs, n0 q.base) → lv_has ls 9 [(8, .int (nI i)), (6, .long v), (5, .int (nI j)), (4, .int (nI c4)), (0, .ref mo), (1, .int (nI r))] → W p l e { frames := 2, cells := 0, slots := 0, locals := 51 } s m [.ref mo, .int (nI r), .int (nI a), .int (nI b)].toArray below meth c H locs 0 0 (MQ below (QcP (QV (fun H H' => KJ g (fun q => q = mo + 1 ∨ q = mo + 5) H H' ∧ ∃ fd', MS g n0 H' mo th pw td wr w n fd' ∧ PV fd fd' r n ∧ SV fd' r n = (SV fd a n * SV fd b n) % PP w n))) [.ref mo, .int (nI r), .int (nI a), .int (nI b)].toArray s 0 0 (fun q => n0 q)) (F0 m 144 ls []) := by
              intro k3
              induction k3 with
              | zero =>
                intro  i   H   locs   ls   f2 hi hk5 hf hlow hge hF hl
                obtain rfl : n = i := by omega
                refine lv_iload hx hb d_Model_product_144 (lv_at hl 0 rfl) ?_
                refine lv_aload_n hx hb d_Model_product_146 rfl (lv_at hl 4 rfl) ?_
                refine q_get (C := "KateDeskModel") (T := T_Model) (N := 14) (ci := 8) E (hk5.ob hK hmo) in_Model rfl 7 (by decide) w_1008 rfl rfl d_Model_product_147 ?_
                refine lv_icmp_ge (tgt := 206) hx hb d_Model_product_150 (by decide) (fun _ => ?_) (fun h9 => absurd (nI_le (Nat.le_refl _) (by omega)) h9)
                refine lv_iinc (k := 2) (v := nI (j + 1)) (lv' := [(5, .int (nI (j + 1))), (8, .int (nI n)), (6, .long v), (4, .int (nI c4)), (0, .ref mo), (1, .int (nI r))]) hx hb d_Model_product_206 hl rfl (i_inc j) (by decide) rfl (fun ls hl => ?_)
                refine lv_goto (tgt := 113) hx hb d_Model_product_209 (by decide) ?_
                have hl : lv_has ls 9 [(5, .int (nI (j + 1))), (4, .int (nI c4)), (0, .ref mo), (1, .int (nI r))] := lv_sub hl [0, 3, 4, 5] rfl
                have hR : 0 ≤ VL (fun k => fa (210 * w + 14 * (j - n) + k)) n ∧ VL (fun k => fa (210 * w + 14 * (j - n) + k)) n < 268435456 ^ n := VL_range (fun k hk1 => had _ (by omega))
                have hV2 : VL f2 n = VL f1 n + v.toInt * VL (fun k => fa (210 * w + 14 * (j - n) + k)) n := VL_addq (h := fun k => fa (210 * w + 14 * (j - n) + k)) hlow
                have hT2 : TS f2 (j + 1) (2 * n + 1 - (j + 1)) = TS f1 (j + 1) (2 * n + 1 - (j + 1)) := (TS_ext (fun k h1 h2 => hge k (by omega))).trans hTe
                refine ih2 (j + 1) (u + v.toInt) _ _ ls f2 (by omega) (by omega) (by omega) hk5 hf (by rw [hT2]; omega) (fun k hk1 => ?_) (by rw [hV2]; exact vr_le2 hv0 hR hVu) (fun k h1 h2 => ?_) (fun k h1 h2 => ?_) (by rw [VL_fold (N := 2 * n + 1) (by omega) (by omega) (by omega) hV2 (fun k h => hge k h), ← ev]; exact dv2 hVI (by have h9 := hAT (j - n) (by omega); rw [show n + (j - n) = j by omega] at h9; exact h9)) hF hl
                · have h1 := hlim k hk1
                  have h2 := vdm hv0 (had (210 * w + 14 * (j - n) + k) (by omega))
                  rw [hlow k hk1]
                  omega
                · rw [hge k (by omega)]; simp only [vp_updL, show k ≠ j by omega, if_false]; exact htp k (by omega) h2
                · rw [hge k (by omega)]
                  by_cases e : k = j
                  · simp only [vp_updL, e, if_true]; decide
                  · simp only [vp_updL, e, if_false]; exact hzz k h1 (by omega)
              | succ k3 ih3 =>
                intro  i   H   locs   ls   f2 hi hk5 hf hlow hge hF hl
                refine lv_iload hx hb d_Model_product_144 (lv_at hl 0 rfl) ?_
                refine lv_aload_n hx hb d_Model_product_146 rfl (lv_at hl 4 rfl) ?_
                refine q_get (C := "KateDeskModel") (T := T_Model) (N := 14) (ci := 8) E (hk5.ob hK hmo) in_Model rfl 7 (by decide) w_1008 rfl rfl d_Model_product_147 ?_
                refine lv_icmp_ge (tgt := 206) hx hb d_Model_product_150 (by decide) (fun h9 => absurd h9 (nI_ge (by omega) (by omega))) (fun _ => ?_)
                refine lv_lload hx hb d_Model_product_153 (lv_at hl 1 rfl) ?_
                refine lv_lconst (v := 0) hx hb d_Model_product_155 (by decide) ?_
                refine W.lcmp hx hb d_Model_product_156 ?_
                refine lv_if_le (tgt := 206) hx hb d_Model_product_157 (by decide) (fun h9 => absurd h9 (cmp_pos hv1)) (fun _ => ?_)
                refine lv_aload_n hx hb d_Model_product_160 rfl (lv_at hl 4 rfl) ?_
                refine q_get (C := "KateDeskModel") (T := T_Model) (N := 14) (ci := 8) E (hk5.ob hK hmo) in_Model rfl 5 (by decide) w_1006 rfl rfl d_Model_product_161 ?_
                refine lv_iload hx hb d_Model_product_164 (lv_at hl 0 rfl) ?_
                refine lv_dup2_11 hx hb d_Model_product_166 rfl rfl ?_
                refine q_lald (N := 32) (f := f2) E hf i rfl (by omega) (by decide) d_Model_product_167 ?_
                refine lv_lload hx hb d_Model_product_168 (lv_at hl 1 rfl) ?_
                refine lv_aload_n hx hb d_Model_product_170 rfl (lv_at hl 4 rfl) ?_
                refine q_get (C := "KateDeskModel") (T := T_Model) (N := 14) (ci := 8) E (hk5.ob hK hmo) in_Model rfl 4 (by decide) w_1005 rfl rfl d_Model_product_171 ?_
                refine lv_sipush (v := nI 210) hx hb d_Model_product_174 (by decide) ?_
                refine lv_aload_n hx hb d_Model_product_177 rfl (lv_at hl 4 rfl) ?_
                refine q_get (C := "KateDeskModel") (T := T_Model) (N := 14) (ci := 8) E (hk5.ob hK hmo) in_Model rfl 6 (by decide) w_1007 rfl rfl d_Model_product_178 ?_
                refine lv_imul hx hb d_Model_product_181 ?_
                refine lv_bipush (v := nI 14) hx hb d_Model_product_182 (by decide) ?_
                refine lv_iload hx hb d_Model_product_184 (lv_at hl 2 rfl) ?_
                refine lv_aload_n hx hb d_Model_product_186 rfl (lv_at hl 4 rfl) ?_
                refine q_get (C := "KateDeskModel") (T := T_Model) (N := 14) (ci := 8) E (hk5.ob hK hmo) in_Model rfl 7 (by decide) w_1008 rfl rfl d_Model_product_187 ?_
                refine lv_isub hx hb d_Model_product_190 ?_
                refine lv_imul hx hb d_Model_product_191 ?_
                refine lv_iadd hx hb d_Model_product_192 ?_
                refine lv_iload hx hb d_Model_product_193 (lv_at hl 0 rfl) ?_
                refine lv_iadd hx hb d_Model_product_195 ?_
                have hai : (((nI 210) * (nI w)) + ((nI 14) * ((nI j) - (nI n)))) + (nI i) = nI (210 * w + 14 * (j - n) + i) := by rw [pk_mul, pk_sub hnj, pk_mul, nI_add, nI_add]
                refine q_lald (N := 420) (f := fa) E (hk5.ajo (by omega) hab) (210 * w + 14 * (j - n) + i) hai (by omega) (by decide) d_Model_product_196 ?_
                refine lv_lmul hx hb d_Model_product_197 ?_
                refine lv_ladd hx hb d_Model_product_198 ?_
                refine q_last E hf hn05 hF i rfl (by omega) (by decide) d_Model_product_199 (fun H1 locs hq hf2 hF => ?_)
                have hk5 := hk5.tr hq
                have e1 : f2 i = f1 i := by rw [hge i (Nat.le_refl _)]; simp only [vp_updL, show i ≠ j by omega, if_false]
                have h1 := hlim i (by omega)
                have h2 := vdm hv0 (had (210 * w + 14 * (j - n) + i) (by omega))
                have e2 : (v * fa (210 * w + 14 * (j - n) + i)).toInt = v.toInt * (fa (210 * w + 14 * (j - n) + i)).toInt := i64_mul (by omega) (by omega)
                have e3 : (f2 i + v * fa (210 * w + 14 * (j - n) + i)).toInt = (f1 i).toInt + v.toInt * (fa (210 * w + 14 * (j - n) + i)).toInt := by rw [e1, ← e2]; exact i64_add (by rw [e2]; omega) (by rw [e2]; omega)
                refine lv_iinc (k := 0) (v := nI (i + 1)) (lv' := [(8, .int (nI (i + 1))), (6, .long v), (5, .int (nI j)), (4, .int (nI c4)), (0, .ref mo), (1, .int (nI r))]) hx hb d_Model_product_200 hl rfl (i_inc i) (by decide) rfl (fun ls hl => ?_)
                refine lv_goto (tgt := 144) hx hb d_Model_product_203 (by decide) ?_
                have hl : lv_has ls 9 [(8, .int (nI (i + 1))), (6, .long v), (5, .int (nI j)), (4, .int (nI c4)), (0, .ref mo), (1, .int (nI r))] := lv_sub hl [0, 1, 2, 3, 4, 5] rfl
                exact ih3 (i + 1) H1 _ ls _ (by omega) hk5 hf2 (fun k hk1 => by by_cases e : k = i; (subst e; simp only [vp_updL, if_true]; exact e3); (simp only [vp_updL, e, if_false]; exact hlow k (by omega))) (fun j2 hj => by simp only [vp_updL, show j2 ≠ i by omega, if_false]; exact hge j2 (by omega)) hF hl
            exact inner n 0 _ _ ls _ (by omega) hk5 hf2 (fun k hk1 => absurd hk1 (Nat.not_lt_zero _)) (fun _ _ => rfl) hF hl
          · skip
            have hvz : v = 0 := i64_eq_of (by rw [show (0 : Int64).toInt = 0 by decide]; omega)
            refine lv_iload hx hb d_Model_product_144 (lv_at hl 0 rfl) ?_
            refine lv_aload_n hx hb d_Model_product_146 rfl (lv_at hl 4 rfl) ?_
            refine q_get (C := "KateDeskModel") (T := T_Model) (N := 14) (ci := 8) E (hk5.ob hK hmo) in_Model rfl 7 (by decide) w_1008 rfl rfl d_Model_product_147 ?_
            refine lv_icmp_ge (tgt := 206) hx hb d_Model_product_150 (by decide) (fun h9 => absurd h9 (nI_ge (by omega) (by omega))) (fun _ => ?_)
            refine lv_lload hx hb d_Model_product_153 (lv_at hl 1 rfl) ?_
            refine lv_lconst (v := 0) hx hb d_Model_product_155 (by decide) ?_
            refine W.lcmp hx hb d_Model_product_156 ?_
            refine lv_if_le (tgt := 206) hx hb d_Model_product_157 (by decide) (fun _ => ?_) (fun h9 => absurd (by rw [hvz]; decide) h9)
            refine lv_iinc (k := 2) (v := nI (j + 1)) (lv' := [(5, .int (nI (j + 1))), (8, .int (nI 0)), (6, .long v), (4, .int (nI c4)), (0, .ref mo), (1, .int (nI r))]) hx hb d_Model_product_206 hl rfl (i_inc j) (by decide) rfl (fun ls hl => ?_)
            refine lv_goto (tgt := 113) hx hb d_Model_product_209 (by decide) ?_
            have hl : lv_has ls 9 [(5, .int (nI (j + 1))), (4, .int (nI c4)), (0, .ref mo), (1, .int (nI r))] := lv_sub hl [0, 3, 4, 5] rfl
            refine ih2 (j + 1) u _ _ ls _ (by omega) (by omega) hu0 hk5 hf2 (by rw [hTe]; omega) (fun k hk1 => by simp only [vp_updL, show k ≠ j by omega, if_false]; exact hlim k hk1) (by rw [VL_upd_ge hnj]; exact hVu) (fun k h1 h2 => by simp only [vp_updL, show k ≠ j by omega, if_false]; exact htp k (by omega) h2) (fun k h1 h2 => ?_) (by rw [VL_upd_lt (show j < 2 * n + 1 by omega), ← ev, hvz, show (0 : Int64).toInt - (0 : Int64).toInt = 0 by decide, Int.zero_mul, Int.add_zero]; exact hVI) hF hl
            by_cases e : k = j
            · simp only [vp_updL, e, if_true]; decide
            · simp only [vp_updL, e, if_false]; exact hzz k h1 (by omega)
      exact el (n + 1) n 0 _ _ ls f1 (by omega) (Nat.le_refl _) (Int.le_refl _) hk5 hf (by rw [show 2 * n + 1 - n = n + 1 by omega]; omega) (fun k hk1 => by have h1 := hdf k hk1; unfold dg at h1; omega) (by have := (VL_range hdf).2; omega) htp (fun k h1 h2 => absurd h2 (by omega)) hVI hF hl
  have bl : ∀ (k : Nat) (i : Nat) (H : Heap) (locs : List Loc) (ls : Array Slot) (f1 : Nat → Int64), i + k = n → KJ g (fun q => q = mo + 5) s.heap H → AJ g H (mo + 5) 32 f1 → (∀ k, k ≤ 2 * n → 0 ≤ (f1 k).toInt ∧ (f1 k).toInt ≤ ((i : Nat) : Int) * 72057594037927936) → VL f1 (2 * n) = VL (fun k => fd (14 * a + k)) i * VL (fun k => fd (14 * b + k)) n → f1 (2 * n) = 0 → (∀ q ∈ locs, n0 q.base) → lv_has ls 9 [(4, .int (nI i)), (0, .ref mo), (1, .int (nI r)), (2, .int (nI a)), (3, .int (nI b))] → W p l e { frames := 2, cells := 0, slots := 0, locals := 51 } s m [.ref mo, .int (nI r), .int (nI a), .int (nI b)].toArray below meth c H locs 0 0 (MQ below (QcP (QV (fun H H' => KJ g (fun q => q = mo + 1 ∨ q = mo + 5) H H' ∧ ∃ fd', MS g n0 H' mo th pw td wr w n fd' ∧ PV fd fd' r n ∧ SV fd' r n = (SV fd a n * SV fd b n) % PP w n))) [.ref mo, .int (nI r), .int (nI a), .int (nI b)].toArray s 0 0 (fun q => n0 q)) (F0 m 27 ls []) := by
    intro k
    induction k with
    | zero =>
      intro  i   H   locs   ls   f1 hi hk5 hf hlim hV htop hF hl
      obtain rfl : n = i := by omega
      refine lv_iload hx hb d_Model_product_27 (lv_at hl 0 rfl) ?_
      refine lv_aload_n hx hb d_Model_product_29 rfl (lv_at hl 1 rfl) ?_
      refine q_get (C := "KateDeskModel") (T := T_Model) (N := 14) (ci := 8) E (hk5.ob hK hmo) in_Model rfl 7 (by decide) w_1008 rfl rfl d_Model_product_30 ?_
      refine lv_icmp_ge (tgt := 88) hx hb d_Model_product_33 (by decide) (fun _ => ?_) (fun h9 => absurd (nI_le (Nat.le_refl _) (by omega)) h9)
      refine lv_aload_n hx hb d_Model_product_88 rfl (lv_at hl 1 rfl) ?_
      refine lv_iconst (v := nI 2) hx hb d_Model_product_89 (by decide) ?_
      refine lv_aload_n hx hb d_Model_product_90 rfl (lv_at hl 1 rfl) ?_
      refine q_get (C := "KateDeskModel") (T := T_Model) (N := 14) (ci := 8) E (hk5.ob hK hmo) in_Model rfl 7 (by decide) w_1008 rfl rfl d_Model_product_91 ?_
      refine lv_imul hx hb d_Model_product_94 ?_
      refine lv_topi (fun t9 e9 => ?_)
      obtain rfl : t9 = nI (2 * n) := e9.trans (pk_mul _ _)
      refine q_cV (rest := []) E (c_Model_carries l g n0 mo (2 * n) th (nI w) (nI n) pw td wr f1 (by omega) (fun k hk1 => by have h1 := hlim k hk1; omega)) w_983 w_15 w_980 w_982 (bw_s 19 rfl) hd_Model_carries rfl ⟨by decide, by decide⟩ (OB.recv E.2.2.2.2.2 (by rfl) (hk5.ob hK hmo)) (⟨hk5.ob hK hmo, hf, hn05⟩) hF hl.1 rfl (Nat.le_of_ble_eq_true rfl) d_Model_product_95 ⟨by decide, by decide⟩ (qv (fun H1 locs hq hF => ?_))
      obtain ⟨hq, f3, hf3, hd3, hV3, hj3, hb3⟩ := hq
      have hk5 := hk5.tr hq
      rw [htop, show (0 : Int64).toInt = 0 by decide, Int.zero_mul, Int.add_zero, hV] at hV3
      obtain ⟨h4, h5⟩ := carry0 (pw_pos _) (VL_range hd3) hST hV3
      refine lv_iconst (v := nI 0) hx hb d_Model_product_98 (by decide) ?_
      refine lv_istore (lv' := [(4, .int (nI 0)), (0, .ref mo), (1, .int (nI r)), (2, .int (nI a)), (3, .int (nI b))]) hx hb d_Model_product_99 hl (by decide) rfl (fun ls hl => ?_)
      have hl : lv_has ls 9 [(4, .int (nI 0)), (0, .ref mo), (1, .int (nI r))] := lv_sub hl [0, 1, 2] rfl
      have h6 : ∀ k, n ≤ k → k ≤ 2 * n → 0 ≤ (f3 k).toInt ∧ (f3 k).toInt ≤ 268435456 := fun k h7 h8 => by
        by_cases e : k = 2 * n
        · rw [e, h4]; decide
        · have h9 := hd3 k (by omega); unfold dg at h9; omega
      refine dl 4 0 _ _ ls f3 (by omega) hk5 hf3 (fun k hk1 => hd3 k (by omega)) (fun k h7 h8 => (h6 k h7 h8).1) ?_ (fun h => absurd h (by decide)) (by show PP w n ∣ VL f3 (2 * n) + (f3 (2 * n)).toInt * 268435456 ^ (2 * n) - _; rw [h4, h5, Int.zero_mul, Int.add_zero, Int.sub_self]; exact Int.dvd_zero _) hF hl
      have h9 := TS_le (f := f3) (m := n + 1) (j := n) (fun k h7 h8 => (h6 k h7 (by omega)).2)
      omega
    | succ k ih =>
      intro  i   H   locs   ls   f1 hi hk5 hf hlim hV htop hF hl
      refine lv_iload hx hb d_Model_product_27 (lv_at hl 0 rfl) ?_
      refine lv_aload_n hx hb d_Model_product_29 rfl (lv_at hl 1 rfl) ?_
      refine q_get (C := "KateDeskModel") (T := T_Model) (N := 14) (ci := 8) E (hk5.ob hK hmo) in_Model rfl 7 (by decide) w_1008 rfl rfl d_Model_product_30 ?_
      refine lv_icmp_ge (tgt := 88) hx hb d_Model_product_33 (by decide) (fun h9 => absurd h9 (nI_ge (by omega) (by omega))) (fun _ => ?_)
      refine lv_iconst (v := nI 0) hx hb d_Model_product_36 (by decide) ?_
      refine lv_istore (lv' := [(5, .int (nI 0)), (4, .int (nI i)), (0, .ref mo), (1, .int (nI r)), (2, .int (nI a)), (3, .int (nI b))]) hx hb d_Model_product_37 hl (by decide) rfl (fun ls hl => ?_)
      have hl : lv_has ls 9 [(5, .int (nI 0)), (4, .int (nI i)), (0, .ref mo), (1, .int (nI r)), (2, .int (nI a)), (3, .int (nI b))] := lv_sub hl [0, 1, 2, 3, 4, 5] rfl
      have cl : ∀ (k2 : Nat) (j : Nat) (H : Heap) (locs : List Loc) (ls : Array Slot) (f2 : Nat → Int64), j + k2 = n → KJ g (fun q => q = mo + 5) s.heap H → AJ g H (mo + 5) 32 f2 → (∀ k, k ≤ 2 * n → 0 ≤ (f2 k).toInt ∧ (f2 k).toInt ≤ (((i + 1) : Nat) : Int) * 72057594037927936 ∧ (i + j ≤ k → (f2 k).toInt ≤ ((i : Nat) : Int) * 72057594037927936)) → VL f2 (2 * n) = VL (fun k => fd (14 * a + k)) i * VL (fun k => fd (14 * b + k)) n + (fd (14 * a + i)).toInt * VL (fun k => fd (14 * b + k)) j * 268435456 ^ i → f2 (2 * n) = 0 → (∀ q ∈ locs, n0 q.base) → lv_has ls 9 [(5, .int (nI j)), (4, .int (nI i)), (0, .ref mo), (1, .int (nI r)), (2, .int (nI a)), (3, .int (nI b))] → W p l e { frames := 2, cells := 0, slots := 0, locals := 51 } s m [.ref mo, .int (nI r), .int (nI a), .int (nI b)].toArray below meth c H locs 0 0 (MQ below (QcP (QV (fun H H' => KJ g (fun q => q = mo + 1 ∨ q = mo + 5) H H' ∧ ∃ fd', MS g n0 H' mo th pw td wr w n fd' ∧ PV fd fd' r n ∧ SV fd' r n = (SV fd a n * SV fd b n) % PP w n))) [.ref mo, .int (nI r), .int (nI a), .int (nI b)].toArray s 0 0 (fun q => n0 q)) (F0 m 39 ls []) := by
        intro k2
        induction k2 with
        | zero =>
          intro  j   H   locs   ls   f2 hi hk5 hf hlim hV2 htop hF hl
          obtain rfl : n = j := by omega
          refine lv_iload hx hb d_Model_product_39 (lv_at hl 0 rfl) ?_
          refine lv_aload_n hx hb d_Model_product_41 rfl (lv_at hl 2 rfl) ?_
          refine q_get (C := "KateDeskModel") (T := T_Model) (N := 14) (ci := 8) E (hk5.ob hK hmo) in_Model rfl 7 (by decide) w_1008 rfl rfl d_Model_product_42 ?_
          refine lv_icmp_ge (tgt := 82) hx hb d_Model_product_45 (by decide) (fun _ => ?_) (fun h9 => absurd (nI_le (Nat.le_refl _) (by omega)) h9)
          refine lv_iinc (k := 1) (v := nI (i + 1)) (lv' := [(4, .int (nI (i + 1))), (5, .int (nI n)), (0, .ref mo), (1, .int (nI r)), (2, .int (nI a)), (3, .int (nI b))]) hx hb d_Model_product_82 hl rfl (i_inc i) (by decide) rfl (fun ls hl => ?_)
          refine lv_goto (tgt := 27) hx hb d_Model_product_85 (by decide) ?_
          have hl : lv_has ls 9 [(4, .int (nI (i + 1))), (0, .ref mo), (1, .int (nI r)), (2, .int (nI a)), (3, .int (nI b))] := lv_sub hl [0, 2, 3, 4, 5] rfl
          exact ih (i + 1) _ _ ls f2 (by omega) hk5 hf (fun k hk1 => by have h1 := hlim k hk1; omega) (hV2.trans (by show _ = (VL (fun k => fd (14 * a + k)) i + (fd (14 * a + i)).toInt * 268435456 ^ i) * _; generalize (268435456 : Int) ^ i = b9; grind)) htop hF hl
        | succ k2 ih2 =>
          intro  j   H   locs   ls   f2 hi hk5 hf hlim hV2 htop hF hl
          refine lv_iload hx hb d_Model_product_39 (lv_at hl 0 rfl) ?_
          refine lv_aload_n hx hb d_Model_product_41 rfl (lv_at hl 2 rfl) ?_
          refine q_get (C := "KateDeskModel") (T := T_Model) (N := 14) (ci := 8) E (hk5.ob hK hmo) in_Model rfl 7 (by decide) w_1008 rfl rfl d_Model_product_42 ?_
          refine lv_icmp_ge (tgt := 82) hx hb d_Model_product_45 (by decide) (fun h9 => absurd h9 (nI_ge (by omega) (by omega))) (fun _ => ?_)
          refine lv_aload_n hx hb d_Model_product_48 rfl (lv_at hl 2 rfl) ?_
          refine q_get (C := "KateDeskModel") (T := T_Model) (N := 14) (ci := 8) E (hk5.ob hK hmo) in_Model rfl 5 (by decide) w_1006 rfl rfl d_Model_product_49 ?_
          refine lv_iload hx hb d_Model_product_52 (lv_at hl 1 rfl) ?_
          refine lv_iload hx hb d_Model_product_54 (lv_at hl 0 rfl) ?_
          refine lv_iadd hx hb d_Model_product_56 ?_
          refine lv_topi (fun t9 e9 => ?_)
          obtain rfl : t9 = nI (i + j) := e9.trans (nI_add _ _)
          refine lv_dup2_11 hx hb d_Model_product_57 rfl rfl ?_
          refine q_lald (N := 32) (f := f2) E hf (i + j) rfl (by omega) (by decide) d_Model_product_58 ?_
          refine lv_aload_n hx hb d_Model_product_59 rfl (lv_at hl 2 rfl) ?_
          refine lv_iload_n hx hb d_Model_product_60 rfl (lv_at hl 4 rfl) ?_
          refine lv_iload hx hb d_Model_product_61 (lv_at hl 1 rfl) ?_
          refine q_cV (rest := [.long (f2 (i + j)), .int (nI (i + j)), .ref (mo + 5)]) E (c_Model_limb l g n0 mo a i th (nI w) (nI n) pw td wr fd ha (by omega)) w_979 w_15 w_976 w_978 (bw_s 18 rfl) hd_Model_limb rfl ⟨by decide, by decide⟩ (OB.recv E.2.2.2.2.2 (by rfl) (hk5.ob hK hmo)) (⟨hk5.ob hK hmo, hk5.ajo (by omega) hfd⟩) hF hl.1 rfl (Nat.le_of_ble_eq_true rfl) d_Model_product_63 ⟨by decide, by decide⟩ (ql (fun v1 H1 locs hq hF => ?_))
          obtain ⟨hq, hq9⟩ := hq
          obtain rfl := hq9
          subst hq
          refine lv_aload_n hx hb d_Model_product_66 rfl (lv_at hl 2 rfl) ?_
          refine lv_iload_n hx hb d_Model_product_67 rfl (lv_at hl 5 rfl) ?_
          refine lv_iload hx hb d_Model_product_68 (lv_at hl 0 rfl) ?_
          refine q_cV (rest := [.long (fd (14 * a + i)), .long (f2 (i + j)), .int (nI (i + j)), .ref (mo + 5)]) E (c_Model_limb l g n0 mo b j th (nI w) (nI n) pw td wr fd hb1 (by omega)) w_979 w_15 w_976 w_978 (bw_s 18 rfl) hd_Model_limb rfl ⟨by decide, by decide⟩ (OB.recv E.2.2.2.2.2 (by rfl) (hk5.ob hK hmo)) (⟨hk5.ob hK hmo, hk5.ajo (by omega) hfd⟩) hF hl.1 rfl (Nat.le_of_ble_eq_true rfl) d_Model_product_70 ⟨by decide, by decide⟩ (ql (fun v2 H2 locs hq hF => ?_))
          obtain ⟨hq, hq9⟩ := hq
          obtain rfl := hq9
          subst hq
          refine lv_lmul hx hb d_Model_product_73 ?_
          refine lv_ladd hx hb d_Model_product_74 ?_
          refine q_last E hf hn05 hF (i + j) rfl (by omega) (by decide) d_Model_product_75 (fun H3 locs hq hf2 hF => ?_)
          have hk5 := hk5.tr hq
          have h2 := dgm (hDD (14 * a + i) (by omega)) (hDD (14 * b + j) (by omega))
          have h1 := hlim (i + j) (by omega)
          have e2 : (fd (14 * a + i) * fd (14 * b + j)).toInt = (fd (14 * a + i)).toInt * (fd (14 * b + j)).toInt := i64_mul (by omega) (by omega)
          have e3 : (f2 (i + j) + fd (14 * a + i) * fd (14 * b + j)).toInt = (f2 (i + j)).toInt + (fd (14 * a + i)).toInt * (fd (14 * b + j)).toInt := by rw [← e2]; exact i64_add (by rw [e2]; omega) (by rw [e2]; omega)
          refine lv_iinc (k := 0) (v := nI (j + 1)) (lv' := [(5, .int (nI (j + 1))), (4, .int (nI i)), (0, .ref mo), (1, .int (nI r)), (2, .int (nI a)), (3, .int (nI b))]) hx hb d_Model_product_76 hl rfl (i_inc j) (by decide) rfl (fun ls hl => ?_)
          refine lv_goto (tgt := 39) hx hb d_Model_product_79 (by decide) ?_
          have hl : lv_has ls 9 [(5, .int (nI (j + 1))), (4, .int (nI i)), (0, .ref mo), (1, .int (nI r)), (2, .int (nI a)), (3, .int (nI b))] := lv_sub hl [0, 1, 2, 3, 4, 5] rfl
          refine ih2 (j + 1) H3 _ ls _ (by omega) hk5 hf2 (fun k hk1 => ?_) ?_ (by simp only [vp_updL, show 2 * n ≠ i + j by omega, if_false]; exact htop) hF hl
          · by_cases e : k = i + j
            · simp only [vp_updL, e, if_true]; rw [e3]; omega
            · simp only [vp_updL, e, if_false]; have h3 := hlim k hk1; omega
          · rw [VL_upd_lt (by omega), hV2, e3, Int.pow_add]
            show _ = _ + _ * (VL (fun k => fd (14 * b + k)) j + (fd (14 * b + j)).toInt * 268435456 ^ j) * _
            generalize (268435456 : Int) ^ i = b9
            generalize (268435456 : Int) ^ j = b8
            grind
      exact cl n 0 _ _ ls f1 (by omega) hk5 hf (fun k hk1 => by have h1 := hlim k hk1; omega) (by rw [hV]; simp [VL]) htop hF hl
  have al : ∀ (k : Nat) (i : Nat) (H : Heap) (locs : List Loc) (ls : Array Slot) (f1 : Nat → Int64), i + k = 32 → KJ g (fun q => q = mo + 5) s.heap H → AJ g H (mo + 5) 32 f1 → (∀ k, k < i → f1 k = 0) → (∀ q ∈ locs, n0 q.base) → lv_has ls 9 [(4, .int (nI i)), (0, .ref mo), (1, .int (nI r)), (2, .int (nI a)), (3, .int (nI b))] → W p l e { frames := 2, cells := 0, slots := 0, locals := 51 } s m [.ref mo, .int (nI r), .int (nI a), .int (nI b)].toArray below meth c H locs 0 0 (MQ below (QcP (QV (fun H H' => KJ g (fun q => q = mo + 1 ∨ q = mo + 5) H H' ∧ ∃ fd', MS g n0 H' mo th pw td wr w n fd' ∧ PV fd fd' r n ∧ SV fd' r n = (SV fd a n * SV fd b n) % PP w n))) [.ref mo, .int (nI r), .int (nI a), .int (nI b)].toArray s 0 0 (fun q => n0 q)) (F0 m 3 ls []) := by
    intro k
    induction k with
    | zero =>
      intro  i   H   locs   ls   f1 hi hk5 hf hlow hF hl
      obtain rfl : i = 32 := by omega
      refine lv_iload hx hb d_Model_product_3 (lv_at hl 0 rfl) ?_
      refine lv_bipush (v := nI 32) hx hb d_Model_product_5 (by decide) ?_
      refine lv_icmp_ge (tgt := 24) hx hb d_Model_product_7 (by decide) (fun _ => ?_) (fun h9 => absurd (by decide) h9)
      refine lv_iconst (v := nI 0) hx hb d_Model_product_24 (by decide) ?_
      refine lv_istore (lv' := [(4, .int (nI 0)), (0, .ref mo), (1, .int (nI r)), (2, .int (nI a)), (3, .int (nI b))]) hx hb d_Model_product_25 hl (by decide) rfl (fun ls hl => ?_)
      have hl : lv_has ls 9 [(4, .int (nI 0)), (0, .ref mo), (1, .int (nI r)), (2, .int (nI a)), (3, .int (nI b))] := lv_sub hl [0, 1, 2, 3, 4] rfl
      exact bl n 0 _ _ ls f1 (by omega) hk5 hf (fun k hk1 => by rw [hlow k (by omega)]; decide) ((VL_zero (fun k hk1 => hlow k (by omega))).trans (by simp [VL])) (hlow _ (by omega)) hF hl
    | succ k ih =>
      intro  i   H   locs   ls   f1 hi hk5 hf hlow hF hl
      refine lv_iload hx hb d_Model_product_3 (lv_at hl 0 rfl) ?_
      refine lv_bipush (v := nI 32) hx hb d_Model_product_5 (by decide) ?_
      refine lv_icmp_ge (tgt := 24) hx hb d_Model_product_7 (by decide) (fun h9 => absurd h9 (nI_ge (by omega) (by decide))) (fun _ => ?_)
      refine lv_aload_n hx hb d_Model_product_10 rfl (lv_at hl 1 rfl) ?_
      refine q_get (C := "KateDeskModel") (T := T_Model) (N := 14) (ci := 8) E (hk5.ob hK hmo) in_Model rfl 5 (by decide) w_1006 rfl rfl d_Model_product_11 ?_
      refine lv_iload hx hb d_Model_product_14 (lv_at hl 0 rfl) ?_
      refine lv_lconst (v := 0) hx hb d_Model_product_16 (by decide) ?_
      refine q_last E hf hn05 hF i rfl (by omega) (by decide) d_Model_product_17 (fun H1 locs hq hf2 hF => ?_)
      have hk5 := hk5.tr hq
      refine lv_iinc (k := 0) (v := nI (i + 1)) (lv' := [(4, .int (nI (i + 1))), (0, .ref mo), (1, .int (nI r)), (2, .int (nI a)), (3, .int (nI b))]) hx hb d_Model_product_18 hl rfl (i_inc i) (by decide) rfl (fun ls hl => ?_)
      refine lv_goto (tgt := 3) hx hb d_Model_product_21 (by decide) ?_
      have hl : lv_has ls 9 [(4, .int (nI (i + 1))), (0, .ref mo), (1, .int (nI r)), (2, .int (nI a)), (3, .int (nI b))] := lv_sub hl [0, 1, 2, 3, 4] rfl
      exact ih (i + 1) H1 _ ls _ (by omega) hk5 hf2 (fun k hk1 => by by_cases e : k = i; (subst e; simp only [vp_updL, if_true]); (simp only [vp_updL, e, if_false]; exact hlow k (by omega))) hF hl
  refine lv_iconst (v := nI 0) hx hb d_Model_product_0 (by decide) ?_
  refine lv_istore (lv' := [(4, .int (nI 0)), (0, .ref mo), (1, .int (nI r)), (2, .int (nI a)), (3, .int (nI b))]) hx hb d_Model_product_1 hl (by decide) rfl (fun ls hl => ?_)
  have hl : lv_has ls 9 [(4, .int (nI 0)), (0, .ref mo), (1, .int (nI r)), (2, .int (nI a)), (3, .int (nI b))] := lv_sub hl [0, 1, 2, 3, 4] rfl
  exact al 32 0 s.heap [] ls fc (by omega) KJ.rf hac (fun k hk1 => absurd hk1 (Nat.not_lt_zero _)) hF hl
