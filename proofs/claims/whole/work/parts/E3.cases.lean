set_option maxHeartbeats 4000000 in
set_option maxRecDepth 100000 in
theorem k_feed {p : Program} {l : Launch} {e : Env} {s : State} {m : MethodId} {below : List Frame} {meth : Method} {c : Code} {g : WG} {sb L : Nat} {xs : Nat → Int32} {b : Nat} {mr mq : Int64} {H : Heap} {locs : List Loc} {ls : Array Slot} {th : Int32} {pn tn wn wm i cells slots : Nat} {A : Nat → Int} (E : EV p m c code 8 s #[Value.ref sb] "KateDeskLaw" g) (hr : meth.sig.returnType = ret) (hlk : meth.locks = false) (hb0 : s.heap.size ≤ b) (hsb : sb < s.heap.size) (hxs : XS l s) (hno : va_Nc "java/lang/IllegalStateException" "java/lang/IllegalArgumentException" s) (hL : L ≤ 3072) (hi : i + 6 ≤ L) (hc : cells + 1 ≤ room_1.cells ∧ slots + 6 ≤ room_1.slots) (hN : LNX p l e s m below meth c g sb L xs b mr mq i (cells + 1) (slots + 6)) (hG : LG g s H b pn tn wn mr mq) (hM : MVP g (nMT (b + 501)) H (b + 501) th pn tn wm A) (hT : TW g H b pn tn wn wm A mr mq) (hX : va_X sb L xs s H) (hF : ∀ q ∈ locs, HXA s q.base) (hl : lv_has ls 8 [(4, .int (nI i)), (3, .ref (b + 510)), (2, .ref (b + 501)), (1, .ref b), (0, .ref sb)]) : W p l e room_1 s m #[Value.ref sb] below meth c H locs cells slots (lw_Z below #[Value.ref sb] s) (F0 m 140 ls []) := by
  have hx := E.1
  have hb := E.2.1
  have hK := E.2.2.2.2.2
  have hw0 := State.WarmedH.refl s
  obtain ⟨⟨hmr, hmq, rfl⟩, ⟨hR0, c0, m0, t0, hc0, hm0, ht0, hj0⟩, ⟨c7, m7, t7, hc7, hm7, hj7⟩, P, V, hcw, hrl⟩ := id hT
  clear hT
  have hbd := hM.2.2.2.2.2.1
  refine lv_aload_n hx hb d_Law_law_140 rfl (lv_at hl 3 rfl) ?_
  refine lv_aload_n hx hb d_Law_law_141 rfl (lv_at hl 4 rfl) ?_
  refine lv_iload hx hb d_Law_law_142 (lv_at hl 0 rfl) ?_
  refine lv_iconst (v := nI 1) hx hb d_Law_law_144 (by decide) ?_
  refine lv_iadd hx hb d_Law_law_145 ?_
  refine lv_topi (fun t9 e9 => ?_)
  obtain rfl : t9 = nI (i + 1) := e9.trans (nI_add _ _)
  refine q_xld E hX (i + 1) rfl (by omega) (by omega) d_Law_law_146 ?_
  refine lv_aload_n hx hb d_Law_law_147 rfl (lv_at hl 4 rfl) ?_
  refine lv_iload hx hb d_Law_law_148 (lv_at hl 0 rfl) ?_
  refine lv_iconst (v := nI 2) hx hb d_Law_law_150 (by decide) ?_
  refine lv_iadd hx hb d_Law_law_151 ?_
  refine lv_topi (fun t9 e9 => ?_)
  obtain rfl : t9 = nI (i + 2) := e9.trans (nI_add _ _)
  refine q_xld E hX (i + 2) rfl (by omega) (by omega) d_Law_law_152 ?_
  refine lv_i2l (v := (xs (i + 2)).toInt64) hx hb d_Law_law_153 rfl ?_
  refine lv_bipush (v := nI 32) hx hb d_Law_law_154 (by decide) ?_
  refine lv_lshl (v := ((xs (i + 2)).toInt64) <<< ((nI 32).toInt64 &&& 63)) hx hb d_Law_law_156 rfl ?_
  refine lv_aload_n hx hb d_Law_law_157 rfl (lv_at hl 4 rfl) ?_
  refine lv_iload hx hb d_Law_law_158 (lv_at hl 0 rfl) ?_
  refine lv_iconst (v := nI 3) hx hb d_Law_law_160 (by decide) ?_
  refine lv_iadd hx hb d_Law_law_161 ?_
  refine lv_topi (fun t9 e9 => ?_)
  obtain rfl : t9 = nI (i + 3) := e9.trans (nI_add _ _)
  refine q_xld E hX (i + 3) rfl (by omega) (by omega) d_Law_law_162 ?_
  refine lv_i2l (v := (xs (i + 3)).toInt64) hx hb d_Law_law_163 rfl ?_
  refine lv_ldc2 (v := 4294967295) hx hb E.2.2.2.1 (E.2.2.2.2.1 _ w_1252) d_Law_law_164 ?_
  refine lv_land hx hb d_Law_law_167 ?_
  refine lv_lor hx hb d_Law_law_168 ?_
  refine lv_aload_n hx hb d_Law_law_169 rfl (lv_at hl 1 rfl) ?_
  refine q_cSH (rest := []) E hw0 (XH_feed l g s hxs b pn tn wn mr mq hb0 (xs (i + 1)) ((((xs (i + 2)).toInt64) <<< ((nI 32).toInt64 &&& 63)) ||| (((xs (i + 3)).toInt64) &&& 4294967295)) c0 hno) w_390 w_0 w_388 w_389 hd_Law_feed rfl ⟨by decide, by decide⟩ ⟨hG, hc0⟩ hF hl.1 rfl (Nat.le_of_ble_eq_true rfl) d_Law_law_170 hc (qi (fun r5 H1 locs hq hF => ?_))
  obtain ⟨hq, hfr⟩ := hq
  have hX := hX.kept (hfr sb (Or.inl (Nat.lt_of_lt_of_le hsb hb0)))
  have hM := hM.on (fun q h1 h2 => hfr q (Or.inr (Or.inl ⟨h1, h2⟩)))
  have hm0 : AI g H1 (b + 501 + 6) 96 m0 := AI.eq hm0 (hfr _ (Or.inr (Or.inl ⟨by omega, by omega⟩)))
  have hm7 : AI g H1 (b + 501 + 7) 96 m7 := AI.eq hm7 (hfr _ (Or.inr (Or.inl ⟨by omega, by omega⟩)))
  have hcw1 := hcw.eqC hbd.1 (fun q h => hfr q (Or.inr (Or.inr (Or.inr h))))
  have hc7 : AB g H1 (b + 151) 96 c7 := hc7.eq (hfr _ (Or.inr (Or.inr (Or.inl rfl))))
  refine lv_istore (lv' := [(5, .int r5), (4, .int (nI i)), (3, .ref (b + 510)), (2, .ref (b + 501)), (1, .ref b), (0, .ref sb)]) hx hb d_Law_law_173 hl (by decide) rfl (fun ls hl => ?_)
  refine lv_aload_n hx hb d_Law_law_175 rfl (lv_at hl 3 rfl) ?_
  refine lv_aload_n hx hb d_Law_law_176 rfl (lv_at hl 5 rfl) ?_
  refine lv_iload hx hb d_Law_law_177 (lv_at hl 1 rfl) ?_
  refine lv_iconst (v := nI 1) hx hb d_Law_law_179 (by decide) ?_
  refine lv_iadd hx hb d_Law_law_180 ?_
  refine lv_topi (fun t9 e9 => ?_)
  obtain rfl : t9 = nI (i + 1) := e9.trans (nI_add _ _)
  refine q_xld E hX (i + 1) rfl (by omega) (by omega) d_Law_law_181 ?_
  refine lv_aload_n hx hb d_Law_law_182 rfl (lv_at hl 5 rfl) ?_
  refine lv_iload hx hb d_Law_law_183 (lv_at hl 1 rfl) ?_
  refine lv_iconst (v := nI 2) hx hb d_Law_law_185 (by decide) ?_
  refine lv_iadd hx hb d_Law_law_186 ?_
  refine lv_topi (fun t9 e9 => ?_)
  obtain rfl : t9 = nI (i + 2) := e9.trans (nI_add _ _)
  refine q_xld E hX (i + 2) rfl (by omega) (by omega) d_Law_law_187 ?_
  refine lv_i2l (v := (xs (i + 2)).toInt64) hx hb d_Law_law_188 rfl ?_
  refine lv_bipush (v := nI 32) hx hb d_Law_law_189 (by decide) ?_
  refine lv_lshl (v := ((xs (i + 2)).toInt64) <<< ((nI 32).toInt64 &&& 63)) hx hb d_Law_law_191 rfl ?_
  refine lv_aload_n hx hb d_Law_law_192 rfl (lv_at hl 5 rfl) ?_
  refine lv_iload hx hb d_Law_law_193 (lv_at hl 1 rfl) ?_
  refine lv_iconst (v := nI 3) hx hb d_Law_law_195 (by decide) ?_
  refine lv_iadd hx hb d_Law_law_196 ?_
  refine lv_topi (fun t9 e9 => ?_)
  obtain rfl : t9 = nI (i + 3) := e9.trans (nI_add _ _)
  refine q_xld E hX (i + 3) rfl (by omega) (by omega) d_Law_law_197 ?_
  refine lv_i2l (v := (xs (i + 3)).toInt64) hx hb d_Law_law_198 rfl ?_
  refine lv_ldc2 (v := 4294967295) hx hb E.2.2.2.1 (E.2.2.2.2.1 _ w_1252) d_Law_law_199 ?_
  refine lv_land hx hb d_Law_law_202 ?_
  refine lv_lor hx hb d_Law_law_203 ?_
  obtain ⟨w9, n9, hob⟩ := hM.ob
  refine q_cV (rest := []) E ((Z_Model_feed l g (nMF (b + 501)) (b + 501) th pn tn wn A (xs (i + 1)) ((((xs (i + 2)).toInt64) <<< ((nI 32).toInt64 &&& 63)) ||| (((xs (i + 3)).toInt64) &&& 4294967295)) m0 (nMF_c (by decide))).frI (nMF_up hb0)) w_1052 w_15 w_1049 w_1050 w_1051 hd_Model_feed rfl ⟨by decide, by decide⟩ (OB.recv E.2.2.2.2.2 (by rfl) hob) (⟨hM.toF, hm0⟩) hF hl.1 rfl (Nat.le_of_ble_eq_true rfl) d_Law_law_204 hc (qi (fun r6 H2 locs hq6 hF => ?_))
  obtain ⟨hq6, hfr6⟩ := hq6
  have hX := hX.kept (hfr6.2 sb hX.lt (nMF_n (nM_lt hb0 hsb)))
  clear hob hM
  have hm7 := ai_F7 hm7 hfr6
  rcases hq with ⟨hok, ⟨k9, e9, hf9, rfl, hA, hG, c1, hc1, hcv⟩ | ⟨hf9, rfl, hG, hc1⟩⟩ | ⟨hok, rfl, hG, hc1⟩
  · skip
    obtain ⟨h69, hM, m1, hm1, hfm⟩ : r6 = nI (tn + k9) ∧ MVP g (nMF (b + 501)) H2 (b + 501) 0 pn (tn + k9) wn A ∧ ∃ c', AI g H2 (b + 501 + 6) 96 c' ∧ fdM m0 ((((xs (i + 2)).toInt64) <<< ((nI 32).toInt64 &&& 63)) ||| (((xs (i + 3)).toInt64) &&& 4294967295)) tn k9 c' := by
      rcases hq6 with ⟨-, ⟨k8, e8, f8, h1, h2⟩ | ⟨h, -⟩⟩ | ⟨h, -⟩
      · obtain rfl := eq16 (e8.symm.trans e9) (Nat.le_trans (Nat.le_add_left _ _) f8) (Nat.le_trans (Nat.le_add_left _ _) hf9)
        exact ⟨h1, h2⟩
      · exact absurd (by rw [e9, nI_add]; exact nI_le hf9 (by decide)) h
      · exact absurd hok h
    subst h69
    have hM := hM.toT
    obtain ⟨t2, ht2, hj2⟩ := feed_t ht0 hj0 hcv hfm
    refine lv_istore (lv' := [(6, .int (nI (tn + k9))), (5, .int (nI 0)), (4, .int (nI i)), (3, .ref (b + 510)), (2, .ref (b + 501)), (1, .ref b), (0, .ref sb)]) hx hb d_Law_law_207 hl (by decide) rfl (fun ls hl => ?_)
    refine lv_aload_n hx hb d_Law_law_209 rfl (lv_at hl 4 rfl) ?_
    obtain ⟨w9, n9, hob⟩ := hM.ob
    refine q_cV (rest := []) E ((c_Model_thrown l g (nMT (b + 501)) (b + 501) 0).up (nMT_up hb0)) w_1048 w_15 w_1045 w_1046 w_1047 hd_Model_thrown rfl ⟨by decide, by decide⟩ (OB.recv E.2.2.2.2.2 (by rfl) hob) hM.th hF hl.1 rfl (Nat.le_of_ble_eq_true rfl) d_Law_law_210 hc (qi (fun r7 H3 locs hq7 hF => ?_))
    obtain ⟨rfl, hH7⟩ := hq7
    have hH7 := hH7.symm
    subst hH7
    refine lv_iload hx hb d_Law_law_213 (lv_at hl 1 rfl) ?_
    refine lv_icmp_eq (tgt := 220) hx hb d_Law_law_215 (by decide) (fun _ => ?_) (fun h9 => absurd (rfl) h9)
    refine lv_iload hx hb d_Law_law_220 (lv_at hl 1 rfl) ?_
    refine lv_if_ne (tgt := 237) hx hb d_Law_law_222 (by decide) (fun h9 => absurd (rfl) h9) (fun _ => ?_)
    refine lv_aload_n hx hb d_Law_law_225 rfl (lv_at hl 3 rfl) ?_
    refine lv_iconst (v := nI 0) hx hb d_Law_law_226 (by decide) ?_
    refine q_lald (N := 1) (f := (fun _ => (nI (tn + k9)).toInt64)) E (hA.eq (hfr6.2 (b + 510) hA.lt (nMF_n nM_510))) 0 rfl (by decide) (by decide) d_Law_law_227 ?_
    refine lv_iload hx hb d_Law_law_228 (lv_at hl 0 rfl) ?_
    refine lv_i2l (v := (nI (tn + k9)).toInt64) hx hb d_Law_law_230 rfl ?_
    refine W.lcmp hx hb d_Law_law_231 ?_
    refine lv_if_eq (tgt := 237) hx hb d_Law_law_232 (by decide) (fun _ => ?_) (fun h9 => absurd (l2i_eq rfl) h9)
    refine lv_goto (tgt := 1611) hx hb d_Law_law_237 (by decide) ?_
    have hl : lv_has ls 8 [(4, .int (nI i)), (3, .ref (b + 510)), (2, .ref (b + 501)), (1, .ref b), (0, .ref sb)] := lv_sub hl [2, 3, 4, 5, 6] rfl
    exact hN _ _ ls _ _ _ _ _ _ (hG.frq hb0 (nMF_fr hfr6)) hM (TW.mk hmr hmq hG.2.1 hfr6 (fun q h => nMF_ge h) hcw1 hbd.1 hrl hc1 hm1 ht2 hj2 hc7 hm7 hj7) hX hF hl
  · skip
    obtain ⟨hM, hm1⟩ : MVP g (nMF (b + 501)) H2 (b + 501) (nI 2) pn tn wn A ∧ AI g H2 (b + 501 + 6) 96 m0 := by
      rcases hq6 with ⟨-, ⟨k8, e8, f8, -, -⟩ | ⟨-, h⟩⟩ | ⟨h, -⟩
      · exact absurd (by rw [e8, nI_add]; exact nI_le f8 (by decide)) hf9
      · exact h
      · exact absurd hok h
    have hM := hM.toT
    refine lv_istore (lv' := [(6, .int r6), (5, .int (nI 2)), (4, .int (nI i)), (3, .ref (b + 510)), (2, .ref (b + 501)), (1, .ref b), (0, .ref sb)]) hx hb d_Law_law_207 hl (by decide) rfl (fun ls hl => ?_)
    refine lv_aload_n hx hb d_Law_law_209 rfl (lv_at hl 4 rfl) ?_
    obtain ⟨w9, n9, hob⟩ := hM.ob
    refine q_cV (rest := []) E ((c_Model_thrown l g (nMT (b + 501)) (b + 501) (nI 2)).up (nMT_up hb0)) w_1048 w_15 w_1045 w_1046 w_1047 hd_Model_thrown rfl ⟨by decide, by decide⟩ (OB.recv E.2.2.2.2.2 (by rfl) hob) hM.th hF hl.1 rfl (Nat.le_of_ble_eq_true rfl) d_Law_law_210 hc (qi (fun r7 H3 locs hq7 hF => ?_))
    obtain ⟨rfl, hH7⟩ := hq7
    have hH7 := hH7.symm
    subst hH7
    refine lv_iload hx hb d_Law_law_213 (lv_at hl 1 rfl) ?_
    refine lv_icmp_eq (tgt := 220) hx hb d_Law_law_215 (by decide) (fun _ => ?_) (fun h9 => absurd (rfl) h9)
    refine lv_iload hx hb d_Law_law_220 (lv_at hl 1 rfl) ?_
    refine lv_if_ne (tgt := 237) hx hb d_Law_law_222 (by decide) (fun _ => ?_) (fun h9 => absurd h9 (by decide))
    refine lv_goto (tgt := 1611) hx hb d_Law_law_237 (by decide) ?_
    have hl : lv_has ls 8 [(4, .int (nI i)), (3, .ref (b + 510)), (2, .ref (b + 501)), (1, .ref b), (0, .ref sb)] := lv_sub hl [2, 3, 4, 5, 6] rfl
    exact hN _ _ ls _ _ _ _ _ _ (hG.frq hb0 (nMF_fr hfr6)) hM (TW.mk hmr hmq hG.2.1 hfr6 (fun q h => nMF_ge h) hcw1 hbd.1 hrl hc1 hm1 ht0 hj0 hc7 hm7 hj7) hX hF hl
  · skip
    obtain ⟨hM, hm1⟩ : MVP g (nMF (b + 501)) H2 (b + 501) 1 pn tn wn A ∧ AI g H2 (b + 501 + 6) 96 m0 := by
      rcases hq6 with ⟨h, -⟩ | ⟨-, h⟩
      · exact absurd h hok
      · exact h
    have hM := hM.toT
    refine lv_istore (lv' := [(6, .int r6), (5, .int (nI 1)), (4, .int (nI i)), (3, .ref (b + 510)), (2, .ref (b + 501)), (1, .ref b), (0, .ref sb)]) hx hb d_Law_law_207 hl (by decide) rfl (fun ls hl => ?_)
    refine lv_aload_n hx hb d_Law_law_209 rfl (lv_at hl 4 rfl) ?_
    obtain ⟨w9, n9, hob⟩ := hM.ob
    refine q_cV (rest := []) E ((c_Model_thrown l g (nMT (b + 501)) (b + 501) 1).up (nMT_up hb0)) w_1048 w_15 w_1045 w_1046 w_1047 hd_Model_thrown rfl ⟨by decide, by decide⟩ (OB.recv E.2.2.2.2.2 (by rfl) hob) hM.th hF hl.1 rfl (Nat.le_of_ble_eq_true rfl) d_Law_law_210 hc (qi (fun r7 H3 locs hq7 hF => ?_))
    obtain ⟨rfl, hH7⟩ := hq7
    have hH7 := hH7.symm
    subst hH7
    refine lv_iload hx hb d_Law_law_213 (lv_at hl 1 rfl) ?_
    refine lv_icmp_eq (tgt := 220) hx hb d_Law_law_215 (by decide) (fun _ => ?_) (fun h9 => absurd (rfl) h9)
    refine lv_iload hx hb d_Law_law_220 (lv_at hl 1 rfl) ?_
    refine lv_if_ne (tgt := 237) hx hb d_Law_law_222 (by decide) (fun _ => ?_) (fun h9 => absurd h9 (by decide))
    refine lv_goto (tgt := 1611) hx hb d_Law_law_237 (by decide) ?_
    have hl : lv_has ls 8 [(4, .int (nI i)), (3, .ref (b + 510)), (2, .ref (b + 501)), (1, .ref b), (0, .ref sb)] := lv_sub hl [2, 3, 4, 5, 6] rfl
    exact hN _ _ ls _ _ _ _ _ _ (hG.frq hb0 (nMF_fr hfr6)) hM (TW.mk hmr hmq hG.2.1 hfr6 (fun q h => nMF_ge h) hcw1 hbd.1 hrl hc1 hm1 ht0 hj0 hc7 hm7 hj7) hX hF hl
set_option maxHeartbeats 4000000 in
set_option maxRecDepth 100000 in
theorem k_number {p : Program} {l : Launch} {e : Env} {s : State} {m : MethodId} {below : List Frame} {meth : Method} {c : Code} {g : WG} {sb L : Nat} {xs : Nat → Int32} {b : Nat} {mr mq : Int64} {H : Heap} {locs : List Loc} {ls : Array Slot} {th : Int32} {pn tn wn wm i cells slots : Nat} {A : Nat → Int} (E : EV p m c code 8 s #[Value.ref sb] "KateDeskLaw" g) (hr : meth.sig.returnType = ret) (hlk : meth.locks = false) (hb0 : s.heap.size ≤ b) (hsb : sb < s.heap.size) (hxs : XS l s) (hL : L ≤ 3072) (hi : i + 6 ≤ L) (hc : cells + 1 ≤ room_1.cells ∧ slots + 6 ≤ room_1.slots) (hN : LNX p l e s m below meth c g sb L xs b mr mq i (cells + 1) (slots + 6)) (hG : LG g s H b pn tn wn mr mq) (hM : MVP g (nMT (b + 501)) H (b + 501) th pn tn wm A) (hT : TW g H b pn tn wn wm A mr mq) (hX : va_X sb L xs s H) (hF : ∀ q ∈ locs, HXA s q.base) (hl : lv_has ls 8 [(4, .int (nI i)), (3, .ref (b + 510)), (2, .ref (b + 501)), (1, .ref b), (0, .ref sb)]) : W p l e room_1 s m #[Value.ref sb] below meth c H locs cells slots (lw_Z below #[Value.ref sb] s) (F0 m 240 ls []) := by
  have hx := E.1
  have hb := E.2.1
  have hK := E.2.2.2.2.2
  have hw0 := State.WarmedH.refl s
  obtain ⟨⟨hmr, hmq, rfl⟩, ⟨hR0, c0, m0, t0, hc0, hm0, ht0, hj0⟩, ⟨c7, m7, t7, hc7, hm7, hj7⟩, P, V, hcw, hrl⟩ := id hT
  clear hT
  have hbd := hM.2.2.2.2.2.1
  refine lv_aload_n hx hb d_Law_law_240 rfl (lv_at hl 3 rfl) ?_
  refine lv_aload_n hx hb d_Law_law_241 rfl (lv_at hl 4 rfl) ?_
  refine lv_iload hx hb d_Law_law_242 (lv_at hl 0 rfl) ?_
  refine lv_iconst (v := nI 1) hx hb d_Law_law_244 (by decide) ?_
  refine lv_iadd hx hb d_Law_law_245 ?_
  refine lv_topi (fun t9 e9 => ?_)
  obtain rfl : t9 = nI (i + 1) := e9.trans (nI_add _ _)
  refine q_xld E hX (i + 1) rfl (by omega) (by omega) d_Law_law_246 ?_
  refine lv_aload_n hx hb d_Law_law_247 rfl (lv_at hl 1 rfl) ?_
  refine q_cSH (rest := []) E hw0 (XH_number l g s hxs b pn tn wn mr mq hb0 (xs (i + 1)) A P V c0 t0 ht0 (fun j hj => (hj0 j hj).1)) w_487 w_0 w_485 w_486 hd_Law_number rfl ⟨by decide, by decide⟩ ⟨hG, hcw, hc0⟩ hF hl.1 rfl (Nat.le_of_ble_eq_true rfl) d_Law_law_248 hc (qi (fun r5 H1 locs hq hF => ?_))
  obtain ⟨hq, hfr⟩ := hq
  have hX := hX.kept (hfr sb (Or.inl (Nat.lt_of_lt_of_le hsb hb0)))
  have hM := hM.on (fun q h1 h2 => hfr q (Or.inr (Or.inl ⟨h1, h2⟩)))
  have hm0 : AI g H1 (b + 501 + 6) 96 m0 := AI.eq hm0 (hfr _ (Or.inr (Or.inl ⟨by omega, by omega⟩)))
  have hm7 : AI g H1 (b + 501 + 7) 96 m7 := AI.eq hm7 (hfr _ (Or.inr (Or.inl ⟨by omega, by omega⟩)))
  have hc0 : AB g H1 (b + 149) 96 c0 := hc0.eq (hfr _ (Or.inr (Or.inr (Or.inl rfl))))
  have hc7 : AB g H1 (b + 151) 96 c7 := hc7.eq (hfr _ (Or.inr (Or.inr (Or.inr rfl))))
  refine lv_istore (lv' := [(5, .int r5), (4, .int (nI i)), (3, .ref (b + 510)), (2, .ref (b + 501)), (1, .ref b), (0, .ref sb)]) hx hb d_Law_law_251 hl (by decide) rfl (fun ls hl => ?_)
  refine lv_aload_n hx hb d_Law_law_253 rfl (lv_at hl 3 rfl) ?_
  refine lv_aload_n hx hb d_Law_law_254 rfl (lv_at hl 5 rfl) ?_
  refine lv_iload hx hb d_Law_law_255 (lv_at hl 1 rfl) ?_
  refine lv_iconst (v := nI 1) hx hb d_Law_law_257 (by decide) ?_
  refine lv_iadd hx hb d_Law_law_258 ?_
  refine lv_topi (fun t9 e9 => ?_)
  obtain rfl : t9 = nI (i + 1) := e9.trans (nI_add _ _)
  refine q_xld E hX (i + 1) rfl (by omega) (by omega) d_Law_law_259 ?_
  obtain ⟨w9, n9, hob⟩ := hM.ob
  refine q_cV (rest := []) E ((YF_Model_number l g (nMT (b + 501)) (b + 501) th pn tn wn A (xs (i + 1)) m0 t0 ht0 (fun j hj => (hj0 j hj).2)).frI (nMT_up hb0)) w_1061 w_15 w_1058 w_1059 w_1060 hd_Model_number rfl ⟨by decide, by decide⟩ (OB.recv E.2.2.2.2.2 (by rfl) hob) (⟨hM, hm0⟩) hF hl.1 rfl (Nat.le_of_ble_eq_true rfl) d_Law_law_260 hc (qi (fun r6 H2 locs hq6 hF => ?_))
  obtain ⟨hq6, hfr6⟩ := hq6
  have hX := hX.kept (hfr6.2 sb hX.lt (nMT_n (nM_lt hb0 hsb)))
  clear hob hM
  have hm7 := ai_T7 hm7 hfr6
  have hm0 := ai_T6 hm0 hfr6
  rcases hq with ⟨hok, rfl, hG, rb, A1, hcw1, hnc, hA⟩ | ⟨hok, rfl, hG, hcw1⟩
  · skip
    obtain ⟨hM, h69⟩ : MVP g (nMT (b + 501)) H2 (b + 501) 0 pn 0 wn A1 ∧ r6 = rb := by
      rcases hq6 with ⟨-, B1, h, hn1⟩ | ⟨h, -⟩
      · obtain ⟨e1, rfl⟩ := hn1.eq hnc
        exact ⟨h, e1⟩
      · exact absurd hok h
    subst h69
    refine lv_istore (lv' := [(6, .int r6), (5, .int (nI 0)), (4, .int (nI i)), (3, .ref (b + 510)), (2, .ref (b + 501)), (1, .ref b), (0, .ref sb)]) hx hb d_Law_law_263 hl (by decide) rfl (fun ls hl => ?_)
    refine lv_aload_n hx hb d_Law_law_265 rfl (lv_at hl 4 rfl) ?_
    obtain ⟨w9, n9, hob⟩ := hM.ob
    refine q_cV (rest := []) E ((c_Model_thrown l g (nMT (b + 501)) (b + 501) 0).up (nMT_up hb0)) w_1048 w_15 w_1045 w_1046 w_1047 hd_Model_thrown rfl ⟨by decide, by decide⟩ (OB.recv E.2.2.2.2.2 (by rfl) hob) hM.th hF hl.1 rfl (Nat.le_of_ble_eq_true rfl) d_Law_law_266 hc (qi (fun r7 H3 locs hq7 hF => ?_))
    obtain ⟨rfl, hH7⟩ := hq7
    have hH7 := hH7.symm
    subst hH7
    refine lv_iload hx hb d_Law_law_269 (lv_at hl 1 rfl) ?_
    refine lv_icmp_eq (tgt := 276) hx hb d_Law_law_271 (by decide) (fun _ => ?_) (fun h9 => absurd (rfl) h9)
    refine lv_iload hx hb d_Law_law_276 (lv_at hl 1 rfl) ?_
    refine lv_if_ne (tgt := 300) hx hb d_Law_law_278 (by decide) (fun h9 => absurd (rfl) h9) (fun _ => ?_)
    refine lv_aload_n hx hb d_Law_law_281 rfl (lv_at hl 3 rfl) ?_
    refine lv_iconst (v := nI 0) hx hb d_Law_law_282 (by decide) ?_
    refine q_lald (N := 1) (f := (fun _ => bL r6)) E (hA.eq (hfr6.2 (b + 510) hA.lt (nMT_n nM_510))) 0 rfl (by decide) (by decide) d_Law_law_283 ?_
    refine lv_iload hx hb d_Law_law_284 (lv_at hl 0 rfl) ?_
    refine lv_if_eq (tgt := 293) hx hb d_Law_law_286 (by decide) (fun hz => ?_) (fun hz => ?_)
    · skip
      refine lv_lconst (v := 0) hx hb d_Law_law_293 (by decide) ?_
      refine W.lcmp hx hb d_Law_law_294 ?_
      refine lv_if_eq (tgt := 300) hx hb d_Law_law_295 (by decide) (fun _ => ?_) (fun h9 => absurd (l2i_eq (if_pos hz)) h9)
      refine lv_goto (tgt := 1611) hx hb d_Law_law_300 (by decide) ?_
      have hl : lv_has ls 8 [(4, .int (nI i)), (3, .ref (b + 510)), (2, .ref (b + 501)), (1, .ref b), (0, .ref sb)] := lv_sub hl [2, 3, 4, 5, 6] rfl
      exact hN _ _ ls _ _ _ _ _ _ (hG.frq hb0 (nMT_fr hfr6)) hM (TW.mk hmr hmq hG.2.1 hfr6 (fun q h => nMT_ge h) hcw1 hbd.1 (hrl.sc (nc_hi hnc (nt_S hok))) hc0 hm0 ht0 (fun j hj => absurd hj (Nat.not_lt_zero _)) hc7 hm7 hj7) hX hF hl
    · skip
      refine lv_lconst (v := 1) hx hb d_Law_law_289 (by decide) ?_
      refine lv_goto (tgt := 294) hx hb d_Law_law_290 (by decide) ?_
      refine W.lcmp hx hb d_Law_law_294 ?_
      refine lv_if_eq (tgt := 300) hx hb d_Law_law_295 (by decide) (fun _ => ?_) (fun h9 => absurd (l2i_eq (if_neg hz)) h9)
      refine lv_goto (tgt := 1611) hx hb d_Law_law_300 (by decide) ?_
      have hl : lv_has ls 8 [(4, .int (nI i)), (3, .ref (b + 510)), (2, .ref (b + 501)), (1, .ref b), (0, .ref sb)] := lv_sub hl [2, 3, 4, 5, 6] rfl
      exact hN _ _ ls _ _ _ _ _ _ (hG.frq hb0 (nMT_fr hfr6)) hM (TW.mk hmr hmq hG.2.1 hfr6 (fun q h => nMT_ge h) hcw1 hbd.1 (hrl.sc (nc_hi hnc (nt_S hok))) hc0 hm0 ht0 (fun j hj => absurd hj (Nat.not_lt_zero _)) hc7 hm7 hj7) hX hF hl
  · skip
    have hM : MVP g (nMT (b + 501)) H2 (b + 501) 1 pn tn wn A := by
      rcases hq6 with ⟨h, -⟩ | ⟨-, h⟩
      · exact absurd h hok
      · exact h
    refine lv_istore (lv' := [(6, .int r6), (5, .int (nI 1)), (4, .int (nI i)), (3, .ref (b + 510)), (2, .ref (b + 501)), (1, .ref b), (0, .ref sb)]) hx hb d_Law_law_263 hl (by decide) rfl (fun ls hl => ?_)
    refine lv_aload_n hx hb d_Law_law_265 rfl (lv_at hl 4 rfl) ?_
    obtain ⟨w9, n9, hob⟩ := hM.ob
    refine q_cV (rest := []) E ((c_Model_thrown l g (nMT (b + 501)) (b + 501) 1).up (nMT_up hb0)) w_1048 w_15 w_1045 w_1046 w_1047 hd_Model_thrown rfl ⟨by decide, by decide⟩ (OB.recv E.2.2.2.2.2 (by rfl) hob) hM.th hF hl.1 rfl (Nat.le_of_ble_eq_true rfl) d_Law_law_266 hc (qi (fun r7 H3 locs hq7 hF => ?_))
    obtain ⟨rfl, hH7⟩ := hq7
    have hH7 := hH7.symm
    subst hH7
    refine lv_iload hx hb d_Law_law_269 (lv_at hl 1 rfl) ?_
    refine lv_icmp_eq (tgt := 276) hx hb d_Law_law_271 (by decide) (fun _ => ?_) (fun h9 => absurd (rfl) h9)
    refine lv_iload hx hb d_Law_law_276 (lv_at hl 1 rfl) ?_
    refine lv_if_ne (tgt := 300) hx hb d_Law_law_278 (by decide) (fun _ => ?_) (fun h9 => absurd h9 (by decide))
    refine lv_goto (tgt := 1611) hx hb d_Law_law_300 (by decide) ?_
    have hl : lv_has ls 8 [(4, .int (nI i)), (3, .ref (b + 510)), (2, .ref (b + 501)), (1, .ref b), (0, .ref sb)] := lv_sub hl [2, 3, 4, 5, 6] rfl
    exact hN _ _ ls _ _ _ _ _ _ (hG.frq hb0 (nMT_fr hfr6)) hM (TW.mk hmr hmq hG.2.1 hfr6 (fun q h => nMT_ge h) hcw1 hbd.1 hrl hc0 hm0 ht0 hj0 hc7 hm7 hj7) hX hF hl
set_option maxHeartbeats 4000000 in
set_option maxRecDepth 100000 in
theorem k_set {p : Program} {l : Launch} {e : Env} {s : State} {m : MethodId} {below : List Frame} {meth : Method} {c : Code} {g : WG} {sb L : Nat} {xs : Nat → Int32} {b : Nat} {mr mq : Int64} {H : Heap} {locs : List Loc} {ls : Array Slot} {th : Int32} {pn tn wn wm i cells slots : Nat} {A : Nat → Int} (E : EV p m c code 8 s #[Value.ref sb] "KateDeskLaw" g) (hr : meth.sig.returnType = ret) (hlk : meth.locks = false) (hb0 : s.heap.size ≤ b) (hsb : sb < s.heap.size) (hxs : XS l s) (hL : L ≤ 3072) (hi : i + 6 ≤ L) (hc : cells + 1 ≤ room_1.cells ∧ slots + 6 ≤ room_1.slots) (hN : LNX p l e s m below meth c g sb L xs b mr mq i (cells + 1) (slots + 6)) (hG : LG g s H b pn tn wn mr mq) (hM : MVP g (nMT (b + 501)) H (b + 501) th pn tn wm A) (hT : TW g H b pn tn wn wm A mr mq) (hX : va_X sb L xs s H) (hF : ∀ q ∈ locs, HXA s q.base) (hl : lv_has ls 8 [(4, .int (nI i)), (3, .ref (b + 510)), (2, .ref (b + 501)), (1, .ref b), (0, .ref sb)]) : W p l e room_1 s m #[Value.ref sb] below meth c H locs cells slots (lw_Z below #[Value.ref sb] s) (F0 m 303 ls []) := by
  have hx := E.1
  have hb := E.2.1
  have hK := E.2.2.2.2.2
  have hw0 := State.WarmedH.refl s
  obtain ⟨⟨hmr, hmq, rfl⟩, ⟨hR0, c0, m0, t0, hc0, hm0, ht0, hj0⟩, ⟨c7, m7, t7, hc7, hm7, hj7⟩, P, V, hcw, hrl⟩ := id hT
  clear hT
  have hbd := hM.2.2.2.2.2.1
  refine lv_aload_n hx hb d_Law_law_303 rfl (lv_at hl 3 rfl) ?_
  refine lv_aload_n hx hb d_Law_law_304 rfl (lv_at hl 4 rfl) ?_
  refine lv_iload hx hb d_Law_law_305 (lv_at hl 0 rfl) ?_
  refine lv_iconst (v := nI 1) hx hb d_Law_law_307 (by decide) ?_
  refine lv_iadd hx hb d_Law_law_308 ?_
  refine lv_topi (fun t9 e9 => ?_)
  obtain rfl : t9 = nI (i + 1) := e9.trans (nI_add _ _)
  refine q_xld E hX (i + 1) rfl (by omega) (by omega) d_Law_law_309 ?_
  refine lv_aload_n hx hb d_Law_law_310 rfl (lv_at hl 4 rfl) ?_
  refine lv_iload hx hb d_Law_law_311 (lv_at hl 0 rfl) ?_
  refine lv_iconst (v := nI 2) hx hb d_Law_law_313 (by decide) ?_
  refine lv_iadd hx hb d_Law_law_314 ?_
  refine lv_topi (fun t9 e9 => ?_)
  obtain rfl : t9 = nI (i + 2) := e9.trans (nI_add _ _)
  refine q_xld E hX (i + 2) rfl (by omega) (by omega) d_Law_law_315 ?_
  refine lv_i2l (v := (xs (i + 2)).toInt64) hx hb d_Law_law_316 rfl ?_
  refine lv_bipush (v := nI 32) hx hb d_Law_law_317 (by decide) ?_
  refine lv_lshl (v := ((xs (i + 2)).toInt64) <<< ((nI 32).toInt64 &&& 63)) hx hb d_Law_law_319 rfl ?_
  refine lv_aload_n hx hb d_Law_law_320 rfl (lv_at hl 4 rfl) ?_
  refine lv_iload hx hb d_Law_law_321 (lv_at hl 0 rfl) ?_
  refine lv_iconst (v := nI 3) hx hb d_Law_law_323 (by decide) ?_
  refine lv_iadd hx hb d_Law_law_324 ?_
  refine lv_topi (fun t9 e9 => ?_)
  obtain rfl : t9 = nI (i + 3) := e9.trans (nI_add _ _)
  refine q_xld E hX (i + 3) rfl (by omega) (by omega) d_Law_law_325 ?_
  refine lv_i2l (v := (xs (i + 3)).toInt64) hx hb d_Law_law_326 rfl ?_
  refine lv_ldc2 (v := 4294967295) hx hb E.2.2.2.1 (E.2.2.2.2.1 _ w_1252) d_Law_law_327 ?_
  refine lv_land hx hb d_Law_law_330 ?_
  refine lv_lor hx hb d_Law_law_331 ?_
  refine q_cSH (rest := []) E hw0 (XH_set l g s hxs b pn tn wn mr mq hb0 (xs (i + 1)) ((((xs (i + 2)).toInt64) <<< ((nI 32).toInt64 &&& 63)) ||| (((xs (i + 3)).toInt64) &&& 4294967295)) hmr A P V) w_515 w_0 w_513 w_514 hd_Law_set rfl ⟨by decide, by decide⟩ ⟨hG, hcw⟩ hF hl.1 rfl (Nat.le_of_ble_eq_true rfl) d_Law_law_332 hc (qi (fun r5 H1 locs hq hF => ?_))
  obtain ⟨hq, hfr⟩ := hq
  have hX := hX.kept (hfr sb (Or.inl (Nat.lt_of_lt_of_le hsb hb0)))
  have hM := hM.on (fun q h1 h2 => hfr q (Or.inr (Or.inl ⟨h1, h2⟩)))
  have hm0 : AI g H1 (b + 501 + 6) 96 m0 := AI.eq hm0 (hfr _ (Or.inr (Or.inl ⟨by omega, by omega⟩)))
  have hm7 : AI g H1 (b + 501 + 7) 96 m7 := AI.eq hm7 (hfr _ (Or.inr (Or.inl ⟨by omega, by omega⟩)))
  have hc0 : AB g H1 (b + 149) 96 c0 := hc0.eq (hfr _ (Or.inr (Or.inr (Or.inl rfl))))
  have hc7 : AB g H1 (b + 151) 96 c7 := hc7.eq (hfr _ (Or.inr (Or.inr (Or.inr rfl))))
  refine lv_istore (lv' := [(5, .int r5), (4, .int (nI i)), (3, .ref (b + 510)), (2, .ref (b + 501)), (1, .ref b), (0, .ref sb)]) hx hb d_Law_law_335 hl (by decide) rfl (fun ls hl => ?_)
  refine lv_aload_n hx hb d_Law_law_337 rfl (lv_at hl 3 rfl) ?_
  refine lv_aload_n hx hb d_Law_law_338 rfl (lv_at hl 5 rfl) ?_
  refine lv_iload hx hb d_Law_law_339 (lv_at hl 1 rfl) ?_
  refine lv_iconst (v := nI 1) hx hb d_Law_law_341 (by decide) ?_
  refine lv_iadd hx hb d_Law_law_342 ?_
  refine lv_topi (fun t9 e9 => ?_)
  obtain rfl : t9 = nI (i + 1) := e9.trans (nI_add _ _)
  refine q_xld E hX (i + 1) rfl (by omega) (by omega) d_Law_law_343 ?_
  refine lv_aload_n hx hb d_Law_law_344 rfl (lv_at hl 5 rfl) ?_
  refine lv_iload hx hb d_Law_law_345 (lv_at hl 1 rfl) ?_
  refine lv_iconst (v := nI 2) hx hb d_Law_law_347 (by decide) ?_
  refine lv_iadd hx hb d_Law_law_348 ?_
  refine lv_topi (fun t9 e9 => ?_)
  obtain rfl : t9 = nI (i + 2) := e9.trans (nI_add _ _)
  refine q_xld E hX (i + 2) rfl (by omega) (by omega) d_Law_law_349 ?_
  refine lv_i2l (v := (xs (i + 2)).toInt64) hx hb d_Law_law_350 rfl ?_
  refine lv_bipush (v := nI 32) hx hb d_Law_law_351 (by decide) ?_
  refine lv_lshl (v := ((xs (i + 2)).toInt64) <<< ((nI 32).toInt64 &&& 63)) hx hb d_Law_law_353 rfl ?_
  refine lv_aload_n hx hb d_Law_law_354 rfl (lv_at hl 5 rfl) ?_
  refine lv_iload hx hb d_Law_law_355 (lv_at hl 1 rfl) ?_
  refine lv_iconst (v := nI 3) hx hb d_Law_law_357 (by decide) ?_
  refine lv_iadd hx hb d_Law_law_358 ?_
  refine lv_topi (fun t9 e9 => ?_)
  obtain rfl : t9 = nI (i + 3) := e9.trans (nI_add _ _)
  refine q_xld E hX (i + 3) rfl (by omega) (by omega) d_Law_law_359 ?_
  refine lv_i2l (v := (xs (i + 3)).toInt64) hx hb d_Law_law_360 rfl ?_
  refine lv_ldc2 (v := 4294967295) hx hb E.2.2.2.1 (E.2.2.2.2.1 _ w_1252) d_Law_law_361 ?_
  refine lv_land hx hb d_Law_law_364 ?_
  refine lv_lor hx hb d_Law_law_365 ?_
  obtain ⟨w9, n9, hob⟩ := hM.ob
  refine q_cV (rest := []) E ((YF_Model_set l g (nMT (b + 501)) (b + 501) th pn tn wn A (xs (i + 1)) ((((xs (i + 2)).toInt64) <<< ((nI 32).toInt64 &&& 63)) ||| (((xs (i + 3)).toInt64) &&& 4294967295))).frV (nMT_up hb0)) w_1080 w_15 w_1077 w_1078 w_1079 hd_Model_set rfl ⟨by decide, by decide⟩ (OB.recv E.2.2.2.2.2 (by rfl) hob) hM hF hl.1 rfl (Nat.le_of_ble_eq_true rfl) d_Law_law_366 hc (qv (fun H2 locs hq6 hF => ?_))
  obtain ⟨hq6, hfr6⟩ := hq6
  have hX := hX.kept (hfr6.2 sb hX.lt (nMT_n (nM_lt hb0 hsb)))
  clear hob hM
  have hm7 := ai_T7 hm7 hfr6
  have hm0 := ai_T6 hm0 hfr6
  rcases hq with ⟨hok, rfl, hG, hcw1⟩ | ⟨hok, rfl, hG, hcw1⟩
  · skip
    have hM : MVP g (nMT (b + 501)) H2 (b + 501) 0 pn tn wn (fSet (xs (i + 1)) ((((xs (i + 2)).toInt64) <<< ((nI 32).toInt64 &&& 63)) ||| (((xs (i + 3)).toInt64) &&& 4294967295)) A) := by
      rcases hq6 with ⟨-, h⟩ | ⟨h, -⟩
      · exact h
      · exact absurd hok h
    refine lv_aload_n hx hb d_Law_law_369 rfl (lv_at hl 3 rfl) ?_
    obtain ⟨w9, n9, hob⟩ := hM.ob
    refine q_cV (rest := []) E ((c_Model_thrown l g (nMT (b + 501)) (b + 501) 0).up (nMT_up hb0)) w_1048 w_15 w_1045 w_1046 w_1047 hd_Model_thrown rfl ⟨by decide, by decide⟩ (OB.recv E.2.2.2.2.2 (by rfl) hob) hM.th hF hl.1 rfl (Nat.le_of_ble_eq_true rfl) d_Law_law_370 hc (qi (fun r7 H3 locs hq7 hF => ?_))
    obtain ⟨rfl, hH7⟩ := hq7
    have hH7 := hH7.symm
    subst hH7
    refine lv_iload hx hb d_Law_law_373 (lv_at hl 0 rfl) ?_
    refine lv_icmp_eq (tgt := 380) hx hb d_Law_law_375 (by decide) (fun _ => ?_) (fun h9 => absurd (rfl) h9)
    refine lv_goto (tgt := 1611) hx hb d_Law_law_380 (by decide) ?_
    have hl : lv_has ls 8 [(4, .int (nI i)), (3, .ref (b + 510)), (2, .ref (b + 501)), (1, .ref b), (0, .ref sb)] := lv_sub hl [1, 2, 3, 4, 5] rfl
    exact hN _ _ ls _ _ _ _ _ _ (hG.frq hb0 (nMT_fr hfr6)) hM (TW.mk hmr hmq hG.2.1 hfr6 (fun q h => nMT_ge h) hcw1 hbd.1 (hrl.sc (uI_hi (nt_S hok.1))) hc0 hm0 ht0 hj0 hc7 hm7 hj7) hX hF hl
  · skip
    have hM : MVP g (nMT (b + 501)) H2 (b + 501) 1 pn tn wn A := by
      rcases hq6 with ⟨h, -⟩ | ⟨-, h⟩
      · exact absurd h hok
      · exact h
    refine lv_aload_n hx hb d_Law_law_369 rfl (lv_at hl 3 rfl) ?_
    obtain ⟨w9, n9, hob⟩ := hM.ob
    refine q_cV (rest := []) E ((c_Model_thrown l g (nMT (b + 501)) (b + 501) 1).up (nMT_up hb0)) w_1048 w_15 w_1045 w_1046 w_1047 hd_Model_thrown rfl ⟨by decide, by decide⟩ (OB.recv E.2.2.2.2.2 (by rfl) hob) hM.th hF hl.1 rfl (Nat.le_of_ble_eq_true rfl) d_Law_law_370 hc (qi (fun r7 H3 locs hq7 hF => ?_))
    obtain ⟨rfl, hH7⟩ := hq7
    have hH7 := hH7.symm
    subst hH7
    refine lv_iload hx hb d_Law_law_373 (lv_at hl 0 rfl) ?_
    refine lv_icmp_eq (tgt := 380) hx hb d_Law_law_375 (by decide) (fun _ => ?_) (fun h9 => absurd (rfl) h9)
    refine lv_goto (tgt := 1611) hx hb d_Law_law_380 (by decide) ?_
    have hl : lv_has ls 8 [(4, .int (nI i)), (3, .ref (b + 510)), (2, .ref (b + 501)), (1, .ref b), (0, .ref sb)] := lv_sub hl [1, 2, 3, 4, 5] rfl
    exact hN _ _ ls _ _ _ _ _ _ (hG.frq hb0 (nMT_fr hfr6)) hM (TW.mk hmr hmq hG.2.1 hfr6 (fun q h => nMT_ge h) hcw1 hbd.1 hrl hc0 hm0 ht0 hj0 hc7 hm7 hj7) hX hF hl
set_option maxHeartbeats 4000000 in
set_option maxRecDepth 100000 in
theorem k_word {p : Program} {l : Launch} {e : Env} {s : State} {m : MethodId} {below : List Frame} {meth : Method} {c : Code} {g : WG} {sb L : Nat} {xs : Nat → Int32} {b : Nat} {mr mq : Int64} {H : Heap} {locs : List Loc} {ls : Array Slot} {th : Int32} {pn tn wn wm i cells slots : Nat} {A : Nat → Int} (E : EV p m c code 8 s #[Value.ref sb] "KateDeskLaw" g) (hr : meth.sig.returnType = ret) (hlk : meth.locks = false) (hb0 : s.heap.size ≤ b) (hsb : sb < s.heap.size) (hxs : XS l s) (hL : L ≤ 3072) (hi : i + 6 ≤ L) (hc : cells + 1 ≤ room_1.cells ∧ slots + 6 ≤ room_1.slots) (hN : LNX p l e s m below meth c g sb L xs b mr mq i (cells + 1) (slots + 6)) (hG : LG g s H b pn tn wn mr mq) (hM : MVP g (nMT (b + 501)) H (b + 501) th pn tn wm A) (hT : TW g H b pn tn wn wm A mr mq) (hX : va_X sb L xs s H) (hF : ∀ q ∈ locs, HXA s q.base) (hl : lv_has ls 8 [(4, .int (nI i)), (3, .ref (b + 510)), (2, .ref (b + 501)), (1, .ref b), (0, .ref sb)]) : W p l e room_1 s m #[Value.ref sb] below meth c H locs cells slots (lw_Z below #[Value.ref sb] s) (F0 m 383 ls []) := by
  have hx := E.1
  have hb := E.2.1
  have hK := E.2.2.2.2.2
  have hw0 := State.WarmedH.refl s
  obtain ⟨⟨hmr, hmq, rfl⟩, ⟨hR0, c0, m0, t0, hc0, hm0, ht0, hj0⟩, ⟨c7, m7, t7, hc7, hm7, hj7⟩, P, V, hcw, hrl⟩ := id hT
  clear hT
  have hbd := hM.2.2.2.2.2.1
  refine lv_aload_n hx hb d_Law_law_383 rfl (lv_at hl 3 rfl) ?_
  refine lv_aload_n hx hb d_Law_law_384 rfl (lv_at hl 4 rfl) ?_
  refine lv_iload hx hb d_Law_law_385 (lv_at hl 0 rfl) ?_
  refine lv_iconst (v := nI 1) hx hb d_Law_law_387 (by decide) ?_
  refine lv_iadd hx hb d_Law_law_388 ?_
  refine lv_topi (fun t9 e9 => ?_)
  obtain rfl : t9 = nI (i + 1) := e9.trans (nI_add _ _)
  refine q_xld E hX (i + 1) rfl (by omega) (by omega) d_Law_law_389 ?_
  refine lv_aload_n hx hb d_Law_law_390 rfl (lv_at hl 4 rfl) ?_
  refine lv_iload hx hb d_Law_law_391 (lv_at hl 0 rfl) ?_
  refine lv_iconst (v := nI 2) hx hb d_Law_law_393 (by decide) ?_
  refine lv_iadd hx hb d_Law_law_394 ?_
  refine lv_topi (fun t9 e9 => ?_)
  obtain rfl : t9 = nI (i + 2) := e9.trans (nI_add _ _)
  refine q_xld E hX (i + 2) rfl (by omega) (by omega) d_Law_law_395 ?_
  refine lv_aload_n hx hb d_Law_law_396 rfl (lv_at hl 1 rfl) ?_
  refine q_cSH (rest := []) E hw0 (XH_word l g s hxs b pn tn wn mr mq hb0 (xs (i + 1)) (xs (i + 2)) hmr A P V) w_527 w_0 w_525 w_526 hd_Law_word rfl ⟨by decide, by decide⟩ ⟨hG, hcw⟩ hF hl.1 rfl (Nat.le_of_ble_eq_true rfl) d_Law_law_397 hc (qi (fun r5 H1 locs hq hF => ?_))
  obtain ⟨hq, hfr⟩ := hq
  have hX := hX.kept (hfr sb (Or.inl (Nat.lt_of_lt_of_le hsb hb0)))
  have hM := hM.on (fun q h1 h2 => hfr q (Or.inr (Or.inl ⟨h1, h2⟩)))
  have hm0 : AI g H1 (b + 501 + 6) 96 m0 := AI.eq hm0 (hfr _ (Or.inr (Or.inl ⟨by omega, by omega⟩)))
  have hm7 : AI g H1 (b + 501 + 7) 96 m7 := AI.eq hm7 (hfr _ (Or.inr (Or.inl ⟨by omega, by omega⟩)))
  have hc0 : AB g H1 (b + 149) 96 c0 := hc0.eq (hfr _ (Or.inr (Or.inr (Or.inl rfl))))
  have hc7 : AB g H1 (b + 151) 96 c7 := hc7.eq (hfr _ (Or.inr (Or.inr (Or.inr rfl))))
  refine lv_istore (lv' := [(5, .int r5), (4, .int (nI i)), (3, .ref (b + 510)), (2, .ref (b + 501)), (1, .ref b), (0, .ref sb)]) hx hb d_Law_law_400 hl (by decide) rfl (fun ls hl => ?_)
  refine lv_aload_n hx hb d_Law_law_402 rfl (lv_at hl 3 rfl) ?_
  refine lv_aload_n hx hb d_Law_law_403 rfl (lv_at hl 5 rfl) ?_
  refine lv_iload hx hb d_Law_law_404 (lv_at hl 1 rfl) ?_
  refine lv_iconst (v := nI 1) hx hb d_Law_law_406 (by decide) ?_
  refine lv_iadd hx hb d_Law_law_407 ?_
  refine lv_topi (fun t9 e9 => ?_)
  obtain rfl : t9 = nI (i + 1) := e9.trans (nI_add _ _)
  refine q_xld E hX (i + 1) rfl (by omega) (by omega) d_Law_law_408 ?_
  refine lv_aload_n hx hb d_Law_law_409 rfl (lv_at hl 5 rfl) ?_
  refine lv_iload hx hb d_Law_law_410 (lv_at hl 1 rfl) ?_
  refine lv_iconst (v := nI 2) hx hb d_Law_law_412 (by decide) ?_
  refine lv_iadd hx hb d_Law_law_413 ?_
  refine lv_topi (fun t9 e9 => ?_)
  obtain rfl : t9 = nI (i + 2) := e9.trans (nI_add _ _)
  refine q_xld E hX (i + 2) rfl (by omega) (by omega) d_Law_law_414 ?_
  obtain ⟨w9, n9, hob⟩ := hM.ob
  refine q_cV (rest := []) E ((YF_Model_word l g (nMT (b + 501)) (b + 501) th pn tn wn A (xs (i + 1)) (xs (i + 2))).frL (nMT_up hb0)) w_1088 w_15 w_1085 w_1086 w_1087 hd_Model_word rfl ⟨by decide, by decide⟩ (OB.recv E.2.2.2.2.2 (by rfl) hob) hM hF hl.1 rfl (Nat.le_of_ble_eq_true rfl) d_Law_law_415 hc (ql (fun r6 H2 locs hq6 hF => ?_))
  obtain ⟨hq6, hfr6⟩ := hq6
  have hX := hX.kept (hfr6.2 sb hX.lt (nMT_n (nM_lt hb0 hsb)))
  clear hob hM
  have hm7 := ai_T7 hm7 hfr6
  have hm0 := ai_T6 hm0 hfr6
  rcases hq with ⟨hok, rfl, hG, hcw1, E1, rw9, hE1, hrw, hA⟩ | ⟨hok, rfl, hG, hcw1⟩
  · skip
    obtain ⟨hM, h69⟩ : MVP g (nMT (b + 501)) H2 (b + 501) 0 pn tn wn A ∧ r6 = rw9 := by
      rcases hq6 with ⟨-, E2, hE2, hr2, h⟩ | ⟨h, -⟩
      · exact ⟨h, wd_eq hE2 hE1 hr2 hrw⟩
      · exact absurd hok h
    subst h69
    refine lv_lstore (lv' := [(6, .long r6), (5, .int (nI 0)), (4, .int (nI i)), (3, .ref (b + 510)), (2, .ref (b + 501)), (1, .ref b), (0, .ref sb)]) hx hb d_Law_law_418 hl (by decide) rfl (fun ls hl => ?_)
    refine lv_aload_n hx hb d_Law_law_420 rfl (lv_at hl 4 rfl) ?_
    obtain ⟨w9, n9, hob⟩ := hM.ob
    refine q_cV (rest := []) E ((c_Model_thrown l g (nMT (b + 501)) (b + 501) 0).up (nMT_up hb0)) w_1048 w_15 w_1045 w_1046 w_1047 hd_Model_thrown rfl ⟨by decide, by decide⟩ (OB.recv E.2.2.2.2.2 (by rfl) hob) hM.th hF hl.1 rfl (Nat.le_of_ble_eq_true rfl) d_Law_law_421 hc (qi (fun r7 H3 locs hq7 hF => ?_))
    obtain ⟨rfl, hH7⟩ := hq7
    have hH7 := hH7.symm
    subst hH7
    refine lv_iload hx hb d_Law_law_424 (lv_at hl 1 rfl) ?_
    refine lv_icmp_eq (tgt := 431) hx hb d_Law_law_426 (by decide) (fun _ => ?_) (fun h9 => absurd (rfl) h9)
    refine lv_iload hx hb d_Law_law_431 (lv_at hl 1 rfl) ?_
    refine lv_if_ne (tgt := 447) hx hb d_Law_law_433 (by decide) (fun h9 => absurd (rfl) h9) (fun _ => ?_)
    refine lv_aload_n hx hb d_Law_law_436 rfl (lv_at hl 3 rfl) ?_
    refine lv_iconst (v := nI 0) hx hb d_Law_law_437 (by decide) ?_
    refine q_lald (N := 1) (f := (fun _ => r6)) E (hA.eq (hfr6.2 (b + 510) hA.lt (nMT_n nM_510))) 0 rfl (by decide) (by decide) d_Law_law_438 ?_
    refine lv_lload hx hb d_Law_law_439 (lv_at hl 0 rfl) ?_
    refine W.lcmp hx hb d_Law_law_441 ?_
    refine lv_if_eq (tgt := 447) hx hb d_Law_law_442 (by decide) (fun _ => ?_) (fun h9 => absurd (l2i_eq rfl) h9)
    refine lv_goto (tgt := 1611) hx hb d_Law_law_447 (by decide) ?_
    have hl : lv_has ls 8 [(4, .int (nI i)), (3, .ref (b + 510)), (2, .ref (b + 501)), (1, .ref b), (0, .ref sb)] := lv_sub hl [2, 3, 4, 5, 6] rfl
    exact hN _ _ ls _ _ _ _ _ _ (hG.frq hb0 (nMT_fr hfr6)) hM (TW.mk hmr hmq hG.2.1 hfr6 (fun q h => nMT_ge h) hcw1 hbd.1 hrl hc0 hm0 ht0 hj0 hc7 hm7 hj7) hX hF hl
  · skip
    have hM : MVP g (nMT (b + 501)) H2 (b + 501) 1 pn tn wn A := by
      rcases hq6 with ⟨h, -⟩ | ⟨-, h⟩
      · exact absurd h hok
      · exact h
    refine lv_lstore (lv' := [(6, .long r6), (5, .int (nI 1)), (4, .int (nI i)), (3, .ref (b + 510)), (2, .ref (b + 501)), (1, .ref b), (0, .ref sb)]) hx hb d_Law_law_418 hl (by decide) rfl (fun ls hl => ?_)
    refine lv_aload_n hx hb d_Law_law_420 rfl (lv_at hl 4 rfl) ?_
    obtain ⟨w9, n9, hob⟩ := hM.ob
    refine q_cV (rest := []) E ((c_Model_thrown l g (nMT (b + 501)) (b + 501) 1).up (nMT_up hb0)) w_1048 w_15 w_1045 w_1046 w_1047 hd_Model_thrown rfl ⟨by decide, by decide⟩ (OB.recv E.2.2.2.2.2 (by rfl) hob) hM.th hF hl.1 rfl (Nat.le_of_ble_eq_true rfl) d_Law_law_421 hc (qi (fun r7 H3 locs hq7 hF => ?_))
    obtain ⟨rfl, hH7⟩ := hq7
    have hH7 := hH7.symm
    subst hH7
    refine lv_iload hx hb d_Law_law_424 (lv_at hl 1 rfl) ?_
    refine lv_icmp_eq (tgt := 431) hx hb d_Law_law_426 (by decide) (fun _ => ?_) (fun h9 => absurd (rfl) h9)
    refine lv_iload hx hb d_Law_law_431 (lv_at hl 1 rfl) ?_
    refine lv_if_ne (tgt := 447) hx hb d_Law_law_433 (by decide) (fun _ => ?_) (fun h9 => absurd h9 (by decide))
    refine lv_goto (tgt := 1611) hx hb d_Law_law_447 (by decide) ?_
    have hl : lv_has ls 8 [(4, .int (nI i)), (3, .ref (b + 510)), (2, .ref (b + 501)), (1, .ref b), (0, .ref sb)] := lv_sub hl [2, 3, 4, 5, 6] rfl
    exact hN _ _ ls _ _ _ _ _ _ (hG.frq hb0 (nMT_fr hfr6)) hM (TW.mk hmr hmq hG.2.1 hfr6 (fun q h => nMT_ge h) hcw1 hbd.1 hrl hc0 hm0 ht0 hj0 hc7 hm7 hj7) hX hF hl
set_option maxHeartbeats 4000000 in
set_option maxRecDepth 100000 in
theorem k_reckon {p : Program} {l : Launch} {e : Env} {s : State} {m : MethodId} {below : List Frame} {meth : Method} {c : Code} {g : WG} {sb L : Nat} {xs : Nat → Int32} {b : Nat} {mr mq : Int64} {H : Heap} {locs : List Loc} {ls : Array Slot} {th : Int32} {pn tn wn wm i cells slots : Nat} {A : Nat → Int} (E : EV p m c code 8 s #[Value.ref sb] "KateDeskLaw" g) (hr : meth.sig.returnType = ret) (hlk : meth.locks = false) (hb0 : s.heap.size ≤ b) (hsb : sb < s.heap.size) (hxs : XS l s) (hno : va_Nc "java/lang/ArithmeticException" "java/lang/IllegalArgumentException" s) (hL : L ≤ 3072) (hi : i + 6 ≤ L) (hc : cells + 1 ≤ room_1.cells ∧ slots + 6 ≤ room_1.slots) (hN : LNX p l e s m below meth c g sb L xs b mr mq i (cells + 1) (slots + 6)) (hG : LG g s H b pn tn wn mr mq) (hM : MVP g (nMT (b + 501)) H (b + 501) th pn tn wm A) (hT : TW g H b pn tn wn wm A mr mq) (hX : va_X sb L xs s H) (hF : ∀ q ∈ locs, HXA s q.base) (hl : lv_has ls 8 [(4, .int (nI i)), (3, .ref (b + 510)), (2, .ref (b + 501)), (1, .ref b), (0, .ref sb)]) : W p l e room_1 s m #[Value.ref sb] below meth c H locs cells slots (lw_Z below #[Value.ref sb] s) (F0 m 450 ls []) := by
  have hx := E.1
  have hb := E.2.1
  have hK := E.2.2.2.2.2
  have hw0 := State.WarmedH.refl s
  obtain ⟨⟨hmr, hmq, rfl⟩, ⟨hR0, c0, m0, t0, hc0, hm0, ht0, hj0⟩, ⟨c7, m7, t7, hc7, hm7, hj7⟩, P, V, hcw, hrl⟩ := id hT
  clear hT
  have hbd := hM.2.2.2.2.2.1
  refine lv_aload_n hx hb d_Law_law_450 rfl (lv_at hl 3 rfl) ?_
  refine lv_aload_n hx hb d_Law_law_451 rfl (lv_at hl 4 rfl) ?_
  refine lv_iload hx hb d_Law_law_452 (lv_at hl 0 rfl) ?_
  refine lv_iconst (v := nI 1) hx hb d_Law_law_454 (by decide) ?_
  refine lv_iadd hx hb d_Law_law_455 ?_
  refine lv_topi (fun t9 e9 => ?_)
  obtain rfl : t9 = nI (i + 1) := e9.trans (nI_add _ _)
  refine q_xld E hX (i + 1) rfl (by omega) (by omega) d_Law_law_456 ?_
  refine lv_aload_n hx hb d_Law_law_457 rfl (lv_at hl 4 rfl) ?_
  refine lv_iload hx hb d_Law_law_458 (lv_at hl 0 rfl) ?_
  refine lv_iconst (v := nI 2) hx hb d_Law_law_460 (by decide) ?_
  refine lv_iadd hx hb d_Law_law_461 ?_
  refine lv_topi (fun t9 e9 => ?_)
  obtain rfl : t9 = nI (i + 2) := e9.trans (nI_add _ _)
  refine q_xld E hX (i + 2) rfl (by omega) (by omega) d_Law_law_462 ?_
  refine lv_aload_n hx hb d_Law_law_463 rfl (lv_at hl 4 rfl) ?_
  refine lv_iload hx hb d_Law_law_464 (lv_at hl 0 rfl) ?_
  refine lv_iconst (v := nI 3) hx hb d_Law_law_466 (by decide) ?_
  refine lv_iadd hx hb d_Law_law_467 ?_
  refine lv_topi (fun t9 e9 => ?_)
  obtain rfl : t9 = nI (i + 3) := e9.trans (nI_add _ _)
  refine q_xld E hX (i + 3) rfl (by omega) (by omega) d_Law_law_468 ?_
  refine lv_aload_n hx hb d_Law_law_469 rfl (lv_at hl 4 rfl) ?_
  refine lv_iload hx hb d_Law_law_470 (lv_at hl 0 rfl) ?_
  refine lv_iconst (v := nI 4) hx hb d_Law_law_472 (by decide) ?_
  refine lv_iadd hx hb d_Law_law_473 ?_
  refine lv_topi (fun t9 e9 => ?_)
  obtain rfl : t9 = nI (i + 4) := e9.trans (nI_add _ _)
  refine q_xld E hX (i + 4) rfl (by omega) (by omega) d_Law_law_474 ?_
  refine q_cSH (rest := []) E hw0 (XH_reckon l g s hxs b pn tn wn mr mq hb0 (xs (i + 1)) (xs (i + 2)) (xs (i + 3)) (xs (i + 4)) hmr A P V hno) w_536 w_0 w_534 w_535 hd_Law_reckon rfl ⟨by decide, by decide⟩ ⟨hG, hcw⟩ hF hl.1 rfl (Nat.le_of_ble_eq_true rfl) d_Law_law_475 hc (qi (fun r5 H1 locs hq hF => ?_))
  obtain ⟨hq, hfr⟩ := hq
  have hX := hX.kept (hfr sb (Or.inl (Nat.lt_of_lt_of_le hsb hb0)))
  have hM := hM.on (fun q h1 h2 => hfr q (Or.inr (Or.inl ⟨h1, h2⟩)))
  have hm0 : AI g H1 (b + 501 + 6) 96 m0 := AI.eq hm0 (hfr _ (Or.inr (Or.inl ⟨by omega, by omega⟩)))
  have hm7 : AI g H1 (b + 501 + 7) 96 m7 := AI.eq hm7 (hfr _ (Or.inr (Or.inl ⟨by omega, by omega⟩)))
  have hc0 : AB g H1 (b + 149) 96 c0 := hc0.eq (hfr _ (Or.inr (Or.inr (Or.inl rfl))))
  have hc7 : AB g H1 (b + 151) 96 c7 := hc7.eq (hfr _ (Or.inr (Or.inr (Or.inr rfl))))
  refine lv_istore (lv' := [(5, .int r5), (4, .int (nI i)), (3, .ref (b + 510)), (2, .ref (b + 501)), (1, .ref b), (0, .ref sb)]) hx hb d_Law_law_478 hl (by decide) rfl (fun ls hl => ?_)
  refine lv_aload_n hx hb d_Law_law_480 rfl (lv_at hl 3 rfl) ?_
  refine lv_aload_n hx hb d_Law_law_481 rfl (lv_at hl 5 rfl) ?_
  refine lv_iload hx hb d_Law_law_482 (lv_at hl 1 rfl) ?_
  refine lv_iconst (v := nI 1) hx hb d_Law_law_484 (by decide) ?_
  refine lv_iadd hx hb d_Law_law_485 ?_
  refine lv_topi (fun t9 e9 => ?_)
  obtain rfl : t9 = nI (i + 1) := e9.trans (nI_add _ _)
  refine q_xld E hX (i + 1) rfl (by omega) (by omega) d_Law_law_486 ?_
  refine lv_aload_n hx hb d_Law_law_487 rfl (lv_at hl 5 rfl) ?_
  refine lv_iload hx hb d_Law_law_488 (lv_at hl 1 rfl) ?_
  refine lv_iconst (v := nI 2) hx hb d_Law_law_490 (by decide) ?_
  refine lv_iadd hx hb d_Law_law_491 ?_
  refine lv_topi (fun t9 e9 => ?_)
  obtain rfl : t9 = nI (i + 2) := e9.trans (nI_add _ _)
  refine q_xld E hX (i + 2) rfl (by omega) (by omega) d_Law_law_492 ?_
  refine lv_aload_n hx hb d_Law_law_493 rfl (lv_at hl 5 rfl) ?_
  refine lv_iload hx hb d_Law_law_494 (lv_at hl 1 rfl) ?_
  refine lv_iconst (v := nI 3) hx hb d_Law_law_496 (by decide) ?_
  refine lv_iadd hx hb d_Law_law_497 ?_
  refine lv_topi (fun t9 e9 => ?_)
  obtain rfl : t9 = nI (i + 3) := e9.trans (nI_add _ _)
  refine q_xld E hX (i + 3) rfl (by omega) (by omega) d_Law_law_498 ?_
  refine lv_aload_n hx hb d_Law_law_499 rfl (lv_at hl 5 rfl) ?_
  refine lv_iload hx hb d_Law_law_500 (lv_at hl 1 rfl) ?_
  refine lv_iconst (v := nI 4) hx hb d_Law_law_502 (by decide) ?_
  refine lv_iadd hx hb d_Law_law_503 ?_
  refine lv_topi (fun t9 e9 => ?_)
  obtain rfl : t9 = nI (i + 4) := e9.trans (nI_add _ _)
  refine q_xld E hX (i + 4) rfl (by omega) (by omega) d_Law_law_504 ?_
  obtain ⟨w9, n9, hob⟩ := hM.ob
  refine q_cV (rest := []) E ((YF_Model_reckon l g (nMT (b + 501)) (b + 501) th pn tn wn A (xs (i + 1)) (xs (i + 2)) (xs (i + 3)) (xs (i + 4))).frV (nMT_up hb0)) w_1097 w_15 w_1094 w_1095 w_1096 hd_Model_reckon rfl ⟨by decide, by decide⟩ (OB.recv E.2.2.2.2.2 (by rfl) hob) hM hF hl.1 rfl (Nat.le_of_ble_eq_true rfl) d_Law_law_505 hc (qv (fun H2 locs hq6 hF => ?_))
  obtain ⟨hq6, hfr6⟩ := hq6
  have hX := hX.kept (hfr6.2 sb hX.lt (nMT_n (nM_lt hb0 hsb)))
  clear hob hM
  have hm7 := ai_T7 hm7 hfr6
  have hm0 := ai_T6 hm0 hfr6
  rcases hq with ⟨hok, ⟨hnz, rfl, hG, hcw1⟩ | ⟨hz9, rfl, hG, hcw1⟩⟩ | ⟨hok, rfl, hG, hcw1⟩
  · skip
    have hM : MVP g (nMT (b + 501)) H2 (b + 501) 0 pn tn wn (fRec (xs (i + 1)) (xs (i + 2)) (xs (i + 3)) (xs (i + 4)) A) := by
      rcases hq6 with ⟨-, ⟨-, h⟩ | ⟨h, -⟩⟩ | ⟨h, -⟩
      · exact h
      · exact absurd h hnz
      · exact absurd hok h
    refine lv_aload_n hx hb d_Law_law_508 rfl (lv_at hl 3 rfl) ?_
    obtain ⟨w9, n9, hob⟩ := hM.ob
    refine q_cV (rest := []) E ((c_Model_thrown l g (nMT (b + 501)) (b + 501) 0).up (nMT_up hb0)) w_1048 w_15 w_1045 w_1046 w_1047 hd_Model_thrown rfl ⟨by decide, by decide⟩ (OB.recv E.2.2.2.2.2 (by rfl) hob) hM.th hF hl.1 rfl (Nat.le_of_ble_eq_true rfl) d_Law_law_509 hc (qi (fun r7 H3 locs hq7 hF => ?_))
    obtain ⟨rfl, hH7⟩ := hq7
    have hH7 := hH7.symm
    subst hH7
    refine lv_iload hx hb d_Law_law_512 (lv_at hl 0 rfl) ?_
    refine lv_icmp_eq (tgt := 519) hx hb d_Law_law_514 (by decide) (fun _ => ?_) (fun h9 => absurd (rfl) h9)
    refine lv_goto (tgt := 1611) hx hb d_Law_law_519 (by decide) ?_
    have hl : lv_has ls 8 [(4, .int (nI i)), (3, .ref (b + 510)), (2, .ref (b + 501)), (1, .ref b), (0, .ref sb)] := lv_sub hl [1, 2, 3, 4, 5] rfl
    exact hN _ _ ls _ _ _ _ _ _ (hG.frq hb0 (nMT_fr hfr6)) hM (TW.mk hmr hmq hG.2.1 hfr6 (fun q h => nMT_ge h) hcw1 hbd.1 (hrl.sc (uI_hi (nt_S hok.2.1))) hc0 hm0 ht0 hj0 hc7 hm7 hj7) hX hF hl
  · skip
    have hM : MVP g (nMT (b + 501)) H2 (b + 501) (nI 2) pn tn wn A := by
      rcases hq6 with ⟨-, ⟨h, -⟩ | ⟨-, h⟩⟩ | ⟨h, -⟩
      · exact absurd hz9 h
      · exact h
      · exact absurd hok h
    refine lv_aload_n hx hb d_Law_law_508 rfl (lv_at hl 3 rfl) ?_
    obtain ⟨w9, n9, hob⟩ := hM.ob
    refine q_cV (rest := []) E ((c_Model_thrown l g (nMT (b + 501)) (b + 501) (nI 2)).up (nMT_up hb0)) w_1048 w_15 w_1045 w_1046 w_1047 hd_Model_thrown rfl ⟨by decide, by decide⟩ (OB.recv E.2.2.2.2.2 (by rfl) hob) hM.th hF hl.1 rfl (Nat.le_of_ble_eq_true rfl) d_Law_law_509 hc (qi (fun r7 H3 locs hq7 hF => ?_))
    obtain ⟨rfl, hH7⟩ := hq7
    have hH7 := hH7.symm
    subst hH7
    refine lv_iload hx hb d_Law_law_512 (lv_at hl 0 rfl) ?_
    refine lv_icmp_eq (tgt := 519) hx hb d_Law_law_514 (by decide) (fun _ => ?_) (fun h9 => absurd (rfl) h9)
    refine lv_goto (tgt := 1611) hx hb d_Law_law_519 (by decide) ?_
    have hl : lv_has ls 8 [(4, .int (nI i)), (3, .ref (b + 510)), (2, .ref (b + 501)), (1, .ref b), (0, .ref sb)] := lv_sub hl [1, 2, 3, 4, 5] rfl
    exact hN _ _ ls _ _ _ _ _ _ (hG.frq hb0 (nMT_fr hfr6)) hM (TW.mk hmr hmq hG.2.1 hfr6 (fun q h => nMT_ge h) hcw1 hbd.1 hrl hc0 hm0 ht0 hj0 hc7 hm7 hj7) hX hF hl
  · skip
    have hM : MVP g (nMT (b + 501)) H2 (b + 501) 1 pn tn wn A := by
      rcases hq6 with ⟨h, -⟩ | ⟨-, h⟩
      · exact absurd h hok
      · exact h
    refine lv_aload_n hx hb d_Law_law_508 rfl (lv_at hl 3 rfl) ?_
    obtain ⟨w9, n9, hob⟩ := hM.ob
    refine q_cV (rest := []) E ((c_Model_thrown l g (nMT (b + 501)) (b + 501) 1).up (nMT_up hb0)) w_1048 w_15 w_1045 w_1046 w_1047 hd_Model_thrown rfl ⟨by decide, by decide⟩ (OB.recv E.2.2.2.2.2 (by rfl) hob) hM.th hF hl.1 rfl (Nat.le_of_ble_eq_true rfl) d_Law_law_509 hc (qi (fun r7 H3 locs hq7 hF => ?_))
    obtain ⟨rfl, hH7⟩ := hq7
    have hH7 := hH7.symm
    subst hH7
    refine lv_iload hx hb d_Law_law_512 (lv_at hl 0 rfl) ?_
    refine lv_icmp_eq (tgt := 519) hx hb d_Law_law_514 (by decide) (fun _ => ?_) (fun h9 => absurd (rfl) h9)
    refine lv_goto (tgt := 1611) hx hb d_Law_law_519 (by decide) ?_
    have hl : lv_has ls 8 [(4, .int (nI i)), (3, .ref (b + 510)), (2, .ref (b + 501)), (1, .ref b), (0, .ref sb)] := lv_sub hl [1, 2, 3, 4, 5] rfl
    exact hN _ _ ls _ _ _ _ _ _ (hG.frq hb0 (nMT_fr hfr6)) hM (TW.mk hmr hmq hG.2.1 hfr6 (fun q h => nMT_ge h) hcw1 hbd.1 hrl hc0 hm0 ht0 hj0 hc7 hm7 hj7) hX hF hl
set_option maxHeartbeats 4000000 in
set_option maxRecDepth 100000 in
theorem k_power {p : Program} {l : Launch} {e : Env} {s : State} {m : MethodId} {below : List Frame} {meth : Method} {c : Code} {g : WG} {sb L : Nat} {xs : Nat → Int32} {b : Nat} {mr mq : Int64} {H : Heap} {locs : List Loc} {ls : Array Slot} {th : Int32} {pn tn wn wm i cells slots : Nat} {A : Nat → Int} (E : EV p m c code 8 s #[Value.ref sb] "KateDeskLaw" g) (hr : meth.sig.returnType = ret) (hlk : meth.locks = false) (hb0 : s.heap.size ≤ b) (hsb : sb < s.heap.size) (hxs : XS l s) (hL : L ≤ 3072) (hi : i + 6 ≤ L) (hc : cells + 1 ≤ room_1.cells ∧ slots + 6 ≤ room_1.slots) (hN : LNX p l e s m below meth c g sb L xs b mr mq i (cells + 1) (slots + 6)) (hG : LG g s H b pn tn wn mr mq) (hM : MVP g (nMT (b + 501)) H (b + 501) th pn tn wm A) (hT : TW g H b pn tn wn wm A mr mq) (hX : va_X sb L xs s H) (hF : ∀ q ∈ locs, HXA s q.base) (hl : lv_has ls 8 [(4, .int (nI i)), (3, .ref (b + 510)), (2, .ref (b + 501)), (1, .ref b), (0, .ref sb)]) : W p l e room_1 s m #[Value.ref sb] below meth c H locs cells slots (lw_Z below #[Value.ref sb] s) (F0 m 522 ls []) := by
  have hx := E.1
  have hb := E.2.1
  have hK := E.2.2.2.2.2
  have hw0 := State.WarmedH.refl s
  obtain ⟨⟨hmr, hmq, rfl⟩, ⟨hR0, c0, m0, t0, hc0, hm0, ht0, hj0⟩, ⟨c7, m7, t7, hc7, hm7, hj7⟩, P, V, hcw, hrl⟩ := id hT
  clear hT
  have hbd := hM.2.2.2.2.2.1
  refine lv_aload_n hx hb d_Law_law_522 rfl (lv_at hl 3 rfl) ?_
  refine lv_aload_n hx hb d_Law_law_523 rfl (lv_at hl 4 rfl) ?_
  refine lv_iload hx hb d_Law_law_524 (lv_at hl 0 rfl) ?_
  refine lv_iconst (v := nI 1) hx hb d_Law_law_526 (by decide) ?_
  refine lv_iadd hx hb d_Law_law_527 ?_
  refine lv_topi (fun t9 e9 => ?_)
  obtain rfl : t9 = nI (i + 1) := e9.trans (nI_add _ _)
  refine q_xld E hX (i + 1) rfl (by omega) (by omega) d_Law_law_528 ?_
  refine lv_aload_n hx hb d_Law_law_529 rfl (lv_at hl 4 rfl) ?_
  refine lv_iload hx hb d_Law_law_530 (lv_at hl 0 rfl) ?_
  refine lv_iconst (v := nI 2) hx hb d_Law_law_532 (by decide) ?_
  refine lv_iadd hx hb d_Law_law_533 ?_
  refine lv_topi (fun t9 e9 => ?_)
  obtain rfl : t9 = nI (i + 2) := e9.trans (nI_add _ _)
  refine q_xld E hX (i + 2) rfl (by omega) (by omega) d_Law_law_534 ?_
  refine lv_aload_n hx hb d_Law_law_535 rfl (lv_at hl 4 rfl) ?_
  refine lv_iload hx hb d_Law_law_536 (lv_at hl 0 rfl) ?_
  refine lv_iconst (v := nI 3) hx hb d_Law_law_538 (by decide) ?_
  refine lv_iadd hx hb d_Law_law_539 ?_
  refine lv_topi (fun t9 e9 => ?_)
  obtain rfl : t9 = nI (i + 3) := e9.trans (nI_add _ _)
  refine q_xld E hX (i + 3) rfl (by omega) (by omega) d_Law_law_540 ?_
  refine lv_i2l (v := (xs (i + 3)).toInt64) hx hb d_Law_law_541 rfl ?_
  refine lv_bipush (v := nI 32) hx hb d_Law_law_542 (by decide) ?_
  refine lv_lshl (v := ((xs (i + 3)).toInt64) <<< ((nI 32).toInt64 &&& 63)) hx hb d_Law_law_544 rfl ?_
  refine lv_aload_n hx hb d_Law_law_545 rfl (lv_at hl 4 rfl) ?_
  refine lv_iload hx hb d_Law_law_546 (lv_at hl 0 rfl) ?_
  refine lv_iconst (v := nI 4) hx hb d_Law_law_548 (by decide) ?_
  refine lv_iadd hx hb d_Law_law_549 ?_
  refine lv_topi (fun t9 e9 => ?_)
  obtain rfl : t9 = nI (i + 4) := e9.trans (nI_add _ _)
  refine q_xld E hX (i + 4) rfl (by omega) (by omega) d_Law_law_550 ?_
  refine lv_i2l (v := (xs (i + 4)).toInt64) hx hb d_Law_law_551 rfl ?_
  refine lv_ldc2 (v := 4294967295) hx hb E.2.2.2.1 (E.2.2.2.2.1 _ w_1252) d_Law_law_552 ?_
  refine lv_land hx hb d_Law_law_555 ?_
  refine lv_lor hx hb d_Law_law_556 ?_
  refine q_cSH (rest := []) E hw0 (XH_power l g s hxs b pn tn wn mr mq hb0 (xs (i + 1)) (xs (i + 2)) ((((xs (i + 3)).toInt64) <<< ((nI 32).toInt64 &&& 63)) ||| (((xs (i + 4)).toInt64) &&& 4294967295)) hmr A P V) w_579 w_0 w_577 w_578 hd_Law_power rfl ⟨by decide, by decide⟩ ⟨hG, hcw⟩ hF hl.1 rfl (Nat.le_of_ble_eq_true rfl) d_Law_law_557 hc (qi (fun r5 H1 locs hq hF => ?_))
  obtain ⟨hq, hfr⟩ := hq
  have hX := hX.kept (hfr sb (Or.inl (Nat.lt_of_lt_of_le hsb hb0)))
  have hM := hM.on (fun q h1 h2 => hfr q (Or.inr (Or.inl ⟨h1, h2⟩)))
  have hm0 : AI g H1 (b + 501 + 6) 96 m0 := AI.eq hm0 (hfr _ (Or.inr (Or.inl ⟨by omega, by omega⟩)))
  have hm7 : AI g H1 (b + 501 + 7) 96 m7 := AI.eq hm7 (hfr _ (Or.inr (Or.inl ⟨by omega, by omega⟩)))
  have hc0 : AB g H1 (b + 149) 96 c0 := hc0.eq (hfr _ (Or.inr (Or.inr (Or.inl rfl))))
  have hc7 : AB g H1 (b + 151) 96 c7 := hc7.eq (hfr _ (Or.inr (Or.inr (Or.inr rfl))))
  refine lv_istore (lv' := [(5, .int r5), (4, .int (nI i)), (3, .ref (b + 510)), (2, .ref (b + 501)), (1, .ref b), (0, .ref sb)]) hx hb d_Law_law_560 hl (by decide) rfl (fun ls hl => ?_)
  refine lv_aload_n hx hb d_Law_law_562 rfl (lv_at hl 3 rfl) ?_
  refine lv_aload_n hx hb d_Law_law_563 rfl (lv_at hl 5 rfl) ?_
  refine lv_iload hx hb d_Law_law_564 (lv_at hl 1 rfl) ?_
  refine lv_iconst (v := nI 1) hx hb d_Law_law_566 (by decide) ?_
  refine lv_iadd hx hb d_Law_law_567 ?_
  refine lv_topi (fun t9 e9 => ?_)
  obtain rfl : t9 = nI (i + 1) := e9.trans (nI_add _ _)
  refine q_xld E hX (i + 1) rfl (by omega) (by omega) d_Law_law_568 ?_
  refine lv_aload_n hx hb d_Law_law_569 rfl (lv_at hl 5 rfl) ?_
  refine lv_iload hx hb d_Law_law_570 (lv_at hl 1 rfl) ?_
  refine lv_iconst (v := nI 2) hx hb d_Law_law_572 (by decide) ?_
  refine lv_iadd hx hb d_Law_law_573 ?_
  refine lv_topi (fun t9 e9 => ?_)
  obtain rfl : t9 = nI (i + 2) := e9.trans (nI_add _ _)
  refine q_xld E hX (i + 2) rfl (by omega) (by omega) d_Law_law_574 ?_
  refine lv_aload_n hx hb d_Law_law_575 rfl (lv_at hl 5 rfl) ?_
  refine lv_iload hx hb d_Law_law_576 (lv_at hl 1 rfl) ?_
  refine lv_iconst (v := nI 3) hx hb d_Law_law_578 (by decide) ?_
  refine lv_iadd hx hb d_Law_law_579 ?_
  refine lv_topi (fun t9 e9 => ?_)
  obtain rfl : t9 = nI (i + 3) := e9.trans (nI_add _ _)
  refine q_xld E hX (i + 3) rfl (by omega) (by omega) d_Law_law_580 ?_
  refine lv_i2l (v := (xs (i + 3)).toInt64) hx hb d_Law_law_581 rfl ?_
  refine lv_bipush (v := nI 32) hx hb d_Law_law_582 (by decide) ?_
  refine lv_lshl (v := ((xs (i + 3)).toInt64) <<< ((nI 32).toInt64 &&& 63)) hx hb d_Law_law_584 rfl ?_
  refine lv_aload_n hx hb d_Law_law_585 rfl (lv_at hl 5 rfl) ?_
  refine lv_iload hx hb d_Law_law_586 (lv_at hl 1 rfl) ?_
  refine lv_iconst (v := nI 4) hx hb d_Law_law_588 (by decide) ?_
  refine lv_iadd hx hb d_Law_law_589 ?_
  refine lv_topi (fun t9 e9 => ?_)
  obtain rfl : t9 = nI (i + 4) := e9.trans (nI_add _ _)
  refine q_xld E hX (i + 4) rfl (by omega) (by omega) d_Law_law_590 ?_
  refine lv_i2l (v := (xs (i + 4)).toInt64) hx hb d_Law_law_591 rfl ?_
  refine lv_ldc2 (v := 4294967295) hx hb E.2.2.2.1 (E.2.2.2.2.1 _ w_1252) d_Law_law_592 ?_
  refine lv_land hx hb d_Law_law_595 ?_
  refine lv_lor hx hb d_Law_law_596 ?_
  obtain ⟨w9, n9, hob⟩ := hM.ob
  refine q_cV (rest := []) E ((YF_Model_power l g (nMT (b + 501)) (b + 501) th pn tn wn A (xs (i + 1)) (xs (i + 2)) ((((xs (i + 3)).toInt64) <<< ((nI 32).toInt64 &&& 63)) ||| (((xs (i + 4)).toInt64) &&& 4294967295))).frV (nMT_up hb0)) w_1130 w_15 w_1127 w_1128 w_1129 hd_Model_power rfl ⟨by decide, by decide⟩ (OB.recv E.2.2.2.2.2 (by rfl) hob) hM hF hl.1 rfl (Nat.le_of_ble_eq_true rfl) d_Law_law_597 hc (qv (fun H2 locs hq6 hF => ?_))
  obtain ⟨hq6, hfr6⟩ := hq6
  have hX := hX.kept (hfr6.2 sb hX.lt (nMT_n (nM_lt hb0 hsb)))
  clear hob hM
  have hm7 := ai_T7 hm7 hfr6
  have hm0 := ai_T6 hm0 hfr6
  rcases hq with ⟨hok, rfl, hG, hcw1⟩ | ⟨hok, rfl, hG, hcw1⟩
  · skip
    have hM : MVP g (nMT (b + 501)) H2 (b + 501) 0 pn tn wn (fPow (xs (i + 1)) (xs (i + 2)) ((((xs (i + 3)).toInt64) <<< ((nI 32).toInt64 &&& 63)) ||| (((xs (i + 4)).toInt64) &&& 4294967295)) A) := by
      rcases hq6 with ⟨-, h⟩ | ⟨h, -⟩
      · exact h
      · exact absurd hok h
    refine lv_aload_n hx hb d_Law_law_600 rfl (lv_at hl 3 rfl) ?_
    obtain ⟨w9, n9, hob⟩ := hM.ob
    refine q_cV (rest := []) E ((c_Model_thrown l g (nMT (b + 501)) (b + 501) 0).up (nMT_up hb0)) w_1048 w_15 w_1045 w_1046 w_1047 hd_Model_thrown rfl ⟨by decide, by decide⟩ (OB.recv E.2.2.2.2.2 (by rfl) hob) hM.th hF hl.1 rfl (Nat.le_of_ble_eq_true rfl) d_Law_law_601 hc (qi (fun r7 H3 locs hq7 hF => ?_))
    obtain ⟨rfl, hH7⟩ := hq7
    have hH7 := hH7.symm
    subst hH7
    refine lv_iload hx hb d_Law_law_604 (lv_at hl 0 rfl) ?_
    refine lv_icmp_eq (tgt := 611) hx hb d_Law_law_606 (by decide) (fun _ => ?_) (fun h9 => absurd (rfl) h9)
    refine lv_goto (tgt := 1611) hx hb d_Law_law_611 (by decide) ?_
    have hl : lv_has ls 8 [(4, .int (nI i)), (3, .ref (b + 510)), (2, .ref (b + 501)), (1, .ref b), (0, .ref sb)] := lv_sub hl [1, 2, 3, 4, 5] rfl
    exact hN _ _ ls _ _ _ _ _ _ (hG.frq hb0 (nMT_fr hfr6)) hM (TW.mk hmr hmq hG.2.1 hfr6 (fun q h => nMT_ge h) hcw1 hbd.1 (hrl.sc (uI_hi (nt_S hok.1))) hc0 hm0 ht0 hj0 hc7 hm7 hj7) hX hF hl
  · skip
    have hM : MVP g (nMT (b + 501)) H2 (b + 501) 1 pn tn wn A := by
      rcases hq6 with ⟨h, -⟩ | ⟨-, h⟩
      · exact absurd h hok
      · exact h
    refine lv_aload_n hx hb d_Law_law_600 rfl (lv_at hl 3 rfl) ?_
    obtain ⟨w9, n9, hob⟩ := hM.ob
    refine q_cV (rest := []) E ((c_Model_thrown l g (nMT (b + 501)) (b + 501) 1).up (nMT_up hb0)) w_1048 w_15 w_1045 w_1046 w_1047 hd_Model_thrown rfl ⟨by decide, by decide⟩ (OB.recv E.2.2.2.2.2 (by rfl) hob) hM.th hF hl.1 rfl (Nat.le_of_ble_eq_true rfl) d_Law_law_601 hc (qi (fun r7 H3 locs hq7 hF => ?_))
    obtain ⟨rfl, hH7⟩ := hq7
    have hH7 := hH7.symm
    subst hH7
    refine lv_iload hx hb d_Law_law_604 (lv_at hl 0 rfl) ?_
    refine lv_icmp_eq (tgt := 611) hx hb d_Law_law_606 (by decide) (fun _ => ?_) (fun h9 => absurd (rfl) h9)
    refine lv_goto (tgt := 1611) hx hb d_Law_law_611 (by decide) ?_
    have hl : lv_has ls 8 [(4, .int (nI i)), (3, .ref (b + 510)), (2, .ref (b + 501)), (1, .ref b), (0, .ref sb)] := lv_sub hl [1, 2, 3, 4, 5] rfl
    exact hN _ _ ls _ _ _ _ _ _ (hG.frq hb0 (nMT_fr hfr6)) hM (TW.mk hmr hmq hG.2.1 hfr6 (fun q h => nMT_ge h) hcw1 hbd.1 hrl hc0 hm0 ht0 hj0 hc7 hm7 hj7) hX hF hl
set_option maxHeartbeats 4000000 in
set_option maxRecDepth 100000 in
theorem k_unity {p : Program} {l : Launch} {e : Env} {s : State} {m : MethodId} {below : List Frame} {meth : Method} {c : Code} {g : WG} {sb L : Nat} {xs : Nat → Int32} {b : Nat} {mr mq : Int64} {H : Heap} {locs : List Loc} {ls : Array Slot} {th : Int32} {pn tn wn wm i cells slots : Nat} {A : Nat → Int} (E : EV p m c code 8 s #[Value.ref sb] "KateDeskLaw" g) (hr : meth.sig.returnType = ret) (hlk : meth.locks = false) (hb0 : s.heap.size ≤ b) (hsb : sb < s.heap.size) (hxs : XS l s) (hL : L ≤ 3072) (hi : i + 6 ≤ L) (hc : cells + 1 ≤ room_1.cells ∧ slots + 6 ≤ room_1.slots) (hN : LNX p l e s m below meth c g sb L xs b mr mq i (cells + 1) (slots + 6)) (hG : LG g s H b pn tn wn mr mq) (hM : MVP g (nMT (b + 501)) H (b + 501) th pn tn wm A) (hT : TW g H b pn tn wn wm A mr mq) (hX : va_X sb L xs s H) (hF : ∀ q ∈ locs, HXA s q.base) (hl : lv_has ls 8 [(4, .int (nI i)), (3, .ref (b + 510)), (2, .ref (b + 501)), (1, .ref b), (0, .ref sb)]) : W p l e room_1 s m #[Value.ref sb] below meth c H locs cells slots (lw_Z below #[Value.ref sb] s) (F0 m 614 ls []) := by
  have hx := E.1
  have hb := E.2.1
  have hK := E.2.2.2.2.2
  have hw0 := State.WarmedH.refl s
  obtain ⟨⟨hmr, hmq, rfl⟩, ⟨hR0, c0, m0, t0, hc0, hm0, ht0, hj0⟩, ⟨c7, m7, t7, hc7, hm7, hj7⟩, P, V, hcw, hrl⟩ := id hT
  clear hT
  have hbd := hM.2.2.2.2.2.1
  refine lv_aload_n hx hb d_Law_law_614 rfl (lv_at hl 3 rfl) ?_
  refine lv_aload_n hx hb d_Law_law_615 rfl (lv_at hl 4 rfl) ?_
  refine lv_iload hx hb d_Law_law_616 (lv_at hl 0 rfl) ?_
  refine lv_iconst (v := nI 1) hx hb d_Law_law_618 (by decide) ?_
  refine lv_iadd hx hb d_Law_law_619 ?_
  refine lv_topi (fun t9 e9 => ?_)
  obtain rfl : t9 = nI (i + 1) := e9.trans (nI_add _ _)
  refine q_xld E hX (i + 1) rfl (by omega) (by omega) d_Law_law_620 ?_
  refine lv_aload_n hx hb d_Law_law_621 rfl (lv_at hl 4 rfl) ?_
  refine lv_iload hx hb d_Law_law_622 (lv_at hl 0 rfl) ?_
  refine lv_iconst (v := nI 2) hx hb d_Law_law_624 (by decide) ?_
  refine lv_iadd hx hb d_Law_law_625 ?_
  refine lv_topi (fun t9 e9 => ?_)
  obtain rfl : t9 = nI (i + 2) := e9.trans (nI_add _ _)
  refine q_xld E hX (i + 2) rfl (by omega) (by omega) d_Law_law_626 ?_
  refine q_cSH (rest := []) E hw0 (XH_unity l g s hxs b pn tn wn mr mq hb0 (xs (i + 1)) (xs (i + 2)) hmr A P V) w_592 w_0 w_590 w_591 hd_Law_unity rfl ⟨by decide, by decide⟩ ⟨hG, hcw⟩ hF hl.1 rfl (Nat.le_of_ble_eq_true rfl) d_Law_law_627 hc (qi (fun r5 H1 locs hq hF => ?_))
  obtain ⟨hq, hfr⟩ := hq
  have hX := hX.kept (hfr sb (Or.inl (Nat.lt_of_lt_of_le hsb hb0)))
  have hM := hM.on (fun q h1 h2 => hfr q (Or.inr (Or.inl ⟨h1, h2⟩)))
  have hm0 : AI g H1 (b + 501 + 6) 96 m0 := AI.eq hm0 (hfr _ (Or.inr (Or.inl ⟨by omega, by omega⟩)))
  have hm7 : AI g H1 (b + 501 + 7) 96 m7 := AI.eq hm7 (hfr _ (Or.inr (Or.inl ⟨by omega, by omega⟩)))
  have hc0 : AB g H1 (b + 149) 96 c0 := hc0.eq (hfr _ (Or.inr (Or.inr (Or.inl rfl))))
  have hc7 : AB g H1 (b + 151) 96 c7 := hc7.eq (hfr _ (Or.inr (Or.inr (Or.inr rfl))))
  refine lv_istore (lv' := [(5, .int r5), (4, .int (nI i)), (3, .ref (b + 510)), (2, .ref (b + 501)), (1, .ref b), (0, .ref sb)]) hx hb d_Law_law_630 hl (by decide) rfl (fun ls hl => ?_)
  refine lv_aload_n hx hb d_Law_law_632 rfl (lv_at hl 3 rfl) ?_
  refine lv_aload_n hx hb d_Law_law_633 rfl (lv_at hl 5 rfl) ?_
  refine lv_iload hx hb d_Law_law_634 (lv_at hl 1 rfl) ?_
  refine lv_iconst (v := nI 1) hx hb d_Law_law_636 (by decide) ?_
  refine lv_iadd hx hb d_Law_law_637 ?_
  refine lv_topi (fun t9 e9 => ?_)
  obtain rfl : t9 = nI (i + 1) := e9.trans (nI_add _ _)
  refine q_xld E hX (i + 1) rfl (by omega) (by omega) d_Law_law_638 ?_
  refine lv_aload_n hx hb d_Law_law_639 rfl (lv_at hl 5 rfl) ?_
  refine lv_iload hx hb d_Law_law_640 (lv_at hl 1 rfl) ?_
  refine lv_iconst (v := nI 2) hx hb d_Law_law_642 (by decide) ?_
  refine lv_iadd hx hb d_Law_law_643 ?_
  refine lv_topi (fun t9 e9 => ?_)
  obtain rfl : t9 = nI (i + 2) := e9.trans (nI_add _ _)
  refine q_xld E hX (i + 2) rfl (by omega) (by omega) d_Law_law_644 ?_
  obtain ⟨w9, n9, hob⟩ := hM.ob
  refine q_cV (rest := []) E ((YF_Model_unity l g (nMT (b + 501)) (b + 501) th pn tn wn A (xs (i + 1)) (xs (i + 2))).frV (nMT_up hb0)) w_1134 w_15 w_1131 w_1132 w_1133 hd_Model_unity rfl ⟨by decide, by decide⟩ (OB.recv E.2.2.2.2.2 (by rfl) hob) hM hF hl.1 rfl (Nat.le_of_ble_eq_true rfl) d_Law_law_645 hc (qv (fun H2 locs hq6 hF => ?_))
  obtain ⟨hq6, hfr6⟩ := hq6
  have hX := hX.kept (hfr6.2 sb hX.lt (nMT_n (nM_lt hb0 hsb)))
  clear hob hM
  have hm7 := ai_T7 hm7 hfr6
  have hm0 := ai_T6 hm0 hfr6
  rcases hq with ⟨hok, rfl, hG, hcw1⟩ | ⟨hok, rfl, hG, hcw1⟩
  · skip
    have hM : MVP g (nMT (b + 501)) H2 (b + 501) 0 pn tn wn (fUni (xs (i + 1)) (xs (i + 2)) A) := by
      rcases hq6 with ⟨-, h⟩ | ⟨h, -⟩
      · exact h
      · exact absurd hok h
    refine lv_aload_n hx hb d_Law_law_648 rfl (lv_at hl 3 rfl) ?_
    obtain ⟨w9, n9, hob⟩ := hM.ob
    refine q_cV (rest := []) E ((c_Model_thrown l g (nMT (b + 501)) (b + 501) 0).up (nMT_up hb0)) w_1048 w_15 w_1045 w_1046 w_1047 hd_Model_thrown rfl ⟨by decide, by decide⟩ (OB.recv E.2.2.2.2.2 (by rfl) hob) hM.th hF hl.1 rfl (Nat.le_of_ble_eq_true rfl) d_Law_law_649 hc (qi (fun r7 H3 locs hq7 hF => ?_))
    obtain ⟨rfl, hH7⟩ := hq7
    have hH7 := hH7.symm
    subst hH7
    refine lv_iload hx hb d_Law_law_652 (lv_at hl 0 rfl) ?_
    refine lv_icmp_eq (tgt := 659) hx hb d_Law_law_654 (by decide) (fun _ => ?_) (fun h9 => absurd (rfl) h9)
    refine lv_goto (tgt := 1611) hx hb d_Law_law_659 (by decide) ?_
    have hl : lv_has ls 8 [(4, .int (nI i)), (3, .ref (b + 510)), (2, .ref (b + 501)), (1, .ref b), (0, .ref sb)] := lv_sub hl [1, 2, 3, 4, 5] rfl
    exact hN _ _ ls _ _ _ _ _ _ (hG.frq hb0 (nMT_fr hfr6)) hM (TW.mk hmr hmq hG.2.1 hfr6 (fun q h => nMT_ge h) hcw1 hbd.1 (hrl.sc (uI_hi (nt_S hok.1))) hc0 hm0 ht0 hj0 hc7 hm7 hj7) hX hF hl
  · skip
    have hM : MVP g (nMT (b + 501)) H2 (b + 501) 1 pn tn wn A := by
      rcases hq6 with ⟨h, -⟩ | ⟨-, h⟩
      · exact absurd h hok
      · exact h
    refine lv_aload_n hx hb d_Law_law_648 rfl (lv_at hl 3 rfl) ?_
    obtain ⟨w9, n9, hob⟩ := hM.ob
    refine q_cV (rest := []) E ((c_Model_thrown l g (nMT (b + 501)) (b + 501) 1).up (nMT_up hb0)) w_1048 w_15 w_1045 w_1046 w_1047 hd_Model_thrown rfl ⟨by decide, by decide⟩ (OB.recv E.2.2.2.2.2 (by rfl) hob) hM.th hF hl.1 rfl (Nat.le_of_ble_eq_true rfl) d_Law_law_649 hc (qi (fun r7 H3 locs hq7 hF => ?_))
    obtain ⟨rfl, hH7⟩ := hq7
    have hH7 := hH7.symm
    subst hH7
    refine lv_iload hx hb d_Law_law_652 (lv_at hl 0 rfl) ?_
    refine lv_icmp_eq (tgt := 659) hx hb d_Law_law_654 (by decide) (fun _ => ?_) (fun h9 => absurd (rfl) h9)
    refine lv_goto (tgt := 1611) hx hb d_Law_law_659 (by decide) ?_
    have hl : lv_has ls 8 [(4, .int (nI i)), (3, .ref (b + 510)), (2, .ref (b + 501)), (1, .ref b), (0, .ref sb)] := lv_sub hl [1, 2, 3, 4, 5] rfl
    exact hN _ _ ls _ _ _ _ _ _ (hG.frq hb0 (nMT_fr hfr6)) hM (TW.mk hmr hmq hG.2.1 hfr6 (fun q h => nMT_ge h) hcw1 hbd.1 hrl hc0 hm0 ht0 hj0 hc7 hm7 hj7) hX hF hl
set_option maxHeartbeats 4000000 in
set_option maxRecDepth 100000 in
theorem k_point {p : Program} {l : Launch} {e : Env} {s : State} {m : MethodId} {below : List Frame} {meth : Method} {c : Code} {g : WG} {sb L : Nat} {xs : Nat → Int32} {b : Nat} {mr mq : Int64} {H : Heap} {locs : List Loc} {ls : Array Slot} {th : Int32} {pn tn wn wm i cells slots : Nat} {A : Nat → Int} (E : EV p m c code 8 s #[Value.ref sb] "KateDeskLaw" g) (hr : meth.sig.returnType = ret) (hlk : meth.locks = false) (hb0 : s.heap.size ≤ b) (hsb : sb < s.heap.size) (hxs : XS l s) (hL : L ≤ 3072) (hi : i + 6 ≤ L) (hc : cells + 1 ≤ room_1.cells ∧ slots + 6 ≤ room_1.slots) (hN : LNX p l e s m below meth c g sb L xs b mr mq i (cells + 1) (slots + 6)) (hG : LG g s H b pn tn wn mr mq) (hM : MVP g (nMT (b + 501)) H (b + 501) th pn tn wm A) (hT : TW g H b pn tn wn wm A mr mq) (hX : va_X sb L xs s H) (hF : ∀ q ∈ locs, HXA s q.base) (hl : lv_has ls 8 [(4, .int (nI i)), (3, .ref (b + 510)), (2, .ref (b + 501)), (1, .ref b), (0, .ref sb)]) : W p l e room_1 s m #[Value.ref sb] below meth c H locs cells slots (lw_Z below #[Value.ref sb] s) (F0 m 662 ls []) := by
  have hx := E.1
  have hb := E.2.1
  have hK := E.2.2.2.2.2
  have hw0 := State.WarmedH.refl s
  obtain ⟨⟨hmr, hmq, rfl⟩, ⟨hR0, c0, m0, t0, hc0, hm0, ht0, hj0⟩, ⟨c7, m7, t7, hc7, hm7, hj7⟩, P, V, hcw, hrl⟩ := id hT
  clear hT
  have hbd := hM.2.2.2.2.2.1
  refine lv_aload_n hx hb d_Law_law_662 rfl (lv_at hl 3 rfl) ?_
  refine lv_aload_n hx hb d_Law_law_663 rfl (lv_at hl 4 rfl) ?_
  refine lv_iload hx hb d_Law_law_664 (lv_at hl 0 rfl) ?_
  refine lv_iconst (v := nI 1) hx hb d_Law_law_666 (by decide) ?_
  refine lv_iadd hx hb d_Law_law_667 ?_
  refine lv_topi (fun t9 e9 => ?_)
  obtain rfl : t9 = nI (i + 1) := e9.trans (nI_add _ _)
  refine q_xld E hX (i + 1) rfl (by omega) (by omega) d_Law_law_668 ?_
  refine lv_aload_n hx hb d_Law_law_669 rfl (lv_at hl 1 rfl) ?_
  refine q_cSH (rest := []) E hw0 (XH_point l g s hxs b pn tn wn mr mq hb0 (xs (i + 1)) hmr hmq A P V c0 t0 ht0 (fun j hj => (hj0 j hj).1)) w_615 w_0 w_613 w_614 hd_Law_point rfl ⟨by decide, by decide⟩ ⟨hG, hcw, hc0⟩ hF hl.1 rfl (Nat.le_of_ble_eq_true rfl) d_Law_law_670 hc (qi (fun r5 H1 locs hq hF => ?_))
  obtain ⟨hq, hfr⟩ := hq
  have hX := hX.kept (hfr sb (Or.inl (Nat.lt_of_lt_of_le hsb hb0)))
  have hM := hM.on (fun q h1 h2 => hfr q (Or.inr (Or.inl ⟨h1, h2⟩)))
  have hm0 : AI g H1 (b + 501 + 6) 96 m0 := AI.eq hm0 (hfr _ (Or.inr (Or.inl ⟨by omega, by omega⟩)))
  have hm7 : AI g H1 (b + 501 + 7) 96 m7 := AI.eq hm7 (hfr _ (Or.inr (Or.inl ⟨by omega, by omega⟩)))
  have hc0 : AB g H1 (b + 149) 96 c0 := hc0.eq (hfr _ (Or.inr (Or.inr (Or.inl rfl))))
  have hc7 : AB g H1 (b + 151) 96 c7 := hc7.eq (hfr _ (Or.inr (Or.inr (Or.inr rfl))))
  refine lv_istore (lv' := [(5, .int r5), (4, .int (nI i)), (3, .ref (b + 510)), (2, .ref (b + 501)), (1, .ref b), (0, .ref sb)]) hx hb d_Law_law_673 hl (by decide) rfl (fun ls hl => ?_)
  refine lv_aload_n hx hb d_Law_law_675 rfl (lv_at hl 3 rfl) ?_
  refine lv_aload_n hx hb d_Law_law_676 rfl (lv_at hl 5 rfl) ?_
  refine lv_iload hx hb d_Law_law_677 (lv_at hl 1 rfl) ?_
  refine lv_iconst (v := nI 1) hx hb d_Law_law_679 (by decide) ?_
  refine lv_iadd hx hb d_Law_law_680 ?_
  refine lv_topi (fun t9 e9 => ?_)
  obtain rfl : t9 = nI (i + 1) := e9.trans (nI_add _ _)
  refine q_xld E hX (i + 1) rfl (by omega) (by omega) d_Law_law_681 ?_
  obtain ⟨w9, n9, hob⟩ := hM.ob
  refine q_cV (rest := []) E ((W_Model_point l g (nMT (b + 501)) (b + 501) th pn tn wn A (xs (i + 1)) m0 t0 ht0 (fun j hj => (hj0 j hj).2)).frI (nMT_up hb0)) w_1148 w_15 w_1145 w_1146 w_1147 hd_Model_point rfl ⟨by decide, by decide⟩ (OB.recv E.2.2.2.2.2 (by rfl) hob) (⟨hM, hm0⟩) hF hl.1 rfl (Nat.le_of_ble_eq_true rfl) d_Law_law_682 hc (qi (fun r6 H2 locs hq6 hF => ?_))
  obtain ⟨hq6, hfr6⟩ := hq6
  have hX := hX.kept (hfr6.2 sb hX.lt (nMT_n (nM_lt hb0 hsb)))
  clear hob hM
  have hm7 := ai_T7 hm7 hfr6
  have hm0 := ai_T6 hm0 hfr6
  rcases hq with ⟨hok, rfl, hG, k1, n7, T, e1, b1, hpa, hA, hcw1⟩ | ⟨hok, rfl, hG, hcw1⟩
  · skip
    obtain ⟨T', h69, hM⟩ : ∃ T', r6 = nI n7 ∧ ((n7 = 0 ∧ PE T T' ∧ MVP g (nMT (b + 501)) H2 (b + 501) 0 pn 0 wn (updP A (32 + 3 * k1) T')) ∨ (n7 ≠ 0 ∧ MVP g (nMT (b + 501)) H2 (b + 501) 0 pn 0 wn A)) := by
      rcases hq6 with ⟨-, j1, n8, T', f1, b2, hr6, hpb, h⟩ | ⟨h, -⟩
      · obtain rfl := ni_un e1 f1 (by omega) (by omega)
        obtain ⟨e9, hPT⟩ := hpa.un hpb
        subst e9
        exact ⟨T', hr6, h.imp (fun h => ⟨h.1, hPT h.1, h.2⟩) id⟩
      · exact absurd hok h
    subst h69
    rcases hcw1 with ⟨z9, hcw1⟩ | ⟨z9, hcw1⟩
    · skip
      obtain ⟨-, hPT, hM⟩ := hM.resolve_right (fun h => h.1 z9)
      refine lv_istore (lv' := [(6, .int (nI n7)), (5, .int (nI 0)), (4, .int (nI i)), (3, .ref (b + 510)), (2, .ref (b + 501)), (1, .ref b), (0, .ref sb)]) hx hb d_Law_law_685 hl (by decide) rfl (fun ls hl => ?_)
      refine lv_aload_n hx hb d_Law_law_687 rfl (lv_at hl 4 rfl) ?_
      obtain ⟨w9, n9, hob⟩ := hM.ob
      refine q_cV (rest := []) E ((c_Model_thrown l g (nMT (b + 501)) (b + 501) 0).up (nMT_up hb0)) w_1048 w_15 w_1045 w_1046 w_1047 hd_Model_thrown rfl ⟨by decide, by decide⟩ (OB.recv E.2.2.2.2.2 (by rfl) hob) hM.th hF hl.1 rfl (Nat.le_of_ble_eq_true rfl) d_Law_law_688 hc (qi (fun r7 H3 locs hq7 hF => ?_))
      obtain ⟨rfl, hH7⟩ := hq7
      have hH7 := hH7.symm
      subst hH7
      refine lv_iload hx hb d_Law_law_691 (lv_at hl 1 rfl) ?_
      refine lv_icmp_eq (tgt := 698) hx hb d_Law_law_693 (by decide) (fun _ => ?_) (fun h9 => absurd (rfl) h9)
      refine lv_iload hx hb d_Law_law_698 (lv_at hl 1 rfl) ?_
      refine lv_if_ne (tgt := 715) hx hb d_Law_law_700 (by decide) (fun h9 => absurd (rfl) h9) (fun _ => ?_)
      refine lv_aload_n hx hb d_Law_law_703 rfl (lv_at hl 3 rfl) ?_
      refine lv_iconst (v := nI 0) hx hb d_Law_law_704 (by decide) ?_
      refine q_lald (N := 1) (f := (fun _ => (nI n7).toInt64)) E (hA.eq (hfr6.2 (b + 510) hA.lt (nMT_n nM_510))) 0 rfl (by decide) (by decide) d_Law_law_705 ?_
      refine lv_iload hx hb d_Law_law_706 (lv_at hl 0 rfl) ?_
      refine lv_i2l (v := (nI n7).toInt64) hx hb d_Law_law_708 rfl ?_
      refine W.lcmp hx hb d_Law_law_709 ?_
      refine lv_if_eq (tgt := 715) hx hb d_Law_law_710 (by decide) (fun _ => ?_) (fun h9 => absurd (l2i_eq rfl) h9)
      refine lv_goto (tgt := 1611) hx hb d_Law_law_715 (by decide) ?_
      have hl : lv_has ls 8 [(4, .int (nI i)), (3, .ref (b + 510)), (2, .ref (b + 501)), (1, .ref b), (0, .ref sb)] := lv_sub hl [2, 3, 4, 5, 6] rfl
      exact hN _ _ ls _ _ _ _ _ _ (hG.frq hb0 (nMT_fr hfr6)) hM (TW.mk hmr hmq hG.2.1 hfr6 (fun q h => nMT_ge h) (hcw1.upd (upP_lo (by omega))) hbd.1 (hrl.set b1 hbd.1 hPT) hc0 hm0 ht0 (fun j hj => absurd hj (Nat.not_lt_zero _)) hc7 hm7 hj7) hX hF hl
    · skip
      have hM := (hM.resolve_left (fun h => z9 h.1)).2
      refine lv_istore (lv' := [(6, .int (nI n7)), (5, .int (nI 0)), (4, .int (nI i)), (3, .ref (b + 510)), (2, .ref (b + 501)), (1, .ref b), (0, .ref sb)]) hx hb d_Law_law_685 hl (by decide) rfl (fun ls hl => ?_)
      refine lv_aload_n hx hb d_Law_law_687 rfl (lv_at hl 4 rfl) ?_
      obtain ⟨w9, n9, hob⟩ := hM.ob
      refine q_cV (rest := []) E ((c_Model_thrown l g (nMT (b + 501)) (b + 501) 0).up (nMT_up hb0)) w_1048 w_15 w_1045 w_1046 w_1047 hd_Model_thrown rfl ⟨by decide, by decide⟩ (OB.recv E.2.2.2.2.2 (by rfl) hob) hM.th hF hl.1 rfl (Nat.le_of_ble_eq_true rfl) d_Law_law_688 hc (qi (fun r7 H3 locs hq7 hF => ?_))
      obtain ⟨rfl, hH7⟩ := hq7
      have hH7 := hH7.symm
      subst hH7
      refine lv_iload hx hb d_Law_law_691 (lv_at hl 1 rfl) ?_
      refine lv_icmp_eq (tgt := 698) hx hb d_Law_law_693 (by decide) (fun _ => ?_) (fun h9 => absurd (rfl) h9)
      refine lv_iload hx hb d_Law_law_698 (lv_at hl 1 rfl) ?_
      refine lv_if_ne (tgt := 715) hx hb d_Law_law_700 (by decide) (fun h9 => absurd (rfl) h9) (fun _ => ?_)
      refine lv_aload_n hx hb d_Law_law_703 rfl (lv_at hl 3 rfl) ?_
      refine lv_iconst (v := nI 0) hx hb d_Law_law_704 (by decide) ?_
      refine q_lald (N := 1) (f := (fun _ => (nI n7).toInt64)) E (hA.eq (hfr6.2 (b + 510) hA.lt (nMT_n nM_510))) 0 rfl (by decide) (by decide) d_Law_law_705 ?_
      refine lv_iload hx hb d_Law_law_706 (lv_at hl 0 rfl) ?_
      refine lv_i2l (v := (nI n7).toInt64) hx hb d_Law_law_708 rfl ?_
      refine W.lcmp hx hb d_Law_law_709 ?_
      refine lv_if_eq (tgt := 715) hx hb d_Law_law_710 (by decide) (fun _ => ?_) (fun h9 => absurd (l2i_eq rfl) h9)
      refine lv_goto (tgt := 1611) hx hb d_Law_law_715 (by decide) ?_
      have hl : lv_has ls 8 [(4, .int (nI i)), (3, .ref (b + 510)), (2, .ref (b + 501)), (1, .ref b), (0, .ref sb)] := lv_sub hl [2, 3, 4, 5, 6] rfl
      exact hN _ _ ls _ _ _ _ _ _ (hG.frq hb0 (nMT_fr hfr6)) hM (TW.mk hmr hmq hG.2.1 hfr6 (fun q h => nMT_ge h) hcw1 hbd.1 hrl hc0 hm0 ht0 (fun j hj => absurd hj (Nat.not_lt_zero _)) hc7 hm7 hj7) hX hF hl
  · skip
    have hM : MVP g (nMT (b + 501)) H2 (b + 501) 1 pn tn wn A := by
      rcases hq6 with ⟨h, -⟩ | ⟨-, h⟩
      · exact absurd h hok
      · exact h
    refine lv_istore (lv' := [(6, .int r6), (5, .int (nI 1)), (4, .int (nI i)), (3, .ref (b + 510)), (2, .ref (b + 501)), (1, .ref b), (0, .ref sb)]) hx hb d_Law_law_685 hl (by decide) rfl (fun ls hl => ?_)
    refine lv_aload_n hx hb d_Law_law_687 rfl (lv_at hl 4 rfl) ?_
    obtain ⟨w9, n9, hob⟩ := hM.ob
    refine q_cV (rest := []) E ((c_Model_thrown l g (nMT (b + 501)) (b + 501) 1).up (nMT_up hb0)) w_1048 w_15 w_1045 w_1046 w_1047 hd_Model_thrown rfl ⟨by decide, by decide⟩ (OB.recv E.2.2.2.2.2 (by rfl) hob) hM.th hF hl.1 rfl (Nat.le_of_ble_eq_true rfl) d_Law_law_688 hc (qi (fun r7 H3 locs hq7 hF => ?_))
    obtain ⟨rfl, hH7⟩ := hq7
    have hH7 := hH7.symm
    subst hH7
    refine lv_iload hx hb d_Law_law_691 (lv_at hl 1 rfl) ?_
    refine lv_icmp_eq (tgt := 698) hx hb d_Law_law_693 (by decide) (fun _ => ?_) (fun h9 => absurd (rfl) h9)
    refine lv_iload hx hb d_Law_law_698 (lv_at hl 1 rfl) ?_
    refine lv_if_ne (tgt := 715) hx hb d_Law_law_700 (by decide) (fun _ => ?_) (fun h9 => absurd h9 (by decide))
    refine lv_goto (tgt := 1611) hx hb d_Law_law_715 (by decide) ?_
    have hl : lv_has ls 8 [(4, .int (nI i)), (3, .ref (b + 510)), (2, .ref (b + 501)), (1, .ref b), (0, .ref sb)] := lv_sub hl [2, 3, 4, 5, 6] rfl
    exact hN _ _ ls _ _ _ _ _ _ (hG.frq hb0 (nMT_fr hfr6)) hM (TW.mk hmr hmq hG.2.1 hfr6 (fun q h => nMT_ge h) hcw1 hbd.1 hrl hc0 hm0 ht0 hj0 hc7 hm7 hj7) hX hF hl
set_option maxHeartbeats 4000000 in
set_option maxRecDepth 100000 in
theorem k_bytes {p : Program} {l : Launch} {e : Env} {s : State} {m : MethodId} {below : List Frame} {meth : Method} {c : Code} {g : WG} {sb L : Nat} {xs : Nat → Int32} {b : Nat} {mr mq : Int64} {H : Heap} {locs : List Loc} {ls : Array Slot} {th : Int32} {pn tn wn wm i cells slots : Nat} {A : Nat → Int} (E : EV p m c code 8 s #[Value.ref sb] "KateDeskLaw" g) (hr : meth.sig.returnType = ret) (hlk : meth.locks = false) (hb0 : s.heap.size ≤ b) (hsb : sb < s.heap.size) (hxs : XS l s) (hL : L ≤ 3072) (hi : i + 6 ≤ L) (hc : cells + 1 ≤ room_1.cells ∧ slots + 6 ≤ room_1.slots) (hN : LNX p l e s m below meth c g sb L xs b mr mq i (cells + 1) (slots + 6)) (hG : LG g s H b pn tn wn mr mq) (hM : MVP g (nMT (b + 501)) H (b + 501) th pn tn wm A) (hT : TW g H b pn tn wn wm A mr mq) (hX : va_X sb L xs s H) (hF : ∀ q ∈ locs, HXA s q.base) (hl : lv_has ls 8 [(4, .int (nI i)), (3, .ref (b + 510)), (2, .ref (b + 501)), (1, .ref b), (0, .ref sb)]) : W p l e room_1 s m #[Value.ref sb] below meth c H locs cells slots (lw_Z below #[Value.ref sb] s) (F0 m 718 ls []) := by
  have hx := E.1
  have hb := E.2.1
  have hK := E.2.2.2.2.2
  have hw0 := State.WarmedH.refl s
  obtain ⟨⟨hmr, hmq, rfl⟩, ⟨hR0, c0, m0, t0, hc0, hm0, ht0, hj0⟩, ⟨c7, m7, t7, hc7, hm7, hj7⟩, P, V, hcw, hrl⟩ := id hT
  clear hT
  have hbd := hM.2.2.2.2.2.1
  by_cases hzb : xs (i + 2) = 0
  · skip
    refine lv_aload_n hx hb d_Law_law_718 rfl (lv_at hl 3 rfl) ?_
    refine lv_aload_n hx hb d_Law_law_719 rfl (lv_at hl 4 rfl) ?_
    refine lv_iload hx hb d_Law_law_720 (lv_at hl 0 rfl) ?_
    refine lv_iconst (v := nI 1) hx hb d_Law_law_722 (by decide) ?_
    refine lv_iadd hx hb d_Law_law_723 ?_
    refine lv_topi (fun t9 e9 => ?_)
    obtain rfl : t9 = nI (i + 1) := e9.trans (nI_add _ _)
    refine q_xld E hX (i + 1) rfl (by omega) (by omega) d_Law_law_724 ?_
    refine lv_aload_n hx hb d_Law_law_725 rfl (lv_at hl 4 rfl) ?_
    refine lv_iload hx hb d_Law_law_726 (lv_at hl 0 rfl) ?_
    refine lv_iconst (v := nI 2) hx hb d_Law_law_728 (by decide) ?_
    refine lv_iadd hx hb d_Law_law_729 ?_
    refine lv_topi (fun t9 e9 => ?_)
    obtain rfl : t9 = nI (i + 2) := e9.trans (nI_add _ _)
    refine q_xld E hX (i + 2) rfl (by omega) (by omega) d_Law_law_730 ?_
    refine lv_if_eq (tgt := 738) hx hb d_Law_law_731 (by decide) (fun _ => ?_) (fun h9 => absurd (hzb) h9)
    refine lv_iconst (v := nI 0) hx hb d_Law_law_738 (by decide) ?_
    refine q_cSH (rest := []) E hw0 (XH_bytes l g s hxs b pn tn wn mr mq hb0 (xs (i + 1)) (nI 0) hmr hmq A P V) w_733 w_0 w_731 w_732 hd_Law_bytes rfl ⟨by decide, by decide⟩ ⟨hG, hcw⟩ hF hl.1 rfl (Nat.le_of_ble_eq_true rfl) d_Law_law_739 hc (qi (fun r5 H1 locs hq hF => ?_))
    obtain ⟨hq, hfr⟩ := hq
    have hX := hX.kept (hfr sb (Or.inl (Nat.lt_of_lt_of_le hsb hb0)))
    have hM := hM.on (fun q h1 h2 => hfr q (Or.inr (Or.inl ⟨h1, h2⟩)))
    have hm0 : AI g H1 (b + 501 + 6) 96 m0 := AI.eq hm0 (hfr _ (Or.inr (Or.inl ⟨by omega, by omega⟩)))
    have hm7 : AI g H1 (b + 501 + 7) 96 m7 := AI.eq hm7 (hfr _ (Or.inr (Or.inl ⟨by omega, by omega⟩)))
    have hc0 : AB g H1 (b + 149) 96 c0 := hc0.eq (hfr _ (Or.inr (Or.inr rfl)))
    refine lv_istore (lv' := [(5, .int r5), (4, .int (nI i)), (3, .ref (b + 510)), (2, .ref (b + 501)), (1, .ref b), (0, .ref sb)]) hx hb d_Law_law_742 hl (by decide) rfl (fun ls hl => ?_)
    refine lv_aload_n hx hb d_Law_law_744 rfl (lv_at hl 3 rfl) ?_
    refine lv_aload_n hx hb d_Law_law_745 rfl (lv_at hl 5 rfl) ?_
    refine lv_iload hx hb d_Law_law_746 (lv_at hl 1 rfl) ?_
    refine lv_iconst (v := nI 1) hx hb d_Law_law_748 (by decide) ?_
    refine lv_iadd hx hb d_Law_law_749 ?_
    refine lv_topi (fun t9 e9 => ?_)
    obtain rfl : t9 = nI (i + 1) := e9.trans (nI_add _ _)
    refine q_xld E hX (i + 1) rfl (by omega) (by omega) d_Law_law_750 ?_
    refine lv_aload_n hx hb d_Law_law_751 rfl (lv_at hl 5 rfl) ?_
    refine lv_iload hx hb d_Law_law_752 (lv_at hl 1 rfl) ?_
    refine lv_iconst (v := nI 2) hx hb d_Law_law_754 (by decide) ?_
    refine lv_iadd hx hb d_Law_law_755 ?_
    refine lv_topi (fun t9 e9 => ?_)
    obtain rfl : t9 = nI (i + 2) := e9.trans (nI_add _ _)
    refine q_xld E hX (i + 2) rfl (by omega) (by omega) d_Law_law_756 ?_
    refine lv_if_eq (tgt := 764) hx hb d_Law_law_757 (by decide) (fun _ => ?_) (fun h9 => absurd (hzb) h9)
    refine lv_iconst (v := nI 0) hx hb d_Law_law_764 (by decide) ?_
    obtain ⟨w9, n9, hob⟩ := hM.ob
    refine q_cV (rest := []) E ((W_Model_bytes l g (nMB (b + 501)) (b + 501) th pn tn wn A (xs (i + 1)) (nI 0) (nMB_c (by decide)) m7).frV (nMB_up hb0)) w_1183 w_15 w_1180 w_1181 w_1182 hd_Model_bytes rfl ⟨by decide, by decide⟩ (OB.recv E.2.2.2.2.2 (by rfl) hob) (⟨hM.toB, hm7⟩) hF hl.1 rfl (Nat.le_of_ble_eq_true rfl) d_Law_law_765 hc (qv (fun H2 locs hq6 hF => ?_))
    obtain ⟨hq6, hfr6⟩ := hq6
    have hX := hX.kept (hfr6.2 sb hX.lt (nMB_n (nM_lt hb0 hsb)))
    clear hob hM
    have hm0 := ai_B6 hm0 hfr6
    rcases hq with ⟨hok, rfl, k1, n9, tb9, c9, e1, b1, hG, hAB, hTX, hcj, hcw1⟩ | ⟨hok, rfl, hG, hcw1, hfs⟩
    · skip
      obtain ⟨hM, tb8, ft, hft, hj9⟩ : MVP g (nMB (b + 501)) H2 (b + 501) 0 pn tn n9 A ∧ ∃ (tb8 : Nat → Nat) (ft : Nat → Int32), AI g H2 (b + 501 + 7) 96 ft ∧ ∀ j, j < n9 → c9 j &&& 255 = nI (tb8 j) ∧ ft j = nI (tb8 j) := by
        rcases hq6 with ⟨-, j1, f1, b2, n8, tb8, ft, hft, hTX8, hft8, h⟩ | ⟨h, -⟩
        · obtain rfl := ni_un e1 f1 (by omega) (by omega)
          obtain ⟨e9, htb⟩ := hTX.un (hrl.1 k1 b1) hTX8
          subst e9
          exact ⟨h, tb8, ft, hft, fun j hj => ⟨by rw [hcj j hj, htb j hj], hft8 j hj⟩⟩
        · exact absurd hok h
      have hM := hM.toT
      refine lv_aload_n hx hb d_Law_law_768 rfl (lv_at hl 3 rfl) ?_
      obtain ⟨w9, n9, hob⟩ := hM.ob
      refine q_cV (rest := []) E ((c_Model_thrown l g (nMT (b + 501)) (b + 501) 0).up (nMT_up hb0)) w_1048 w_15 w_1045 w_1046 w_1047 hd_Model_thrown rfl ⟨by decide, by decide⟩ (OB.recv E.2.2.2.2.2 (by rfl) hob) hM.th hF hl.1 rfl (Nat.le_of_ble_eq_true rfl) d_Law_law_769 hc (qi (fun r7 H3 locs hq7 hF => ?_))
      obtain ⟨rfl, hH7⟩ := hq7
      have hH7 := hH7.symm
      subst hH7
      refine lv_iload hx hb d_Law_law_772 (lv_at hl 0 rfl) ?_
      refine lv_icmp_eq (tgt := 779) hx hb d_Law_law_774 (by decide) (fun _ => ?_) (fun h9 => absurd (rfl) h9)
      refine lv_goto (tgt := 1611) hx hb d_Law_law_779 (by decide) ?_
      have hl : lv_has ls 8 [(4, .int (nI i)), (3, .ref (b + 510)), (2, .ref (b + 501)), (1, .ref b), (0, .ref sb)] := lv_sub hl [1, 2, 3, 4, 5] rfl
      exact hN _ _ ls _ _ _ _ _ _ (hG.frq hb0 (nMB_fr hfr6)) hM (TW.mk hmr hmq hG.2.1 hfr6 (fun q h => nMB_ge h) hcw1 hbd.1 hrl hc0 hm0 ht0 hj0 hAB hft hj9) hX hF hl
    · skip
      obtain ⟨hM, hm7⟩ : MVP g (nMB (b + 501)) H2 (b + 501) 1 pn tn wn A ∧ AI g H2 (b + 501 + 7) 96 m7 := by
        rcases hq6 with ⟨h, -⟩ | ⟨-, h, h7⟩
        · exact absurd h hok
        · exact ⟨h, h7⟩
      have hM := hM.toT
      refine lv_aload_n hx hb d_Law_law_768 rfl (lv_at hl 3 rfl) ?_
      obtain ⟨w9, n9, hob⟩ := hM.ob
      refine q_cV (rest := []) E ((c_Model_thrown l g (nMT (b + 501)) (b + 501) 1).up (nMT_up hb0)) w_1048 w_15 w_1045 w_1046 w_1047 hd_Model_thrown rfl ⟨by decide, by decide⟩ (OB.recv E.2.2.2.2.2 (by rfl) hob) hM.th hF hl.1 rfl (Nat.le_of_ble_eq_true rfl) d_Law_law_769 hc (qi (fun r7 H3 locs hq7 hF => ?_))
      obtain ⟨rfl, hH7⟩ := hq7
      have hH7 := hH7.symm
      subst hH7
      refine lv_iload hx hb d_Law_law_772 (lv_at hl 0 rfl) ?_
      refine lv_icmp_eq (tgt := 779) hx hb d_Law_law_774 (by decide) (fun _ => ?_) (fun h9 => absurd (rfl) h9)
      refine lv_goto (tgt := 1611) hx hb d_Law_law_779 (by decide) ?_
      have hl : lv_has ls 8 [(4, .int (nI i)), (3, .ref (b + 510)), (2, .ref (b + 501)), (1, .ref b), (0, .ref sb)] := lv_sub hl [1, 2, 3, 4, 5] rfl
      exact hN _ _ ls _ _ _ _ _ _ (hG.frq hb0 (nMB_fr hfr6)) hM (TW.mk hmr hmq hG.2.1 hfr6 (fun q h => nMB_ge h) hcw1 hbd.1 hrl hc0 hm0 ht0 hj0 (hc7.eq (hfs _ (Or.inr (Or.inr (Or.inr rfl))))) hm7 hj7) hX hF hl
  · skip
    refine lv_aload_n hx hb d_Law_law_718 rfl (lv_at hl 3 rfl) ?_
    refine lv_aload_n hx hb d_Law_law_719 rfl (lv_at hl 4 rfl) ?_
    refine lv_iload hx hb d_Law_law_720 (lv_at hl 0 rfl) ?_
    refine lv_iconst (v := nI 1) hx hb d_Law_law_722 (by decide) ?_
    refine lv_iadd hx hb d_Law_law_723 ?_
    refine lv_topi (fun t9 e9 => ?_)
    obtain rfl : t9 = nI (i + 1) := e9.trans (nI_add _ _)
    refine q_xld E hX (i + 1) rfl (by omega) (by omega) d_Law_law_724 ?_
    refine lv_aload_n hx hb d_Law_law_725 rfl (lv_at hl 4 rfl) ?_
    refine lv_iload hx hb d_Law_law_726 (lv_at hl 0 rfl) ?_
    refine lv_iconst (v := nI 2) hx hb d_Law_law_728 (by decide) ?_
    refine lv_iadd hx hb d_Law_law_729 ?_
    refine lv_topi (fun t9 e9 => ?_)
    obtain rfl : t9 = nI (i + 2) := e9.trans (nI_add _ _)
    refine q_xld E hX (i + 2) rfl (by omega) (by omega) d_Law_law_730 ?_
    refine lv_if_eq (tgt := 738) hx hb d_Law_law_731 (by decide) (fun h9 => absurd h9 (hzb)) (fun _ => ?_)
    refine lv_iconst (v := nI 1) hx hb d_Law_law_734 (by decide) ?_
    refine lv_goto (tgt := 739) hx hb d_Law_law_735 (by decide) ?_
    refine q_cSH (rest := []) E hw0 (XH_bytes l g s hxs b pn tn wn mr mq hb0 (xs (i + 1)) (nI 1) hmr hmq A P V) w_733 w_0 w_731 w_732 hd_Law_bytes rfl ⟨by decide, by decide⟩ ⟨hG, hcw⟩ hF hl.1 rfl (Nat.le_of_ble_eq_true rfl) d_Law_law_739 hc (qi (fun r5 H1 locs hq hF => ?_))
    obtain ⟨hq, hfr⟩ := hq
    have hX := hX.kept (hfr sb (Or.inl (Nat.lt_of_lt_of_le hsb hb0)))
    have hM := hM.on (fun q h1 h2 => hfr q (Or.inr (Or.inl ⟨h1, h2⟩)))
    have hm0 : AI g H1 (b + 501 + 6) 96 m0 := AI.eq hm0 (hfr _ (Or.inr (Or.inl ⟨by omega, by omega⟩)))
    have hm7 : AI g H1 (b + 501 + 7) 96 m7 := AI.eq hm7 (hfr _ (Or.inr (Or.inl ⟨by omega, by omega⟩)))
    have hc0 : AB g H1 (b + 149) 96 c0 := hc0.eq (hfr _ (Or.inr (Or.inr rfl)))
    refine lv_istore (lv' := [(5, .int r5), (4, .int (nI i)), (3, .ref (b + 510)), (2, .ref (b + 501)), (1, .ref b), (0, .ref sb)]) hx hb d_Law_law_742 hl (by decide) rfl (fun ls hl => ?_)
    refine lv_aload_n hx hb d_Law_law_744 rfl (lv_at hl 3 rfl) ?_
    refine lv_aload_n hx hb d_Law_law_745 rfl (lv_at hl 5 rfl) ?_
    refine lv_iload hx hb d_Law_law_746 (lv_at hl 1 rfl) ?_
    refine lv_iconst (v := nI 1) hx hb d_Law_law_748 (by decide) ?_
    refine lv_iadd hx hb d_Law_law_749 ?_
    refine lv_topi (fun t9 e9 => ?_)
    obtain rfl : t9 = nI (i + 1) := e9.trans (nI_add _ _)
    refine q_xld E hX (i + 1) rfl (by omega) (by omega) d_Law_law_750 ?_
    refine lv_aload_n hx hb d_Law_law_751 rfl (lv_at hl 5 rfl) ?_
    refine lv_iload hx hb d_Law_law_752 (lv_at hl 1 rfl) ?_
    refine lv_iconst (v := nI 2) hx hb d_Law_law_754 (by decide) ?_
    refine lv_iadd hx hb d_Law_law_755 ?_
    refine lv_topi (fun t9 e9 => ?_)
    obtain rfl : t9 = nI (i + 2) := e9.trans (nI_add _ _)
    refine q_xld E hX (i + 2) rfl (by omega) (by omega) d_Law_law_756 ?_
    refine lv_if_eq (tgt := 764) hx hb d_Law_law_757 (by decide) (fun h9 => absurd h9 (hzb)) (fun _ => ?_)
    refine lv_iconst (v := nI 1) hx hb d_Law_law_760 (by decide) ?_
    refine lv_goto (tgt := 765) hx hb d_Law_law_761 (by decide) ?_
    obtain ⟨w9, n9, hob⟩ := hM.ob
    refine q_cV (rest := []) E ((W_Model_bytes l g (nMB (b + 501)) (b + 501) th pn tn wn A (xs (i + 1)) (nI 1) (nMB_c (by decide)) m7).frV (nMB_up hb0)) w_1183 w_15 w_1180 w_1181 w_1182 hd_Model_bytes rfl ⟨by decide, by decide⟩ (OB.recv E.2.2.2.2.2 (by rfl) hob) (⟨hM.toB, hm7⟩) hF hl.1 rfl (Nat.le_of_ble_eq_true rfl) d_Law_law_765 hc (qv (fun H2 locs hq6 hF => ?_))
    obtain ⟨hq6, hfr6⟩ := hq6
    have hX := hX.kept (hfr6.2 sb hX.lt (nMB_n (nM_lt hb0 hsb)))
    clear hob hM
    have hm0 := ai_B6 hm0 hfr6
    rcases hq with ⟨hok, rfl, k1, n9, tb9, c9, e1, b1, hG, hAB, hTX, hcj, hcw1⟩ | ⟨hok, rfl, hG, hcw1, hfs⟩
    · skip
      obtain ⟨hM, tb8, ft, hft, hj9⟩ : MVP g (nMB (b + 501)) H2 (b + 501) 0 pn tn n9 A ∧ ∃ (tb8 : Nat → Nat) (ft : Nat → Int32), AI g H2 (b + 501 + 7) 96 ft ∧ ∀ j, j < n9 → c9 j &&& 255 = nI (tb8 j) ∧ ft j = nI (tb8 j) := by
        rcases hq6 with ⟨-, j1, f1, b2, n8, tb8, ft, hft, hTX8, hft8, h⟩ | ⟨h, -⟩
        · obtain rfl := ni_un e1 f1 (by omega) (by omega)
          obtain ⟨e9, htb⟩ := hTX.un (hrl.1 k1 b1) hTX8
          subst e9
          exact ⟨h, tb8, ft, hft, fun j hj => ⟨by rw [hcj j hj, htb j hj], hft8 j hj⟩⟩
        · exact absurd hok h
      have hM := hM.toT
      refine lv_aload_n hx hb d_Law_law_768 rfl (lv_at hl 3 rfl) ?_
      obtain ⟨w9, n9, hob⟩ := hM.ob
      refine q_cV (rest := []) E ((c_Model_thrown l g (nMT (b + 501)) (b + 501) 0).up (nMT_up hb0)) w_1048 w_15 w_1045 w_1046 w_1047 hd_Model_thrown rfl ⟨by decide, by decide⟩ (OB.recv E.2.2.2.2.2 (by rfl) hob) hM.th hF hl.1 rfl (Nat.le_of_ble_eq_true rfl) d_Law_law_769 hc (qi (fun r7 H3 locs hq7 hF => ?_))
      obtain ⟨rfl, hH7⟩ := hq7
      have hH7 := hH7.symm
      subst hH7
      refine lv_iload hx hb d_Law_law_772 (lv_at hl 0 rfl) ?_
      refine lv_icmp_eq (tgt := 779) hx hb d_Law_law_774 (by decide) (fun _ => ?_) (fun h9 => absurd (rfl) h9)
      refine lv_goto (tgt := 1611) hx hb d_Law_law_779 (by decide) ?_
      have hl : lv_has ls 8 [(4, .int (nI i)), (3, .ref (b + 510)), (2, .ref (b + 501)), (1, .ref b), (0, .ref sb)] := lv_sub hl [1, 2, 3, 4, 5] rfl
      exact hN _ _ ls _ _ _ _ _ _ (hG.frq hb0 (nMB_fr hfr6)) hM (TW.mk hmr hmq hG.2.1 hfr6 (fun q h => nMB_ge h) hcw1 hbd.1 hrl hc0 hm0 ht0 hj0 hAB hft hj9) hX hF hl
    · skip
      obtain ⟨hM, hm7⟩ : MVP g (nMB (b + 501)) H2 (b + 501) 1 pn tn wn A ∧ AI g H2 (b + 501 + 7) 96 m7 := by
        rcases hq6 with ⟨h, -⟩ | ⟨-, h, h7⟩
        · exact absurd h hok
        · exact ⟨h, h7⟩
      have hM := hM.toT
      refine lv_aload_n hx hb d_Law_law_768 rfl (lv_at hl 3 rfl) ?_
      obtain ⟨w9, n9, hob⟩ := hM.ob
      refine q_cV (rest := []) E ((c_Model_thrown l g (nMT (b + 501)) (b + 501) 1).up (nMT_up hb0)) w_1048 w_15 w_1045 w_1046 w_1047 hd_Model_thrown rfl ⟨by decide, by decide⟩ (OB.recv E.2.2.2.2.2 (by rfl) hob) hM.th hF hl.1 rfl (Nat.le_of_ble_eq_true rfl) d_Law_law_769 hc (qi (fun r7 H3 locs hq7 hF => ?_))
      obtain ⟨rfl, hH7⟩ := hq7
      have hH7 := hH7.symm
      subst hH7
      refine lv_iload hx hb d_Law_law_772 (lv_at hl 0 rfl) ?_
      refine lv_icmp_eq (tgt := 779) hx hb d_Law_law_774 (by decide) (fun _ => ?_) (fun h9 => absurd (rfl) h9)
      refine lv_goto (tgt := 1611) hx hb d_Law_law_779 (by decide) ?_
      have hl : lv_has ls 8 [(4, .int (nI i)), (3, .ref (b + 510)), (2, .ref (b + 501)), (1, .ref b), (0, .ref sb)] := lv_sub hl [1, 2, 3, 4, 5] rfl
      exact hN _ _ ls _ _ _ _ _ _ (hG.frq hb0 (nMB_fr hfr6)) hM (TW.mk hmr hmq hG.2.1 hfr6 (fun q h => nMB_ge h) hcw1 hbd.1 hrl hc0 hm0 ht0 hj0 (hc7.eq (hfs _ (Or.inr (Or.inr (Or.inr rfl))))) hm7 hj7) hX hF hl
set_option maxHeartbeats 4000000 in
set_option maxRecDepth 100000 in
theorem k_out {p : Program} {l : Launch} {e : Env} {s : State} {m : MethodId} {below : List Frame} {meth : Method} {c : Code} {g : WG} {sb L : Nat} {xs : Nat → Int32} {b : Nat} {mr mq : Int64} {H : Heap} {locs : List Loc} {ls : Array Slot} {th : Int32} {pn tn wn wm i cells slots : Nat} {A : Nat → Int} (E : EV p m c code 8 s #[Value.ref sb] "KateDeskLaw" g) (hr : meth.sig.returnType = ret) (hlk : meth.locks = false) (hb0 : s.heap.size ≤ b) (hsb : sb < s.heap.size) (hxs : XS l s) (hL : L ≤ 3072) (hi : i + 6 ≤ L) (hc : cells + 1 ≤ room_1.cells ∧ slots + 6 ≤ room_1.slots) (hN : LNX p l e s m below meth c g sb L xs b mr mq i (cells + 1) (slots + 6)) (hG : LG g s H b pn tn wn mr mq) (hM : MVP g (nMT (b + 501)) H (b + 501) th pn tn wm A) (hT : TW g H b pn tn wn wm A mr mq) (hX : va_X sb L xs s H) (hF : ∀ q ∈ locs, HXA s q.base) (hl : lv_has ls 8 [(4, .int (nI i)), (3, .ref (b + 510)), (2, .ref (b + 501)), (1, .ref b), (0, .ref sb)]) : W p l e room_1 s m #[Value.ref sb] below meth c H locs cells slots (lw_Z below #[Value.ref sb] s) (F0 m 782 ls []) := by
  have hx := E.1
  have hb := E.2.1
  have hK := E.2.2.2.2.2
  have hw0 := State.WarmedH.refl s
  obtain ⟨⟨hmr, hmq, rfl⟩, ⟨hR0, c0, m0, t0, hc0, hm0, ht0, hj0⟩, ⟨c7, m7, t7, hc7, hm7, hj7⟩, P, V, hcw, hrl⟩ := id hT
  clear hT
  have hbd := hM.2.2.2.2.2.1
  refine lv_aload_n hx hb d_Law_law_782 rfl (lv_at hl 3 rfl) ?_
  refine lv_aload_n hx hb d_Law_law_783 rfl (lv_at hl 4 rfl) ?_
  refine lv_iload hx hb d_Law_law_784 (lv_at hl 0 rfl) ?_
  refine lv_iconst (v := nI 1) hx hb d_Law_law_786 (by decide) ?_
  refine lv_iadd hx hb d_Law_law_787 ?_
  refine lv_topi (fun t9 e9 => ?_)
  obtain rfl : t9 = nI (i + 1) := e9.trans (nI_add _ _)
  refine q_xld E hX (i + 1) rfl (by omega) (by omega) d_Law_law_788 ?_
  refine lv_aload_n hx hb d_Law_law_789 rfl (lv_at hl 1 rfl) ?_
  refine q_cSH (rest := []) E hw0 (XH_out l g s hxs b pn tn wn mr mq hb0 (xs (i + 1)) hmr hmq A P V c7 t7 (fun j hj => (hj7 j hj).1)) w_751 w_0 w_749 w_750 hd_Law_out rfl ⟨by decide, by decide⟩ ⟨hG, hcw, hc7⟩ hF hl.1 rfl (Nat.le_of_ble_eq_true rfl) d_Law_law_790 hc (qi (fun r5 H1 locs hq hF => ?_))
  obtain ⟨hq, hfr⟩ := hq
  have hX := hX.kept (hfr sb (Or.inl (Nat.lt_of_lt_of_le hsb hb0)))
  have hM := hM.on (fun q h1 h2 => hfr q (Or.inr (Or.inl ⟨h1, h2⟩)))
  have hm0 : AI g H1 (b + 501 + 6) 96 m0 := AI.eq hm0 (hfr _ (Or.inr (Or.inl ⟨by omega, by omega⟩)))
  have hm7 : AI g H1 (b + 501 + 7) 96 m7 := AI.eq hm7 (hfr _ (Or.inr (Or.inl ⟨by omega, by omega⟩)))
  have hc0 : AB g H1 (b + 149) 96 c0 := hc0.eq (hfr _ (Or.inr (Or.inr (Or.inl rfl))))
  have hc7 : AB g H1 (b + 151) 96 c7 := hc7.eq (hfr _ (Or.inr (Or.inr (Or.inr rfl))))
  refine lv_istore (lv' := [(5, .int r5), (4, .int (nI i)), (3, .ref (b + 510)), (2, .ref (b + 501)), (1, .ref b), (0, .ref sb)]) hx hb d_Law_law_793 hl (by decide) rfl (fun ls hl => ?_)
  refine lv_aload_n hx hb d_Law_law_795 rfl (lv_at hl 3 rfl) ?_
  refine lv_aload_n hx hb d_Law_law_796 rfl (lv_at hl 5 rfl) ?_
  refine lv_iload hx hb d_Law_law_797 (lv_at hl 1 rfl) ?_
  refine lv_iconst (v := nI 1) hx hb d_Law_law_799 (by decide) ?_
  refine lv_iadd hx hb d_Law_law_800 ?_
  refine lv_topi (fun t9 e9 => ?_)
  obtain rfl : t9 = nI (i + 1) := e9.trans (nI_add _ _)
  refine q_xld E hX (i + 1) rfl (by omega) (by omega) d_Law_law_801 ?_
  obtain ⟨w9, n9, hob⟩ := hM.ob
  refine q_cV (rest := []) E ((W_Model_out l g (nMT (b + 501)) (b + 501) th pn tn wn A (xs (i + 1)) m7 t7 (fun j hj => (hj7 j hj).2)).frL (nMT_up hb0)) w_1191 w_15 w_1188 w_1189 w_1190 hd_Model_out rfl ⟨by decide, by decide⟩ (OB.recv E.2.2.2.2.2 (by rfl) hob) (⟨hM, hm7⟩) hF hl.1 rfl (Nat.le_of_ble_eq_true rfl) d_Law_law_802 hc (ql (fun r6 H2 locs hq6 hF => ?_))
  obtain ⟨hq6, hfr6⟩ := hq6
  have hX := hX.kept (hfr6.2 sb hX.lt (nMT_n (nM_lt hb0 hsb)))
  clear hob hM
  have hm7 := ai_T7 hm7 hfr6
  have hm0 := ai_T6 hm0 hfr6
  rcases hq with ⟨hok, rfl, hG, hcw1, k1, e1, b1, hA⟩ | ⟨hok, rfl, hG, hcw1⟩
  · skip
    obtain ⟨hM, h69⟩ : MVP g (nMT (b + 501)) H2 (b + 501) 0 pn tn wn A ∧ r6 = OU9 t7 k1 wn 8 := by
      rcases hq6 with ⟨-, j1, f1, b2, hr8, h⟩ | ⟨h, -⟩
      · obtain rfl := ni_un e1 f1 (by omega) (by omega)
        exact ⟨h, hr8⟩
      · exact absurd (out_ok hbd.2.2 e1 b1) h
    subst h69
    refine lv_lstore (lv' := [(6, .long (OU9 t7 k1 wn 8)), (5, .int (nI 0)), (4, .int (nI i)), (3, .ref (b + 510)), (2, .ref (b + 501)), (1, .ref b), (0, .ref sb)]) hx hb d_Law_law_805 hl (by decide) rfl (fun ls hl => ?_)
    refine lv_aload_n hx hb d_Law_law_807 rfl (lv_at hl 4 rfl) ?_
    obtain ⟨w9, n9, hob⟩ := hM.ob
    refine q_cV (rest := []) E ((c_Model_thrown l g (nMT (b + 501)) (b + 501) 0).up (nMT_up hb0)) w_1048 w_15 w_1045 w_1046 w_1047 hd_Model_thrown rfl ⟨by decide, by decide⟩ (OB.recv E.2.2.2.2.2 (by rfl) hob) hM.th hF hl.1 rfl (Nat.le_of_ble_eq_true rfl) d_Law_law_808 hc (qi (fun r7 H3 locs hq7 hF => ?_))
    obtain ⟨rfl, hH7⟩ := hq7
    have hH7 := hH7.symm
    subst hH7
    refine lv_iload hx hb d_Law_law_811 (lv_at hl 1 rfl) ?_
    refine lv_icmp_eq (tgt := 818) hx hb d_Law_law_813 (by decide) (fun _ => ?_) (fun h9 => absurd (rfl) h9)
    refine lv_iload hx hb d_Law_law_818 (lv_at hl 1 rfl) ?_
    refine lv_if_ne (tgt := 834) hx hb d_Law_law_820 (by decide) (fun h9 => absurd (rfl) h9) (fun _ => ?_)
    refine lv_aload_n hx hb d_Law_law_823 rfl (lv_at hl 3 rfl) ?_
    refine lv_iconst (v := nI 0) hx hb d_Law_law_824 (by decide) ?_
    refine q_lald (N := 1) (f := (fun _ => (OU9 t7 k1 wn 8))) E (hA.eq (hfr6.2 (b + 510) hA.lt (nMT_n nM_510))) 0 rfl (by decide) (by decide) d_Law_law_825 ?_
    refine lv_lload hx hb d_Law_law_826 (lv_at hl 0 rfl) ?_
    refine W.lcmp hx hb d_Law_law_828 ?_
    refine lv_if_eq (tgt := 834) hx hb d_Law_law_829 (by decide) (fun _ => ?_) (fun h9 => absurd (l2i_eq rfl) h9)
    refine lv_goto (tgt := 1611) hx hb d_Law_law_834 (by decide) ?_
    have hl : lv_has ls 8 [(4, .int (nI i)), (3, .ref (b + 510)), (2, .ref (b + 501)), (1, .ref b), (0, .ref sb)] := lv_sub hl [2, 3, 4, 5, 6] rfl
    exact hN _ _ ls _ _ _ _ _ _ (hG.frq hb0 (nMT_fr hfr6)) hM (TW.mk hmr hmq hG.2.1 hfr6 (fun q h => nMT_ge h) hcw1 hbd.1 hrl hc0 hm0 ht0 hj0 hc7 hm7 hj7) hX hF hl
  · skip
    have hM : MVP g (nMT (b + 501)) H2 (b + 501) 1 pn tn wn A := by
      rcases hq6 with ⟨-, j1, f1, b2, -, -⟩ | ⟨-, h⟩
      · exact absurd (out_no f1 b2 hbd.2.2) hok
      · exact h
    refine lv_lstore (lv' := [(6, .long r6), (5, .int (nI 1)), (4, .int (nI i)), (3, .ref (b + 510)), (2, .ref (b + 501)), (1, .ref b), (0, .ref sb)]) hx hb d_Law_law_805 hl (by decide) rfl (fun ls hl => ?_)
    refine lv_aload_n hx hb d_Law_law_807 rfl (lv_at hl 4 rfl) ?_
    obtain ⟨w9, n9, hob⟩ := hM.ob
    refine q_cV (rest := []) E ((c_Model_thrown l g (nMT (b + 501)) (b + 501) 1).up (nMT_up hb0)) w_1048 w_15 w_1045 w_1046 w_1047 hd_Model_thrown rfl ⟨by decide, by decide⟩ (OB.recv E.2.2.2.2.2 (by rfl) hob) hM.th hF hl.1 rfl (Nat.le_of_ble_eq_true rfl) d_Law_law_808 hc (qi (fun r7 H3 locs hq7 hF => ?_))
    obtain ⟨rfl, hH7⟩ := hq7
    have hH7 := hH7.symm
    subst hH7
    refine lv_iload hx hb d_Law_law_811 (lv_at hl 1 rfl) ?_
    refine lv_icmp_eq (tgt := 818) hx hb d_Law_law_813 (by decide) (fun _ => ?_) (fun h9 => absurd (rfl) h9)
    refine lv_iload hx hb d_Law_law_818 (lv_at hl 1 rfl) ?_
    refine lv_if_ne (tgt := 834) hx hb d_Law_law_820 (by decide) (fun _ => ?_) (fun h9 => absurd h9 (by decide))
    refine lv_goto (tgt := 1611) hx hb d_Law_law_834 (by decide) ?_
    have hl : lv_has ls 8 [(4, .int (nI i)), (3, .ref (b + 510)), (2, .ref (b + 501)), (1, .ref b), (0, .ref sb)] := lv_sub hl [2, 3, 4, 5, 6] rfl
    exact hN _ _ ls _ _ _ _ _ _ (hG.frq hb0 (nMT_fr hfr6)) hM (TW.mk hmr hmq hG.2.1 hfr6 (fun q h => nMT_ge h) hcw1 hbd.1 hrl hc0 hm0 ht0 hj0 hc7 hm7 hj7) hX hF hl
set_option maxHeartbeats 4000000 in
set_option maxRecDepth 100000 in
theorem k_join {p : Program} {l : Launch} {e : Env} {s : State} {m : MethodId} {below : List Frame} {meth : Method} {c : Code} {g : WG} {sb L : Nat} {xs : Nat → Int32} {b : Nat} {mr mq : Int64} {H : Heap} {locs : List Loc} {ls : Array Slot} {th : Int32} {pn tn wn wm i cells slots : Nat} {A : Nat → Int} (E : EV p m c code 8 s #[Value.ref sb] "KateDeskLaw" g) (hr : meth.sig.returnType = ret) (hlk : meth.locks = false) (hb0 : s.heap.size ≤ b) (hsb : sb < s.heap.size) (hxs : XS l s) (hL : L ≤ 3072) (hi : i + 6 ≤ L) (hc : cells + 1 ≤ room_1.cells ∧ slots + 6 ≤ room_1.slots) (hN : LNX p l e s m below meth c g sb L xs b mr mq i (cells + 1) (slots + 6)) (hG : LG g s H b pn tn wn mr mq) (hM : MVP g (nMT (b + 501)) H (b + 501) th pn tn wm A) (hT : TW g H b pn tn wn wm A mr mq) (hX : va_X sb L xs s H) (hF : ∀ q ∈ locs, HXA s q.base) (hl : lv_has ls 8 [(4, .int (nI i)), (3, .ref (b + 510)), (2, .ref (b + 501)), (1, .ref b), (0, .ref sb)]) : W p l e room_1 s m #[Value.ref sb] below meth c H locs cells slots (lw_Z below #[Value.ref sb] s) (F0 m 837 ls []) := by
  have hx := E.1
  have hb := E.2.1
  have hK := E.2.2.2.2.2
  have hw0 := State.WarmedH.refl s
  obtain ⟨⟨hmr, hmq, rfl⟩, ⟨hR0, c0, m0, t0, hc0, hm0, ht0, hj0⟩, ⟨c7, m7, t7, hc7, hm7, hj7⟩, P, V, hcw, hrl⟩ := id hT
  clear hT
  have hbd := hM.2.2.2.2.2.1
  refine lv_aload_n hx hb d_Law_law_837 rfl (lv_at hl 3 rfl) ?_
  refine lv_aload_n hx hb d_Law_law_838 rfl (lv_at hl 4 rfl) ?_
  refine lv_iload hx hb d_Law_law_839 (lv_at hl 0 rfl) ?_
  refine lv_iconst (v := nI 1) hx hb d_Law_law_841 (by decide) ?_
  refine lv_iadd hx hb d_Law_law_842 ?_
  refine lv_topi (fun t9 e9 => ?_)
  obtain rfl : t9 = nI (i + 1) := e9.trans (nI_add _ _)
  refine q_xld E hX (i + 1) rfl (by omega) (by omega) d_Law_law_843 ?_
  refine lv_aload_n hx hb d_Law_law_844 rfl (lv_at hl 4 rfl) ?_
  refine lv_iload hx hb d_Law_law_845 (lv_at hl 0 rfl) ?_
  refine lv_iconst (v := nI 2) hx hb d_Law_law_847 (by decide) ?_
  refine lv_iadd hx hb d_Law_law_848 ?_
  refine lv_topi (fun t9 e9 => ?_)
  obtain rfl : t9 = nI (i + 2) := e9.trans (nI_add _ _)
  refine q_xld E hX (i + 2) rfl (by omega) (by omega) d_Law_law_849 ?_
  refine lv_aload_n hx hb d_Law_law_850 rfl (lv_at hl 4 rfl) ?_
  refine lv_iload hx hb d_Law_law_851 (lv_at hl 0 rfl) ?_
  refine lv_iconst (v := nI 3) hx hb d_Law_law_853 (by decide) ?_
  refine lv_iadd hx hb d_Law_law_854 ?_
  refine lv_topi (fun t9 e9 => ?_)
  obtain rfl : t9 = nI (i + 3) := e9.trans (nI_add _ _)
  refine q_xld E hX (i + 3) rfl (by omega) (by omega) d_Law_law_855 ?_
  refine lv_aload_n hx hb d_Law_law_856 rfl (lv_at hl 4 rfl) ?_
  refine lv_iload hx hb d_Law_law_857 (lv_at hl 0 rfl) ?_
  refine lv_iconst (v := nI 4) hx hb d_Law_law_859 (by decide) ?_
  refine lv_iadd hx hb d_Law_law_860 ?_
  refine lv_topi (fun t9 e9 => ?_)
  obtain rfl : t9 = nI (i + 4) := e9.trans (nI_add _ _)
  refine q_xld E hX (i + 4) rfl (by omega) (by omega) d_Law_law_861 ?_
  refine q_cSH (rest := []) E hw0 (XH_join l g s hxs b pn tn wn mr mq hb0 (xs (i + 1)) (xs (i + 2)) (xs (i + 3)) (xs (i + 4)) hmr hmq A P V) w_775 w_0 w_773 w_774 hd_Law_join rfl ⟨by decide, by decide⟩ ⟨hG, hcw⟩ hF hl.1 rfl (Nat.le_of_ble_eq_true rfl) d_Law_law_862 hc (qi (fun r5 H1 locs hq hF => ?_))
  obtain ⟨hq, hfr⟩ := hq
  have hX := hX.kept (hfr sb (Or.inl (Nat.lt_of_lt_of_le hsb hb0)))
  have hM := hM.on (fun q h1 h2 => hfr q (Or.inr (Or.inl ⟨h1, h2⟩)))
  have hm0 : AI g H1 (b + 501 + 6) 96 m0 := AI.eq hm0 (hfr _ (Or.inr (Or.inl ⟨by omega, by omega⟩)))
  have hm7 : AI g H1 (b + 501 + 7) 96 m7 := AI.eq hm7 (hfr _ (Or.inr (Or.inl ⟨by omega, by omega⟩)))
  have hA9 := hrl.hon hcw
  have hc0 : AB g H1 (b + 149) 96 c0 := hc0.eq (hfr _ (Or.inr (Or.inr (Or.inl rfl))))
  have hc7 : AB g H1 (b + 151) 96 c7 := hc7.eq (hfr _ (Or.inr (Or.inr (Or.inr rfl))))
  refine lv_istore (lv' := [(5, .int r5), (4, .int (nI i)), (3, .ref (b + 510)), (2, .ref (b + 501)), (1, .ref b), (0, .ref sb)]) hx hb d_Law_law_865 hl (by decide) rfl (fun ls hl => ?_)
  refine lv_aload_n hx hb d_Law_law_867 rfl (lv_at hl 3 rfl) ?_
  refine lv_aload_n hx hb d_Law_law_868 rfl (lv_at hl 5 rfl) ?_
  refine lv_iload hx hb d_Law_law_869 (lv_at hl 1 rfl) ?_
  refine lv_iconst (v := nI 1) hx hb d_Law_law_871 (by decide) ?_
  refine lv_iadd hx hb d_Law_law_872 ?_
  refine lv_topi (fun t9 e9 => ?_)
  obtain rfl : t9 = nI (i + 1) := e9.trans (nI_add _ _)
  refine q_xld E hX (i + 1) rfl (by omega) (by omega) d_Law_law_873 ?_
  refine lv_aload_n hx hb d_Law_law_874 rfl (lv_at hl 5 rfl) ?_
  refine lv_iload hx hb d_Law_law_875 (lv_at hl 1 rfl) ?_
  refine lv_iconst (v := nI 2) hx hb d_Law_law_877 (by decide) ?_
  refine lv_iadd hx hb d_Law_law_878 ?_
  refine lv_topi (fun t9 e9 => ?_)
  obtain rfl : t9 = nI (i + 2) := e9.trans (nI_add _ _)
  refine q_xld E hX (i + 2) rfl (by omega) (by omega) d_Law_law_879 ?_
  refine lv_aload_n hx hb d_Law_law_880 rfl (lv_at hl 5 rfl) ?_
  refine lv_iload hx hb d_Law_law_881 (lv_at hl 1 rfl) ?_
  refine lv_iconst (v := nI 3) hx hb d_Law_law_883 (by decide) ?_
  refine lv_iadd hx hb d_Law_law_884 ?_
  refine lv_topi (fun t9 e9 => ?_)
  obtain rfl : t9 = nI (i + 3) := e9.trans (nI_add _ _)
  refine q_xld E hX (i + 3) rfl (by omega) (by omega) d_Law_law_885 ?_
  refine lv_aload_n hx hb d_Law_law_886 rfl (lv_at hl 5 rfl) ?_
  refine lv_iload hx hb d_Law_law_887 (lv_at hl 1 rfl) ?_
  refine lv_iconst (v := nI 4) hx hb d_Law_law_889 (by decide) ?_
  refine lv_iadd hx hb d_Law_law_890 ?_
  refine lv_topi (fun t9 e9 => ?_)
  obtain rfl : t9 = nI (i + 4) := e9.trans (nI_add _ _)
  refine q_xld E hX (i + 4) rfl (by omega) (by omega) d_Law_law_891 ?_
  obtain ⟨w9, n9, hob⟩ := hM.ob
  refine q_cV (rest := []) E ((W_Model_join l g (nMT (b + 501)) (b + 501) th pn tn wn A (xs (i + 1)) (xs (i + 2)) (xs (i + 3)) (xs (i + 4)) hA9).frV (nMT_up hb0)) w_1195 w_15 w_1192 w_1193 w_1194 hd_Model_join rfl ⟨by decide, by decide⟩ (OB.recv E.2.2.2.2.2 (by rfl) hob) hM hF hl.1 rfl (Nat.le_of_ble_eq_true rfl) d_Law_law_892 hc (qv (fun H2 locs hq6 hF => ?_))
  obtain ⟨hq6, hfr6⟩ := hq6
  have hX := hX.kept (hfr6.2 sb hX.lt (nMT_n (nM_lt hb0 hsb)))
  clear hob hM
  have hm7 := ai_T7 hm7 hfr6
  have hm0 := ai_T6 hm0 hfr6
  rcases hq with ⟨hok, rfl, hG, k1, k2, k3, k4, T, e1, e2, e3, e4, hbn, hT9, hcw1⟩ | ⟨hok, rfl, hG, hcw1⟩
  · skip
    obtain ⟨T', hM, hPT⟩ : ∃ T', MVP g (nMT (b + 501)) H2 (b + 501) 0 pn tn wn (updP A (32 + 3 * k2) T') ∧ PE T T' := by
      rcases hq6 with ⟨-, j1, j2, j3, j4, f1, f2, f3, f4, b1, b2, b3, b4, T', hT8, h⟩ | ⟨h, -⟩
      · obtain rfl := ni_un e1 f1 (by omega) (by omega)
        obtain rfl := ni_un e2 f2 (by omega) (by omega)
        obtain rfl := ni_un e3 f3 (by omega) (by omega)
        obtain rfl := ni_un e4 f4 (by omega) (by omega)
        exact ⟨T', h, jn_un hrl.2.2 hT9 hT8 (hrl.1 k3 b3) (hrl.1 k4 b4)⟩
      · exact absurd hok h
    refine lv_aload_n hx hb d_Law_law_895 rfl (lv_at hl 3 rfl) ?_
    obtain ⟨w9, n9, hob⟩ := hM.ob
    refine q_cV (rest := []) E ((c_Model_thrown l g (nMT (b + 501)) (b + 501) 0).up (nMT_up hb0)) w_1048 w_15 w_1045 w_1046 w_1047 hd_Model_thrown rfl ⟨by decide, by decide⟩ (OB.recv E.2.2.2.2.2 (by rfl) hob) hM.th hF hl.1 rfl (Nat.le_of_ble_eq_true rfl) d_Law_law_896 hc (qi (fun r7 H3 locs hq7 hF => ?_))
    obtain ⟨rfl, hH7⟩ := hq7
    have hH7 := hH7.symm
    subst hH7
    refine lv_iload hx hb d_Law_law_899 (lv_at hl 0 rfl) ?_
    refine lv_icmp_eq (tgt := 906) hx hb d_Law_law_901 (by decide) (fun _ => ?_) (fun h9 => absurd (rfl) h9)
    refine lv_goto (tgt := 1611) hx hb d_Law_law_906 (by decide) ?_
    have hl : lv_has ls 8 [(4, .int (nI i)), (3, .ref (b + 510)), (2, .ref (b + 501)), (1, .ref b), (0, .ref sb)] := lv_sub hl [1, 2, 3, 4, 5] rfl
    exact hN _ _ ls _ _ _ _ _ _ (hG.frq hb0 (nMT_fr hfr6)) hM (TW.mk hmr hmq hG.2.1 hfr6 (fun q h => nMT_ge h) (hcw1.upd (upP_lo (by omega))) hbd.1 (hrl.set hbn.2.1 hbd.1 hPT) hc0 hm0 ht0 hj0 hc7 hm7 hj7) hX hF hl
  · skip
    have hM : MVP g (nMT (b + 501)) H2 (b + 501) 1 pn tn wn A := by
      rcases hq6 with ⟨h, -⟩ | ⟨-, h⟩
      · exact absurd h hok
      · exact h
    refine lv_aload_n hx hb d_Law_law_895 rfl (lv_at hl 3 rfl) ?_
    obtain ⟨w9, n9, hob⟩ := hM.ob
    refine q_cV (rest := []) E ((c_Model_thrown l g (nMT (b + 501)) (b + 501) 1).up (nMT_up hb0)) w_1048 w_15 w_1045 w_1046 w_1047 hd_Model_thrown rfl ⟨by decide, by decide⟩ (OB.recv E.2.2.2.2.2 (by rfl) hob) hM.th hF hl.1 rfl (Nat.le_of_ble_eq_true rfl) d_Law_law_896 hc (qi (fun r7 H3 locs hq7 hF => ?_))
    obtain ⟨rfl, hH7⟩ := hq7
    have hH7 := hH7.symm
    subst hH7
    refine lv_iload hx hb d_Law_law_899 (lv_at hl 0 rfl) ?_
    refine lv_icmp_eq (tgt := 906) hx hb d_Law_law_901 (by decide) (fun _ => ?_) (fun h9 => absurd (rfl) h9)
    refine lv_goto (tgt := 1611) hx hb d_Law_law_906 (by decide) ?_
    have hl : lv_has ls 8 [(4, .int (nI i)), (3, .ref (b + 510)), (2, .ref (b + 501)), (1, .ref b), (0, .ref sb)] := lv_sub hl [1, 2, 3, 4, 5] rfl
    exact hN _ _ ls _ _ _ _ _ _ (hG.frq hb0 (nMT_fr hfr6)) hM (TW.mk hmr hmq hG.2.1 hfr6 (fun q h => nMT_ge h) hcw1 hbd.1 hrl hc0 hm0 ht0 hj0 hc7 hm7 hj7) hX hF hl
set_option maxHeartbeats 4000000 in
set_option maxRecDepth 100000 in
theorem k_times {p : Program} {l : Launch} {e : Env} {s : State} {m : MethodId} {below : List Frame} {meth : Method} {c : Code} {g : WG} {sb L : Nat} {xs : Nat → Int32} {b : Nat} {mr mq : Int64} {H : Heap} {locs : List Loc} {ls : Array Slot} {th : Int32} {pn tn wn wm i cells slots : Nat} {A : Nat → Int} (E : EV p m c code 8 s #[Value.ref sb] "KateDeskLaw" g) (hr : meth.sig.returnType = ret) (hlk : meth.locks = false) (hb0 : s.heap.size ≤ b) (hsb : sb < s.heap.size) (hxs : XS l s) (hL : L ≤ 3072) (hi : i + 6 ≤ L) (hc : cells + 1 ≤ room_1.cells ∧ slots + 6 ≤ room_1.slots) (hN : LNX p l e s m below meth c g sb L xs b mr mq i (cells + 1) (slots + 6)) (hG : LG g s H b pn tn wn mr mq) (hM : MVP g (nMT (b + 501)) H (b + 501) th pn tn wm A) (hT : TW g H b pn tn wn wm A mr mq) (hX : va_X sb L xs s H) (hF : ∀ q ∈ locs, HXA s q.base) (hl : lv_has ls 8 [(4, .int (nI i)), (3, .ref (b + 510)), (2, .ref (b + 501)), (1, .ref b), (0, .ref sb)]) : W p l e room_1 s m #[Value.ref sb] below meth c H locs cells slots (lw_Z below #[Value.ref sb] s) (F0 m 909 ls []) := by
  have hx := E.1
  have hb := E.2.1
  have hK := E.2.2.2.2.2
  have hw0 := State.WarmedH.refl s
  obtain ⟨⟨hmr, hmq, rfl⟩, ⟨hR0, c0, m0, t0, hc0, hm0, ht0, hj0⟩, ⟨c7, m7, t7, hc7, hm7, hj7⟩, P, V, hcw, hrl⟩ := id hT
  clear hT
  have hbd := hM.2.2.2.2.2.1
  refine lv_aload_n hx hb d_Law_law_909 rfl (lv_at hl 3 rfl) ?_
  refine lv_aload_n hx hb d_Law_law_910 rfl (lv_at hl 4 rfl) ?_
  refine lv_iload hx hb d_Law_law_911 (lv_at hl 0 rfl) ?_
  refine lv_iconst (v := nI 1) hx hb d_Law_law_913 (by decide) ?_
  refine lv_iadd hx hb d_Law_law_914 ?_
  refine lv_topi (fun t9 e9 => ?_)
  obtain rfl : t9 = nI (i + 1) := e9.trans (nI_add _ _)
  refine q_xld E hX (i + 1) rfl (by omega) (by omega) d_Law_law_915 ?_
  refine lv_aload_n hx hb d_Law_law_916 rfl (lv_at hl 4 rfl) ?_
  refine lv_iload hx hb d_Law_law_917 (lv_at hl 0 rfl) ?_
  refine lv_iconst (v := nI 2) hx hb d_Law_law_919 (by decide) ?_
  refine lv_iadd hx hb d_Law_law_920 ?_
  refine lv_topi (fun t9 e9 => ?_)
  obtain rfl : t9 = nI (i + 2) := e9.trans (nI_add _ _)
  refine q_xld E hX (i + 2) rfl (by omega) (by omega) d_Law_law_921 ?_
  refine lv_aload_n hx hb d_Law_law_922 rfl (lv_at hl 4 rfl) ?_
  refine lv_iload hx hb d_Law_law_923 (lv_at hl 0 rfl) ?_
  refine lv_iconst (v := nI 3) hx hb d_Law_law_925 (by decide) ?_
  refine lv_iadd hx hb d_Law_law_926 ?_
  refine lv_topi (fun t9 e9 => ?_)
  obtain rfl : t9 = nI (i + 3) := e9.trans (nI_add _ _)
  refine q_xld E hX (i + 3) rfl (by omega) (by omega) d_Law_law_927 ?_
  refine q_cSH (rest := []) E hw0 (XH_times l g s hxs b pn tn wn mr mq hb0 (xs (i + 1)) (xs (i + 2)) (xs (i + 3)) hmr hmq A P V) w_784 w_0 w_782 w_783 hd_Law_times rfl ⟨by decide, by decide⟩ ⟨hG, hcw⟩ hF hl.1 rfl (Nat.le_of_ble_eq_true rfl) d_Law_law_928 hc (qi (fun r5 H1 locs hq hF => ?_))
  obtain ⟨hq, hfr⟩ := hq
  have hX := hX.kept (hfr sb (Or.inl (Nat.lt_of_lt_of_le hsb hb0)))
  have hM := hM.on (fun q h1 h2 => hfr q (Or.inr (Or.inl ⟨h1, h2⟩)))
  have hm0 : AI g H1 (b + 501 + 6) 96 m0 := AI.eq hm0 (hfr _ (Or.inr (Or.inl ⟨by omega, by omega⟩)))
  have hm7 : AI g H1 (b + 501 + 7) 96 m7 := AI.eq hm7 (hfr _ (Or.inr (Or.inl ⟨by omega, by omega⟩)))
  have hA9 := hrl.hon hcw
  have hc0 : AB g H1 (b + 149) 96 c0 := hc0.eq (hfr _ (Or.inr (Or.inr (Or.inl rfl))))
  have hc7 : AB g H1 (b + 151) 96 c7 := hc7.eq (hfr _ (Or.inr (Or.inr (Or.inr rfl))))
  refine lv_istore (lv' := [(5, .int r5), (4, .int (nI i)), (3, .ref (b + 510)), (2, .ref (b + 501)), (1, .ref b), (0, .ref sb)]) hx hb d_Law_law_931 hl (by decide) rfl (fun ls hl => ?_)
  refine lv_aload_n hx hb d_Law_law_933 rfl (lv_at hl 3 rfl) ?_
  refine lv_aload_n hx hb d_Law_law_934 rfl (lv_at hl 5 rfl) ?_
  refine lv_iload hx hb d_Law_law_935 (lv_at hl 1 rfl) ?_
  refine lv_iconst (v := nI 1) hx hb d_Law_law_937 (by decide) ?_
  refine lv_iadd hx hb d_Law_law_938 ?_
  refine lv_topi (fun t9 e9 => ?_)
  obtain rfl : t9 = nI (i + 1) := e9.trans (nI_add _ _)
  refine q_xld E hX (i + 1) rfl (by omega) (by omega) d_Law_law_939 ?_
  refine lv_aload_n hx hb d_Law_law_940 rfl (lv_at hl 5 rfl) ?_
  refine lv_iload hx hb d_Law_law_941 (lv_at hl 1 rfl) ?_
  refine lv_iconst (v := nI 2) hx hb d_Law_law_943 (by decide) ?_
  refine lv_iadd hx hb d_Law_law_944 ?_
  refine lv_topi (fun t9 e9 => ?_)
  obtain rfl : t9 = nI (i + 2) := e9.trans (nI_add _ _)
  refine q_xld E hX (i + 2) rfl (by omega) (by omega) d_Law_law_945 ?_
  refine lv_aload_n hx hb d_Law_law_946 rfl (lv_at hl 5 rfl) ?_
  refine lv_iload hx hb d_Law_law_947 (lv_at hl 1 rfl) ?_
  refine lv_iconst (v := nI 3) hx hb d_Law_law_949 (by decide) ?_
  refine lv_iadd hx hb d_Law_law_950 ?_
  refine lv_topi (fun t9 e9 => ?_)
  obtain rfl : t9 = nI (i + 3) := e9.trans (nI_add _ _)
  refine q_xld E hX (i + 3) rfl (by omega) (by omega) d_Law_law_951 ?_
  obtain ⟨w9, n9, hob⟩ := hM.ob
  refine q_cV (rest := []) E ((W_Model_times l g (nMT (b + 501)) (b + 501) th pn tn wn A (xs (i + 1)) (xs (i + 2)) (xs (i + 3)) hA9).frV (nMT_up hb0)) w_1199 w_15 w_1196 w_1197 w_1198 hd_Model_times rfl ⟨by decide, by decide⟩ (OB.recv E.2.2.2.2.2 (by rfl) hob) hM hF hl.1 rfl (Nat.le_of_ble_eq_true rfl) d_Law_law_952 hc (qv (fun H2 locs hq6 hF => ?_))
  obtain ⟨hq6, hfr6⟩ := hq6
  have hX := hX.kept (hfr6.2 sb hX.lt (nMT_n (nM_lt hb0 hsb)))
  clear hob hM
  have hm7 := ai_T7 hm7 hfr6
  have hm0 := ai_T6 hm0 hfr6
  rcases hq with ⟨hok, rfl, hG, k1, k2, k3, T, e1, e2, e3, hbn, hT9, hcw1⟩ | ⟨hok, rfl, hG, hcw1⟩
  · skip
    obtain ⟨T', hM, hPT⟩ : ∃ T', MVP g (nMT (b + 501)) H2 (b + 501) 0 pn tn wn (updP A (32 + 3 * k1) T') ∧ PE T T' := by
      rcases hq6 with ⟨-, j1, j2, j3, f1, f2, f3, b1, b2, b3, T', hT8, h⟩ | ⟨h, -⟩
      · obtain rfl := ni_un e1 f1 (by omega) (by omega)
        obtain rfl := ni_un e2 f2 (by omega) (by omega)
        obtain rfl := ni_un e3 f3 (by omega) (by omega)
        exact ⟨T', h, RP.un2 (hA9 k3 b3) hT9 hT8 (hrl.1 k3 b3)⟩
      · exact absurd hok h
    refine lv_aload_n hx hb d_Law_law_955 rfl (lv_at hl 3 rfl) ?_
    obtain ⟨w9, n9, hob⟩ := hM.ob
    refine q_cV (rest := []) E ((c_Model_thrown l g (nMT (b + 501)) (b + 501) 0).up (nMT_up hb0)) w_1048 w_15 w_1045 w_1046 w_1047 hd_Model_thrown rfl ⟨by decide, by decide⟩ (OB.recv E.2.2.2.2.2 (by rfl) hob) hM.th hF hl.1 rfl (Nat.le_of_ble_eq_true rfl) d_Law_law_956 hc (qi (fun r7 H3 locs hq7 hF => ?_))
    obtain ⟨rfl, hH7⟩ := hq7
    have hH7 := hH7.symm
    subst hH7
    refine lv_iload hx hb d_Law_law_959 (lv_at hl 0 rfl) ?_
    refine lv_icmp_eq (tgt := 966) hx hb d_Law_law_961 (by decide) (fun _ => ?_) (fun h9 => absurd (rfl) h9)
    refine lv_goto (tgt := 1611) hx hb d_Law_law_966 (by decide) ?_
    have hl : lv_has ls 8 [(4, .int (nI i)), (3, .ref (b + 510)), (2, .ref (b + 501)), (1, .ref b), (0, .ref sb)] := lv_sub hl [1, 2, 3, 4, 5] rfl
    exact hN _ _ ls _ _ _ _ _ _ (hG.frq hb0 (nMT_fr hfr6)) hM (TW.mk hmr hmq hG.2.1 hfr6 (fun q h => nMT_ge h) (hcw1.upd (upP_lo (by omega))) hbd.1 (hrl.set hbn.1 hbd.1 hPT) hc0 hm0 ht0 hj0 hc7 hm7 hj7) hX hF hl
  · skip
    have hM : MVP g (nMT (b + 501)) H2 (b + 501) 1 pn tn wn A := by
      rcases hq6 with ⟨h, -⟩ | ⟨-, h⟩
      · exact absurd h hok
      · exact h
    refine lv_aload_n hx hb d_Law_law_955 rfl (lv_at hl 3 rfl) ?_
    obtain ⟨w9, n9, hob⟩ := hM.ob
    refine q_cV (rest := []) E ((c_Model_thrown l g (nMT (b + 501)) (b + 501) 1).up (nMT_up hb0)) w_1048 w_15 w_1045 w_1046 w_1047 hd_Model_thrown rfl ⟨by decide, by decide⟩ (OB.recv E.2.2.2.2.2 (by rfl) hob) hM.th hF hl.1 rfl (Nat.le_of_ble_eq_true rfl) d_Law_law_956 hc (qi (fun r7 H3 locs hq7 hF => ?_))
    obtain ⟨rfl, hH7⟩ := hq7
    have hH7 := hH7.symm
    subst hH7
    refine lv_iload hx hb d_Law_law_959 (lv_at hl 0 rfl) ?_
    refine lv_icmp_eq (tgt := 966) hx hb d_Law_law_961 (by decide) (fun _ => ?_) (fun h9 => absurd (rfl) h9)
    refine lv_goto (tgt := 1611) hx hb d_Law_law_966 (by decide) ?_
    have hl : lv_has ls 8 [(4, .int (nI i)), (3, .ref (b + 510)), (2, .ref (b + 501)), (1, .ref b), (0, .ref sb)] := lv_sub hl [1, 2, 3, 4, 5] rfl
    exact hN _ _ ls _ _ _ _ _ _ (hG.frq hb0 (nMT_fr hfr6)) hM (TW.mk hmr hmq hG.2.1 hfr6 (fun q h => nMT_ge h) hcw1 hbd.1 hrl hc0 hm0 ht0 hj0 hc7 hm7 hj7) hX hF hl
set_option maxHeartbeats 4000000 in
set_option maxRecDepth 100000 in
theorem k_combine {p : Program} {l : Launch} {e : Env} {s : State} {m : MethodId} {below : List Frame} {meth : Method} {c : Code} {g : WG} {sb L : Nat} {xs : Nat → Int32} {b : Nat} {mr mq : Int64} {H : Heap} {locs : List Loc} {ls : Array Slot} {th : Int32} {pn tn wn wm i cells slots : Nat} {A : Nat → Int} (E : EV p m c code 8 s #[Value.ref sb] "KateDeskLaw" g) (hr : meth.sig.returnType = ret) (hlk : meth.locks = false) (hb0 : s.heap.size ≤ b) (hsb : sb < s.heap.size) (hxs : XS l s) (hL : L ≤ 3072) (hi : i + 6 ≤ L) (hc : cells + 1 ≤ room_1.cells ∧ slots + 6 ≤ room_1.slots) (hN : LNX p l e s m below meth c g sb L xs b mr mq i (cells + 1) (slots + 6)) (hG : LG g s H b pn tn wn mr mq) (hM : MVP g (nMT (b + 501)) H (b + 501) th pn tn wm A) (hT : TW g H b pn tn wn wm A mr mq) (hX : va_X sb L xs s H) (hF : ∀ q ∈ locs, HXA s q.base) (hl : lv_has ls 8 [(4, .int (nI i)), (3, .ref (b + 510)), (2, .ref (b + 501)), (1, .ref b), (0, .ref sb)]) : W p l e room_1 s m #[Value.ref sb] below meth c H locs cells slots (lw_Z below #[Value.ref sb] s) (F0 m 969 ls []) := by
  have hx := E.1
  have hb := E.2.1
  have hK := E.2.2.2.2.2
  have hw0 := State.WarmedH.refl s
  obtain ⟨⟨hmr, hmq, rfl⟩, ⟨hR0, c0, m0, t0, hc0, hm0, ht0, hj0⟩, ⟨c7, m7, t7, hc7, hm7, hj7⟩, P, V, hcw, hrl⟩ := id hT
  clear hT
  have hbd := hM.2.2.2.2.2.1
  refine lv_aload_n hx hb d_Law_law_969 rfl (lv_at hl 3 rfl) ?_
  refine lv_aload_n hx hb d_Law_law_970 rfl (lv_at hl 4 rfl) ?_
  refine lv_iload hx hb d_Law_law_971 (lv_at hl 0 rfl) ?_
  refine lv_iconst (v := nI 1) hx hb d_Law_law_973 (by decide) ?_
  refine lv_iadd hx hb d_Law_law_974 ?_
  refine lv_topi (fun t9 e9 => ?_)
  obtain rfl : t9 = nI (i + 1) := e9.trans (nI_add _ _)
  refine q_xld E hX (i + 1) rfl (by omega) (by omega) d_Law_law_975 ?_
  refine lv_aload_n hx hb d_Law_law_976 rfl (lv_at hl 4 rfl) ?_
  refine lv_iload hx hb d_Law_law_977 (lv_at hl 0 rfl) ?_
  refine lv_iconst (v := nI 2) hx hb d_Law_law_979 (by decide) ?_
  refine lv_iadd hx hb d_Law_law_980 ?_
  refine lv_topi (fun t9 e9 => ?_)
  obtain rfl : t9 = nI (i + 2) := e9.trans (nI_add _ _)
  refine q_xld E hX (i + 2) rfl (by omega) (by omega) d_Law_law_981 ?_
  refine lv_aload_n hx hb d_Law_law_982 rfl (lv_at hl 4 rfl) ?_
  refine lv_iload hx hb d_Law_law_983 (lv_at hl 0 rfl) ?_
  refine lv_iconst (v := nI 3) hx hb d_Law_law_985 (by decide) ?_
  refine lv_iadd hx hb d_Law_law_986 ?_
  refine lv_topi (fun t9 e9 => ?_)
  obtain rfl : t9 = nI (i + 3) := e9.trans (nI_add _ _)
  refine q_xld E hX (i + 3) rfl (by omega) (by omega) d_Law_law_987 ?_
  refine lv_aload_n hx hb d_Law_law_988 rfl (lv_at hl 4 rfl) ?_
  refine lv_iload hx hb d_Law_law_989 (lv_at hl 0 rfl) ?_
  refine lv_iconst (v := nI 4) hx hb d_Law_law_991 (by decide) ?_
  refine lv_iadd hx hb d_Law_law_992 ?_
  refine lv_topi (fun t9 e9 => ?_)
  obtain rfl : t9 = nI (i + 4) := e9.trans (nI_add _ _)
  refine q_xld E hX (i + 4) rfl (by omega) (by omega) d_Law_law_993 ?_
  refine q_cSH (rest := []) E hw0 (XH_combine l g s hxs b pn tn wn mr mq hb0 (xs (i + 1)) (xs (i + 2)) (xs (i + 3)) (xs (i + 4)) hmr hmq A P V) w_791 w_0 w_789 w_790 hd_Law_combine rfl ⟨by decide, by decide⟩ ⟨hG, hcw⟩ hF hl.1 rfl (Nat.le_of_ble_eq_true rfl) d_Law_law_994 hc (qi (fun r5 H1 locs hq hF => ?_))
  obtain ⟨hq, hfr⟩ := hq
  have hX := hX.kept (hfr sb (Or.inl (Nat.lt_of_lt_of_le hsb hb0)))
  have hM := hM.on (fun q h1 h2 => hfr q (Or.inr (Or.inl ⟨h1, h2⟩)))
  have hm0 : AI g H1 (b + 501 + 6) 96 m0 := AI.eq hm0 (hfr _ (Or.inr (Or.inl ⟨by omega, by omega⟩)))
  have hm7 : AI g H1 (b + 501 + 7) 96 m7 := AI.eq hm7 (hfr _ (Or.inr (Or.inl ⟨by omega, by omega⟩)))
  have hA9 := hrl.hon hcw
  have hc0 : AB g H1 (b + 149) 96 c0 := hc0.eq (hfr _ (Or.inr (Or.inr (Or.inl rfl))))
  have hc7 : AB g H1 (b + 151) 96 c7 := hc7.eq (hfr _ (Or.inr (Or.inr (Or.inr rfl))))
  refine lv_istore (lv' := [(5, .int r5), (4, .int (nI i)), (3, .ref (b + 510)), (2, .ref (b + 501)), (1, .ref b), (0, .ref sb)]) hx hb d_Law_law_997 hl (by decide) rfl (fun ls hl => ?_)
  refine lv_aload_n hx hb d_Law_law_999 rfl (lv_at hl 3 rfl) ?_
  refine lv_aload_n hx hb d_Law_law_1000 rfl (lv_at hl 5 rfl) ?_
  refine lv_iload hx hb d_Law_law_1001 (lv_at hl 1 rfl) ?_
  refine lv_iconst (v := nI 1) hx hb d_Law_law_1003 (by decide) ?_
  refine lv_iadd hx hb d_Law_law_1004 ?_
  refine lv_topi (fun t9 e9 => ?_)
  obtain rfl : t9 = nI (i + 1) := e9.trans (nI_add _ _)
  refine q_xld E hX (i + 1) rfl (by omega) (by omega) d_Law_law_1005 ?_
  refine lv_aload_n hx hb d_Law_law_1006 rfl (lv_at hl 5 rfl) ?_
  refine lv_iload hx hb d_Law_law_1007 (lv_at hl 1 rfl) ?_
  refine lv_iconst (v := nI 2) hx hb d_Law_law_1009 (by decide) ?_
  refine lv_iadd hx hb d_Law_law_1010 ?_
  refine lv_topi (fun t9 e9 => ?_)
  obtain rfl : t9 = nI (i + 2) := e9.trans (nI_add _ _)
  refine q_xld E hX (i + 2) rfl (by omega) (by omega) d_Law_law_1011 ?_
  refine lv_aload_n hx hb d_Law_law_1012 rfl (lv_at hl 5 rfl) ?_
  refine lv_iload hx hb d_Law_law_1013 (lv_at hl 1 rfl) ?_
  refine lv_iconst (v := nI 3) hx hb d_Law_law_1015 (by decide) ?_
  refine lv_iadd hx hb d_Law_law_1016 ?_
  refine lv_topi (fun t9 e9 => ?_)
  obtain rfl : t9 = nI (i + 3) := e9.trans (nI_add _ _)
  refine q_xld E hX (i + 3) rfl (by omega) (by omega) d_Law_law_1017 ?_
  refine lv_aload_n hx hb d_Law_law_1018 rfl (lv_at hl 5 rfl) ?_
  refine lv_iload hx hb d_Law_law_1019 (lv_at hl 1 rfl) ?_
  refine lv_iconst (v := nI 4) hx hb d_Law_law_1021 (by decide) ?_
  refine lv_iadd hx hb d_Law_law_1022 ?_
  refine lv_topi (fun t9 e9 => ?_)
  obtain rfl : t9 = nI (i + 4) := e9.trans (nI_add _ _)
  refine q_xld E hX (i + 4) rfl (by omega) (by omega) d_Law_law_1023 ?_
  obtain ⟨w9, n9, hob⟩ := hM.ob
  refine q_cV (rest := []) E ((W_Model_combine l g (nMT (b + 501)) (b + 501) th pn tn wn A (xs (i + 1)) (xs (i + 2)) (xs (i + 3)) (xs (i + 4)) hA9).frV (nMT_up hb0)) w_1203 w_15 w_1200 w_1201 w_1202 hd_Model_combine rfl ⟨by decide, by decide⟩ (OB.recv E.2.2.2.2.2 (by rfl) hob) hM hF hl.1 rfl (Nat.le_of_ble_eq_true rfl) d_Law_law_1024 hc (qv (fun H2 locs hq6 hF => ?_))
  obtain ⟨hq6, hfr6⟩ := hq6
  have hX := hX.kept (hfr6.2 sb hX.lt (nMT_n (nM_lt hb0 hsb)))
  clear hob hM
  have hm7 := ai_T7 hm7 hfr6
  have hm0 := ai_T6 hm0 hfr6
  rcases hq with ⟨hok, rfl, hG, k1, k2, k3, k4, T, e1, e2, e3, e4, hbn, hT9, hcw1⟩ | ⟨hok, rfl, hG, hcw1⟩
  · skip
    obtain ⟨T', hM, hPT⟩ : ∃ T', MVP g (nMT (b + 501)) H2 (b + 501) 0 pn tn wn (updP A (32 + 3 * k1) T') ∧ PE T T' := by
      rcases hq6 with ⟨-, j1, j4, f1, f4, b1, b4, T', hT8, h⟩ | ⟨h, -⟩
      · obtain rfl := ni_un e1 f1 (by omega) (by omega)
        obtain rfl := ni_un e4 f4 (by omega) (by omega)
        refine ⟨T', h, ?_⟩
        rcases hT8 with ⟨e0, e9⟩ | ⟨h0, j2, j3, f2, f3, b2, b3, hT8⟩
        · subst e0
          rw [e9]
          exact RSm_0 hT9
        · have hb2 := hbn.2.2.1 h0
          have hb3 := hbn.2.2.2 h0
          obtain rfl := ni_un e2 f2 (by omega) (by omega)
          obtain rfl := ni_un e3 f3 (by omega) (by omega)
          have hx9 : ∀ t, 32 + 3 * (k3 + t) = 32 + 3 * k3 + 3 * t := fun t => by omega
          exact RSm.un2 (fun t ht => by show onC (ptB A (32 + 3 * k3 + 3 * t)); rw [← hx9]; exact hA9 (k3 + t) (by omega)) hT9 hT8 (fun t ht => by show PE (P (k3 + t)) (ptB A (32 + 3 * k3 + 3 * t)); rw [← hx9]; exact hrl.1 (k3 + t) (by omega))
      · exact absurd hok h
    refine lv_aload_n hx hb d_Law_law_1027 rfl (lv_at hl 3 rfl) ?_
    obtain ⟨w9, n9, hob⟩ := hM.ob
    refine q_cV (rest := []) E ((c_Model_thrown l g (nMT (b + 501)) (b + 501) 0).up (nMT_up hb0)) w_1048 w_15 w_1045 w_1046 w_1047 hd_Model_thrown rfl ⟨by decide, by decide⟩ (OB.recv E.2.2.2.2.2 (by rfl) hob) hM.th hF hl.1 rfl (Nat.le_of_ble_eq_true rfl) d_Law_law_1028 hc (qi (fun r7 H3 locs hq7 hF => ?_))
    obtain ⟨rfl, hH7⟩ := hq7
    have hH7 := hH7.symm
    subst hH7
    refine lv_iload hx hb d_Law_law_1031 (lv_at hl 0 rfl) ?_
    refine lv_icmp_eq (tgt := 1038) hx hb d_Law_law_1033 (by decide) (fun _ => ?_) (fun h9 => absurd (rfl) h9)
    refine lv_goto (tgt := 1611) hx hb d_Law_law_1038 (by decide) ?_
    have hl : lv_has ls 8 [(4, .int (nI i)), (3, .ref (b + 510)), (2, .ref (b + 501)), (1, .ref b), (0, .ref sb)] := lv_sub hl [1, 2, 3, 4, 5] rfl
    exact hN _ _ ls _ _ _ _ _ _ (hG.frq hb0 (nMT_fr hfr6)) hM (TW.mk hmr hmq hG.2.1 hfr6 (fun q h => nMT_ge h) (hcw1.upd (upP_lo (by omega))) hbd.1 (hrl.set hbn.1 hbd.1 hPT) hc0 hm0 ht0 hj0 hc7 hm7 hj7) hX hF hl
  · skip
    have hM : MVP g (nMT (b + 501)) H2 (b + 501) 1 pn tn wn A := by
      rcases hq6 with ⟨h, -⟩ | ⟨-, h⟩
      · exact absurd h hok
      · exact h
    refine lv_aload_n hx hb d_Law_law_1027 rfl (lv_at hl 3 rfl) ?_
    obtain ⟨w9, n9, hob⟩ := hM.ob
    refine q_cV (rest := []) E ((c_Model_thrown l g (nMT (b + 501)) (b + 501) 1).up (nMT_up hb0)) w_1048 w_15 w_1045 w_1046 w_1047 hd_Model_thrown rfl ⟨by decide, by decide⟩ (OB.recv E.2.2.2.2.2 (by rfl) hob) hM.th hF hl.1 rfl (Nat.le_of_ble_eq_true rfl) d_Law_law_1028 hc (qi (fun r7 H3 locs hq7 hF => ?_))
    obtain ⟨rfl, hH7⟩ := hq7
    have hH7 := hH7.symm
    subst hH7
    refine lv_iload hx hb d_Law_law_1031 (lv_at hl 0 rfl) ?_
    refine lv_icmp_eq (tgt := 1038) hx hb d_Law_law_1033 (by decide) (fun _ => ?_) (fun h9 => absurd (rfl) h9)
    refine lv_goto (tgt := 1611) hx hb d_Law_law_1038 (by decide) ?_
    have hl : lv_has ls 8 [(4, .int (nI i)), (3, .ref (b + 510)), (2, .ref (b + 501)), (1, .ref b), (0, .ref sb)] := lv_sub hl [1, 2, 3, 4, 5] rfl
    exact hN _ _ ls _ _ _ _ _ _ (hG.frq hb0 (nMT_fr hfr6)) hM (TW.mk hmr hmq hG.2.1 hfr6 (fun q h => nMT_ge h) hcw1 hbd.1 hrl hc0 hm0 ht0 hj0 hc7 hm7 hj7) hX hF hl
set_option maxHeartbeats 4000000 in
set_option maxRecDepth 100000 in
theorem k_same {p : Program} {l : Launch} {e : Env} {s : State} {m : MethodId} {below : List Frame} {meth : Method} {c : Code} {g : WG} {sb L : Nat} {xs : Nat → Int32} {b : Nat} {mr mq : Int64} {H : Heap} {locs : List Loc} {ls : Array Slot} {th : Int32} {pn tn wn wm i cells slots : Nat} {A : Nat → Int} (E : EV p m c code 8 s #[Value.ref sb] "KateDeskLaw" g) (hr : meth.sig.returnType = ret) (hlk : meth.locks = false) (hb0 : s.heap.size ≤ b) (hsb : sb < s.heap.size) (hxs : XS l s) (hL : L ≤ 3072) (hi : i + 6 ≤ L) (hc : cells + 1 ≤ room_1.cells ∧ slots + 6 ≤ room_1.slots) (hN : LNX p l e s m below meth c g sb L xs b mr mq i (cells + 1) (slots + 6)) (hG : LG g s H b pn tn wn mr mq) (hM : MVP g (nMT (b + 501)) H (b + 501) th pn tn wm A) (hT : TW g H b pn tn wn wm A mr mq) (hX : va_X sb L xs s H) (hF : ∀ q ∈ locs, HXA s q.base) (hl : lv_has ls 8 [(4, .int (nI i)), (3, .ref (b + 510)), (2, .ref (b + 501)), (1, .ref b), (0, .ref sb)]) : W p l e room_1 s m #[Value.ref sb] below meth c H locs cells slots (lw_Z below #[Value.ref sb] s) (F0 m 1041 ls []) := by
  have hx := E.1
  have hb := E.2.1
  have hK := E.2.2.2.2.2
  have hw0 := State.WarmedH.refl s
  obtain ⟨⟨hmr, hmq, rfl⟩, ⟨hR0, c0, m0, t0, hc0, hm0, ht0, hj0⟩, ⟨c7, m7, t7, hc7, hm7, hj7⟩, P, V, hcw, hrl⟩ := id hT
  clear hT
  have hbd := hM.2.2.2.2.2.1
  refine lv_aload_n hx hb d_Law_law_1041 rfl (lv_at hl 3 rfl) ?_
  refine lv_aload_n hx hb d_Law_law_1042 rfl (lv_at hl 4 rfl) ?_
  refine lv_iload hx hb d_Law_law_1043 (lv_at hl 0 rfl) ?_
  refine lv_iconst (v := nI 1) hx hb d_Law_law_1045 (by decide) ?_
  refine lv_iadd hx hb d_Law_law_1046 ?_
  refine lv_topi (fun t9 e9 => ?_)
  obtain rfl : t9 = nI (i + 1) := e9.trans (nI_add _ _)
  refine q_xld E hX (i + 1) rfl (by omega) (by omega) d_Law_law_1047 ?_
  refine lv_aload_n hx hb d_Law_law_1048 rfl (lv_at hl 4 rfl) ?_
  refine lv_iload hx hb d_Law_law_1049 (lv_at hl 0 rfl) ?_
  refine lv_iconst (v := nI 2) hx hb d_Law_law_1051 (by decide) ?_
  refine lv_iadd hx hb d_Law_law_1052 ?_
  refine lv_topi (fun t9 e9 => ?_)
  obtain rfl : t9 = nI (i + 2) := e9.trans (nI_add _ _)
  refine q_xld E hX (i + 2) rfl (by omega) (by omega) d_Law_law_1053 ?_
  refine lv_aload_n hx hb d_Law_law_1054 rfl (lv_at hl 1 rfl) ?_
  refine q_cSH (rest := []) E hw0 (XH_same l g s hxs b pn tn wn mr mq hb0 (xs (i + 1)) (xs (i + 2)) hmr hmq A P V) w_802 w_0 w_800 w_801 hd_Law_same rfl ⟨by decide, by decide⟩ ⟨hG, hcw⟩ hF hl.1 rfl (Nat.le_of_ble_eq_true rfl) d_Law_law_1055 hc (qi (fun r5 H1 locs hq hF => ?_))
  obtain ⟨hq, hfr⟩ := hq
  have hX := hX.kept (hfr sb (Or.inl (Nat.lt_of_lt_of_le hsb hb0)))
  have hM := hM.on (fun q h1 h2 => hfr q (Or.inr (Or.inl ⟨h1, h2⟩)))
  have hm0 : AI g H1 (b + 501 + 6) 96 m0 := AI.eq hm0 (hfr _ (Or.inr (Or.inl ⟨by omega, by omega⟩)))
  have hm7 : AI g H1 (b + 501 + 7) 96 m7 := AI.eq hm7 (hfr _ (Or.inr (Or.inl ⟨by omega, by omega⟩)))
  have hA9 := hrl.hon hcw
  have hc0 : AB g H1 (b + 149) 96 c0 := hc0.eq (hfr _ (Or.inr (Or.inr (Or.inl rfl))))
  have hc7 : AB g H1 (b + 151) 96 c7 := hc7.eq (hfr _ (Or.inr (Or.inr (Or.inr rfl))))
  refine lv_istore (lv' := [(5, .int r5), (4, .int (nI i)), (3, .ref (b + 510)), (2, .ref (b + 501)), (1, .ref b), (0, .ref sb)]) hx hb d_Law_law_1058 hl (by decide) rfl (fun ls hl => ?_)
  refine lv_aload_n hx hb d_Law_law_1060 rfl (lv_at hl 3 rfl) ?_
  refine lv_aload_n hx hb d_Law_law_1061 rfl (lv_at hl 5 rfl) ?_
  refine lv_iload hx hb d_Law_law_1062 (lv_at hl 1 rfl) ?_
  refine lv_iconst (v := nI 1) hx hb d_Law_law_1064 (by decide) ?_
  refine lv_iadd hx hb d_Law_law_1065 ?_
  refine lv_topi (fun t9 e9 => ?_)
  obtain rfl : t9 = nI (i + 1) := e9.trans (nI_add _ _)
  refine q_xld E hX (i + 1) rfl (by omega) (by omega) d_Law_law_1066 ?_
  refine lv_aload_n hx hb d_Law_law_1067 rfl (lv_at hl 5 rfl) ?_
  refine lv_iload hx hb d_Law_law_1068 (lv_at hl 1 rfl) ?_
  refine lv_iconst (v := nI 2) hx hb d_Law_law_1070 (by decide) ?_
  refine lv_iadd hx hb d_Law_law_1071 ?_
  refine lv_topi (fun t9 e9 => ?_)
  obtain rfl : t9 = nI (i + 2) := e9.trans (nI_add _ _)
  refine q_xld E hX (i + 2) rfl (by omega) (by omega) d_Law_law_1072 ?_
  obtain ⟨w9, n9, hob⟩ := hM.ob
  refine q_cV (rest := []) E ((W_Model_same l g (nMT (b + 501)) (b + 501) th pn tn wn A (xs (i + 1)) (xs (i + 2)) hA9).frI (nMT_up hb0)) w_1214 w_15 w_1211 w_1212 w_1213 hd_Model_same rfl ⟨by decide, by decide⟩ (OB.recv E.2.2.2.2.2 (by rfl) hob) hM hF hl.1 rfl (Nat.le_of_ble_eq_true rfl) d_Law_law_1073 hc (qi (fun r6 H2 locs hq6 hF => ?_))
  obtain ⟨hq6, hfr6⟩ := hq6
  have hX := hX.kept (hfr6.2 sb hX.lt (nMT_n (nM_lt hb0 hsb)))
  clear hob hM
  have hm7 := ai_T7 hm7 hfr6
  have hm0 := ai_T6 hm0 hfr6
  rcases hq with ⟨hok, rfl, hG, k1, k2, rb, e1, e2, hbn, hr9, hA, hcw1⟩ | ⟨hok, rfl, hG, hcw1⟩
  · skip
    obtain ⟨hM, h69⟩ : MVP g (nMT (b + 501)) H2 (b + 501) 0 pn tn wn A ∧ r6 = rb := by
      rcases hq6 with ⟨-, j1, j2, f1, f2, b1, b2, hr8, h⟩ | ⟨h, -⟩
      · obtain rfl := ni_un e1 f1 (by omega) (by omega)
        obtain rfl := ni_un e2 f2 (by omega) (by omega)
        exact ⟨h, (bl_un hr9 hr8 (pe_if (hrl.1 k1 b1) (hrl.1 k2 b2))).symm⟩
      · exact absurd hok h
    subst h69
    refine lv_istore (lv' := [(6, .int r6), (5, .int (nI 0)), (4, .int (nI i)), (3, .ref (b + 510)), (2, .ref (b + 501)), (1, .ref b), (0, .ref sb)]) hx hb d_Law_law_1076 hl (by decide) rfl (fun ls hl => ?_)
    refine lv_aload_n hx hb d_Law_law_1078 rfl (lv_at hl 4 rfl) ?_
    obtain ⟨w9, n9, hob⟩ := hM.ob
    refine q_cV (rest := []) E ((c_Model_thrown l g (nMT (b + 501)) (b + 501) 0).up (nMT_up hb0)) w_1048 w_15 w_1045 w_1046 w_1047 hd_Model_thrown rfl ⟨by decide, by decide⟩ (OB.recv E.2.2.2.2.2 (by rfl) hob) hM.th hF hl.1 rfl (Nat.le_of_ble_eq_true rfl) d_Law_law_1079 hc (qi (fun r7 H3 locs hq7 hF => ?_))
    obtain ⟨rfl, hH7⟩ := hq7
    have hH7 := hH7.symm
    subst hH7
    refine lv_iload hx hb d_Law_law_1082 (lv_at hl 1 rfl) ?_
    refine lv_icmp_eq (tgt := 1089) hx hb d_Law_law_1084 (by decide) (fun _ => ?_) (fun h9 => absurd (rfl) h9)
    refine lv_iload hx hb d_Law_law_1089 (lv_at hl 1 rfl) ?_
    refine lv_if_ne (tgt := 1113) hx hb d_Law_law_1091 (by decide) (fun h9 => absurd (rfl) h9) (fun _ => ?_)
    refine lv_aload_n hx hb d_Law_law_1094 rfl (lv_at hl 3 rfl) ?_
    refine lv_iconst (v := nI 0) hx hb d_Law_law_1095 (by decide) ?_
    refine q_lald (N := 1) (f := (fun _ => bL r6)) E (hA.eq (hfr6.2 (b + 510) hA.lt (nMT_n nM_510))) 0 rfl (by decide) (by decide) d_Law_law_1096 ?_
    refine lv_iload hx hb d_Law_law_1097 (lv_at hl 0 rfl) ?_
    refine lv_if_eq (tgt := 1106) hx hb d_Law_law_1099 (by decide) (fun hz => ?_) (fun hz => ?_)
    · skip
      refine lv_lconst (v := 0) hx hb d_Law_law_1106 (by decide) ?_
      refine W.lcmp hx hb d_Law_law_1107 ?_
      refine lv_if_eq (tgt := 1113) hx hb d_Law_law_1108 (by decide) (fun _ => ?_) (fun h9 => absurd (l2i_eq (if_pos hz)) h9)
      refine lv_goto (tgt := 1611) hx hb d_Law_law_1113 (by decide) ?_
      have hl : lv_has ls 8 [(4, .int (nI i)), (3, .ref (b + 510)), (2, .ref (b + 501)), (1, .ref b), (0, .ref sb)] := lv_sub hl [2, 3, 4, 5, 6] rfl
      exact hN _ _ ls _ _ _ _ _ _ (hG.frq hb0 (nMT_fr hfr6)) hM (TW.mk hmr hmq hG.2.1 hfr6 (fun q h => nMT_ge h) hcw1 hbd.1 hrl hc0 hm0 ht0 hj0 hc7 hm7 hj7) hX hF hl
    · skip
      refine lv_lconst (v := 1) hx hb d_Law_law_1102 (by decide) ?_
      refine lv_goto (tgt := 1107) hx hb d_Law_law_1103 (by decide) ?_
      refine W.lcmp hx hb d_Law_law_1107 ?_
      refine lv_if_eq (tgt := 1113) hx hb d_Law_law_1108 (by decide) (fun _ => ?_) (fun h9 => absurd (l2i_eq (if_neg hz)) h9)
      refine lv_goto (tgt := 1611) hx hb d_Law_law_1113 (by decide) ?_
      have hl : lv_has ls 8 [(4, .int (nI i)), (3, .ref (b + 510)), (2, .ref (b + 501)), (1, .ref b), (0, .ref sb)] := lv_sub hl [2, 3, 4, 5, 6] rfl
      exact hN _ _ ls _ _ _ _ _ _ (hG.frq hb0 (nMT_fr hfr6)) hM (TW.mk hmr hmq hG.2.1 hfr6 (fun q h => nMT_ge h) hcw1 hbd.1 hrl hc0 hm0 ht0 hj0 hc7 hm7 hj7) hX hF hl
  · skip
    have hM : MVP g (nMT (b + 501)) H2 (b + 501) 1 pn tn wn A := by
      rcases hq6 with ⟨h, -⟩ | ⟨-, h⟩
      · exact absurd h hok
      · exact h
    refine lv_istore (lv' := [(6, .int r6), (5, .int (nI 1)), (4, .int (nI i)), (3, .ref (b + 510)), (2, .ref (b + 501)), (1, .ref b), (0, .ref sb)]) hx hb d_Law_law_1076 hl (by decide) rfl (fun ls hl => ?_)
    refine lv_aload_n hx hb d_Law_law_1078 rfl (lv_at hl 4 rfl) ?_
    obtain ⟨w9, n9, hob⟩ := hM.ob
    refine q_cV (rest := []) E ((c_Model_thrown l g (nMT (b + 501)) (b + 501) 1).up (nMT_up hb0)) w_1048 w_15 w_1045 w_1046 w_1047 hd_Model_thrown rfl ⟨by decide, by decide⟩ (OB.recv E.2.2.2.2.2 (by rfl) hob) hM.th hF hl.1 rfl (Nat.le_of_ble_eq_true rfl) d_Law_law_1079 hc (qi (fun r7 H3 locs hq7 hF => ?_))
    obtain ⟨rfl, hH7⟩ := hq7
    have hH7 := hH7.symm
    subst hH7
    refine lv_iload hx hb d_Law_law_1082 (lv_at hl 1 rfl) ?_
    refine lv_icmp_eq (tgt := 1089) hx hb d_Law_law_1084 (by decide) (fun _ => ?_) (fun h9 => absurd (rfl) h9)
    refine lv_iload hx hb d_Law_law_1089 (lv_at hl 1 rfl) ?_
    refine lv_if_ne (tgt := 1113) hx hb d_Law_law_1091 (by decide) (fun _ => ?_) (fun h9 => absurd h9 (by decide))
    refine lv_goto (tgt := 1611) hx hb d_Law_law_1113 (by decide) ?_
    have hl : lv_has ls 8 [(4, .int (nI i)), (3, .ref (b + 510)), (2, .ref (b + 501)), (1, .ref b), (0, .ref sb)] := lv_sub hl [2, 3, 4, 5, 6] rfl
    exact hN _ _ ls _ _ _ _ _ _ (hG.frq hb0 (nMT_fr hfr6)) hM (TW.mk hmr hmq hG.2.1 hfr6 (fun q h => nMT_ge h) hcw1 hbd.1 hrl hc0 hm0 ht0 hj0 hc7 hm7 hj7) hX hF hl
set_option maxHeartbeats 4000000 in
set_option maxRecDepth 100000 in
theorem k_setup {p : Program} {l : Launch} {e : Env} {s : State} {m : MethodId} {below : List Frame} {meth : Method} {c : Code} {g : WG} {sb L : Nat} {xs : Nat → Int32} {b : Nat} {mr mq : Int64} {H : Heap} {locs : List Loc} {ls : Array Slot} {th : Int32} {pn tn wn wm i cells slots : Nat} {A : Nat → Int} (E : EV p m c code 8 s #[Value.ref sb] "KateDeskLaw" g) (hr : meth.sig.returnType = ret) (hlk : meth.locks = false) (hb0 : s.heap.size ≤ b) (hsb : sb < s.heap.size) (hxs : XS l s) (hL : L ≤ 3072) (hi : i + 6 ≤ L) (hc : cells + 1 ≤ room_1.cells ∧ slots + 6 ≤ room_1.slots) (hN : LNX p l e s m below meth c g sb L xs b mr mq i (cells + 1) (slots + 6)) (hG : LG g s H b pn tn wn mr mq) (hM : MVP g (nMT (b + 501)) H (b + 501) th pn tn wm A) (hT : TW g H b pn tn wn wm A mr mq) (hX : va_X sb L xs s H) (hF : ∀ q ∈ locs, HXA s q.base) (hl : lv_has ls 8 [(4, .int (nI i)), (3, .ref (b + 510)), (2, .ref (b + 501)), (1, .ref b), (0, .ref sb)]) : W p l e room_1 s m #[Value.ref sb] below meth c H locs cells slots (lw_Z below #[Value.ref sb] s) (F0 m 1116 ls []) := by
  have hx := E.1
  have hb := E.2.1
  have hK := E.2.2.2.2.2
  have hw0 := State.WarmedH.refl s
  obtain ⟨⟨hmr, hmq, rfl⟩, ⟨hR0, c0, m0, t0, hc0, hm0, ht0, hj0⟩, ⟨c7, m7, t7, hc7, hm7, hj7⟩, P, V, hcw, hrl⟩ := id hT
  clear hT
  have hbd := hM.2.2.2.2.2.1
  refine lv_aload_n hx hb d_Law_law_1116 rfl (lv_at hl 3 rfl) ?_
  refine lv_aload_n hx hb d_Law_law_1117 rfl (lv_at hl 4 rfl) ?_
  refine lv_iload hx hb d_Law_law_1118 (lv_at hl 0 rfl) ?_
  refine lv_iconst (v := nI 1) hx hb d_Law_law_1120 (by decide) ?_
  refine lv_iadd hx hb d_Law_law_1121 ?_
  refine lv_topi (fun t9 e9 => ?_)
  obtain rfl : t9 = nI (i + 1) := e9.trans (nI_add _ _)
  refine q_xld E hX (i + 1) rfl (by omega) (by omega) d_Law_law_1122 ?_
  refine lv_aload_n hx hb d_Law_law_1123 rfl (lv_at hl 4 rfl) ?_
  refine lv_iload hx hb d_Law_law_1124 (lv_at hl 0 rfl) ?_
  refine lv_iconst (v := nI 2) hx hb d_Law_law_1126 (by decide) ?_
  refine lv_iadd hx hb d_Law_law_1127 ?_
  refine lv_topi (fun t9 e9 => ?_)
  obtain rfl : t9 = nI (i + 2) := e9.trans (nI_add _ _)
  refine q_xld E hX (i + 2) rfl (by omega) (by omega) d_Law_law_1128 ?_
  refine q_cSH (rest := []) E hw0 (XH_setup l g s hxs b pn tn wn mr mq hb0 (xs (i + 1)) (xs (i + 2)) hmr hmq A P V) w_818 w_0 w_816 w_817 hd_Law_setup rfl ⟨by decide, by decide⟩ ⟨hG, hcw⟩ hF hl.1 rfl (Nat.le_of_ble_eq_true rfl) d_Law_law_1129 hc (qi (fun r5 H1 locs hq hF => ?_))
  obtain ⟨hq, hfr⟩ := hq
  have hX := hX.kept (hfr sb (Or.inl (Nat.lt_of_lt_of_le hsb hb0)))
  have hM := hM.on (fun q h1 h2 => hfr q (Or.inr (Or.inl ⟨h1, h2⟩)))
  have hm0 : AI g H1 (b + 501 + 6) 96 m0 := AI.eq hm0 (hfr _ (Or.inr (Or.inl ⟨by omega, by omega⟩)))
  have hm7 : AI g H1 (b + 501 + 7) 96 m7 := AI.eq hm7 (hfr _ (Or.inr (Or.inl ⟨by omega, by omega⟩)))
  have hA9 := hrl.hoG
  have hc0 : AB g H1 (b + 149) 96 c0 := hc0.eq (hfr _ (Or.inr (Or.inr (Or.inl rfl))))
  have hc7 : AB g H1 (b + 151) 96 c7 := hc7.eq (hfr _ (Or.inr (Or.inr (Or.inr rfl))))
  refine lv_istore (lv' := [(5, .int r5), (4, .int (nI i)), (3, .ref (b + 510)), (2, .ref (b + 501)), (1, .ref b), (0, .ref sb)]) hx hb d_Law_law_1132 hl (by decide) rfl (fun ls hl => ?_)
  refine lv_aload_n hx hb d_Law_law_1134 rfl (lv_at hl 3 rfl) ?_
  refine lv_aload_n hx hb d_Law_law_1135 rfl (lv_at hl 5 rfl) ?_
  refine lv_iload hx hb d_Law_law_1136 (lv_at hl 1 rfl) ?_
  refine lv_iconst (v := nI 1) hx hb d_Law_law_1138 (by decide) ?_
  refine lv_iadd hx hb d_Law_law_1139 ?_
  refine lv_topi (fun t9 e9 => ?_)
  obtain rfl : t9 = nI (i + 1) := e9.trans (nI_add _ _)
  refine q_xld E hX (i + 1) rfl (by omega) (by omega) d_Law_law_1140 ?_
  refine lv_aload_n hx hb d_Law_law_1141 rfl (lv_at hl 5 rfl) ?_
  refine lv_iload hx hb d_Law_law_1142 (lv_at hl 1 rfl) ?_
  refine lv_iconst (v := nI 2) hx hb d_Law_law_1144 (by decide) ?_
  refine lv_iadd hx hb d_Law_law_1145 ?_
  refine lv_topi (fun t9 e9 => ?_)
  obtain rfl : t9 = nI (i + 2) := e9.trans (nI_add _ _)
  refine q_xld E hX (i + 2) rfl (by omega) (by omega) d_Law_law_1146 ?_
  obtain ⟨w9, n9, hob⟩ := hM.ob
  refine q_cV (rest := []) E ((W_Model_setup l g (nMT (b + 501)) (b + 501) th pn tn wn A (xs (i + 1)) (xs (i + 2)) hA9).frV (nMT_up hb0)) w_1222 w_15 w_1219 w_1220 w_1221 hd_Model_setup rfl ⟨by decide, by decide⟩ (OB.recv E.2.2.2.2.2 (by rfl) hob) hM hF hl.1 rfl (Nat.le_of_ble_eq_true rfl) d_Law_law_1147 hc (qv (fun H2 locs hq6 hF => ?_))
  obtain ⟨hq6, hfr6⟩ := hq6
  have hX := hX.kept (hfr6.2 sb hX.lt (nMT_n (nM_lt hb0 hsb)))
  clear hob hM
  have hm7 := ai_T7 hm7 hfr6
  have hm0 := ai_T6 hm0 hfr6
  rcases hq with ⟨hok, rfl, k1, k2, V', e1, e2, b1, b2, hG, hV, hcw1⟩ | ⟨hok, rfl, hG, hcw1⟩
  · skip
    obtain ⟨B1, hB1, hB2, hM⟩ : ∃ B1, (∀ k, k < 68 ∨ 116 ≤ k → B1 k = A k) ∧ (∀ j, j < k2 → RP (ptB A 116) (A k1 ^ j % RI) (ptB B1 (68 + 3 * j))) ∧ MVP g (nMT (b + 501)) H2 (b + 501) 0 k2 tn wn B1 := by
      rcases hq6 with ⟨-, j1, j2, f1, f2, c1, c2, B1, h1, h2, h⟩ | ⟨h, -⟩
      · obtain rfl := ni_un e1 f1 (by omega) (by omega)
        obtain rfl := ni_un e2 f2 (by omega) (by omega)
        exact ⟨B1, h1, h2, h⟩
      · exact absurd hok h
    refine lv_aload_n hx hb d_Law_law_1150 rfl (lv_at hl 3 rfl) ?_
    obtain ⟨w9, n9, hob⟩ := hM.ob
    refine q_cV (rest := []) E ((c_Model_thrown l g (nMT (b + 501)) (b + 501) 0).up (nMT_up hb0)) w_1048 w_15 w_1045 w_1046 w_1047 hd_Model_thrown rfl ⟨by decide, by decide⟩ (OB.recv E.2.2.2.2.2 (by rfl) hob) hM.th hF hl.1 rfl (Nat.le_of_ble_eq_true rfl) d_Law_law_1151 hc (qi (fun r7 H3 locs hq7 hF => ?_))
    obtain ⟨rfl, hH7⟩ := hq7
    have hH7 := hH7.symm
    subst hH7
    refine lv_iload hx hb d_Law_law_1154 (lv_at hl 0 rfl) ?_
    refine lv_icmp_eq (tgt := 1161) hx hb d_Law_law_1156 (by decide) (fun _ => ?_) (fun h9 => absurd (rfl) h9)
    refine lv_goto (tgt := 1611) hx hb d_Law_law_1161 (by decide) ?_
    have hl : lv_has ls 8 [(4, .int (nI i)), (3, .ref (b + 510)), (2, .ref (b + 501)), (1, .ref b), (0, .ref sb)] := lv_sub hl [1, 2, 3, 4, 5] rfl
    exact hN _ _ ls _ _ _ _ _ _ (hG.frq hb0 (nMT_fr hfr6)) hM (TW.mk hmr hmq hG.2.1 hfr6 (fun q h => nMT_ge h) (hcw1.upd (fun k hk => hB1 k (Or.inl (by omega)))) b2 (hrl.su hB1 hV hB2) hc0 hm0 ht0 hj0 hc7 hm7 hj7) hX hF hl
  · skip
    have hM : MVP g (nMT (b + 501)) H2 (b + 501) 1 pn tn wn A := by
      rcases hq6 with ⟨h, -⟩ | ⟨-, h⟩
      · exact absurd h hok
      · exact h
    refine lv_aload_n hx hb d_Law_law_1150 rfl (lv_at hl 3 rfl) ?_
    obtain ⟨w9, n9, hob⟩ := hM.ob
    refine q_cV (rest := []) E ((c_Model_thrown l g (nMT (b + 501)) (b + 501) 1).up (nMT_up hb0)) w_1048 w_15 w_1045 w_1046 w_1047 hd_Model_thrown rfl ⟨by decide, by decide⟩ (OB.recv E.2.2.2.2.2 (by rfl) hob) hM.th hF hl.1 rfl (Nat.le_of_ble_eq_true rfl) d_Law_law_1151 hc (qi (fun r7 H3 locs hq7 hF => ?_))
    obtain ⟨rfl, hH7⟩ := hq7
    have hH7 := hH7.symm
    subst hH7
    refine lv_iload hx hb d_Law_law_1154 (lv_at hl 0 rfl) ?_
    refine lv_icmp_eq (tgt := 1161) hx hb d_Law_law_1156 (by decide) (fun _ => ?_) (fun h9 => absurd (rfl) h9)
    refine lv_goto (tgt := 1611) hx hb d_Law_law_1161 (by decide) ?_
    have hl : lv_has ls 8 [(4, .int (nI i)), (3, .ref (b + 510)), (2, .ref (b + 501)), (1, .ref b), (0, .ref sb)] := lv_sub hl [1, 2, 3, 4, 5] rfl
    exact hN _ _ ls _ _ _ _ _ _ (hG.frq hb0 (nMT_fr hfr6)) hM (TW.mk hmr hmq hG.2.1 hfr6 (fun q h => nMT_ge h) hcw1 hbd.1 hrl hc0 hm0 ht0 hj0 hc7 hm7 hj7) hX hF hl
set_option maxHeartbeats 4000000 in
set_option maxRecDepth 100000 in
theorem k_commit {p : Program} {l : Launch} {e : Env} {s : State} {m : MethodId} {below : List Frame} {meth : Method} {c : Code} {g : WG} {sb L : Nat} {xs : Nat → Int32} {b : Nat} {mr mq : Int64} {H : Heap} {locs : List Loc} {ls : Array Slot} {th : Int32} {pn tn wn wm i cells slots : Nat} {A : Nat → Int} (E : EV p m c code 8 s #[Value.ref sb] "KateDeskLaw" g) (hr : meth.sig.returnType = ret) (hlk : meth.locks = false) (hb0 : s.heap.size ≤ b) (hsb : sb < s.heap.size) (hxs : XS l s) (hno : va_Nc "java/lang/IllegalStateException" "java/lang/IllegalArgumentException" s) (hL : L ≤ 3072) (hi : i + 6 ≤ L) (hc : cells + 1 ≤ room_1.cells ∧ slots + 6 ≤ room_1.slots) (hN : LNX p l e s m below meth c g sb L xs b mr mq i (cells + 1) (slots + 6)) (hG : LG g s H b pn tn wn mr mq) (hM : MVP g (nMT (b + 501)) H (b + 501) th pn tn wm A) (hT : TW g H b pn tn wn wm A mr mq) (hX : va_X sb L xs s H) (hF : ∀ q ∈ locs, HXA s q.base) (hl : lv_has ls 8 [(4, .int (nI i)), (3, .ref (b + 510)), (2, .ref (b + 501)), (1, .ref b), (0, .ref sb)]) : W p l e room_1 s m #[Value.ref sb] below meth c H locs cells slots (lw_Z below #[Value.ref sb] s) (F0 m 1164 ls []) := by
  have hx := E.1
  have hb := E.2.1
  have hK := E.2.2.2.2.2
  have hw0 := State.WarmedH.refl s
  obtain ⟨⟨hmr, hmq, rfl⟩, ⟨hR0, c0, m0, t0, hc0, hm0, ht0, hj0⟩, ⟨c7, m7, t7, hc7, hm7, hj7⟩, P, V, hcw, hrl⟩ := id hT
  clear hT
  have hbd := hM.2.2.2.2.2.1
  refine lv_aload_n hx hb d_Law_law_1164 rfl (lv_at hl 3 rfl) ?_
  refine lv_aload_n hx hb d_Law_law_1165 rfl (lv_at hl 4 rfl) ?_
  refine lv_iload hx hb d_Law_law_1166 (lv_at hl 0 rfl) ?_
  refine lv_iconst (v := nI 1) hx hb d_Law_law_1168 (by decide) ?_
  refine lv_iadd hx hb d_Law_law_1169 ?_
  refine lv_topi (fun t9 e9 => ?_)
  obtain rfl : t9 = nI (i + 1) := e9.trans (nI_add _ _)
  refine q_xld E hX (i + 1) rfl (by omega) (by omega) d_Law_law_1170 ?_
  refine lv_aload_n hx hb d_Law_law_1171 rfl (lv_at hl 4 rfl) ?_
  refine lv_iload hx hb d_Law_law_1172 (lv_at hl 0 rfl) ?_
  refine lv_iconst (v := nI 2) hx hb d_Law_law_1174 (by decide) ?_
  refine lv_iadd hx hb d_Law_law_1175 ?_
  refine lv_topi (fun t9 e9 => ?_)
  obtain rfl : t9 = nI (i + 2) := e9.trans (nI_add _ _)
  refine q_xld E hX (i + 2) rfl (by omega) (by omega) d_Law_law_1176 ?_
  refine lv_aload_n hx hb d_Law_law_1177 rfl (lv_at hl 4 rfl) ?_
  refine lv_iload hx hb d_Law_law_1178 (lv_at hl 0 rfl) ?_
  refine lv_iconst (v := nI 3) hx hb d_Law_law_1180 (by decide) ?_
  refine lv_iadd hx hb d_Law_law_1181 ?_
  refine lv_topi (fun t9 e9 => ?_)
  obtain rfl : t9 = nI (i + 3) := e9.trans (nI_add _ _)
  refine q_xld E hX (i + 3) rfl (by omega) (by omega) d_Law_law_1182 ?_
  refine q_cSH (rest := []) E hw0 (XH_commit l g s hxs b pn tn wn mr mq hb0 (xs (i + 1)) (xs (i + 2)) (xs (i + 3)) hmr hmq A P V hno) w_836 w_0 w_834 w_835 hd_Law_commit rfl ⟨by decide, by decide⟩ ⟨hG, hcw⟩ hF hl.1 rfl (Nat.le_of_ble_eq_true rfl) d_Law_law_1183 hc (qi (fun r5 H1 locs hq hF => ?_))
  obtain ⟨hq, hfr⟩ := hq
  have hX := hX.kept (hfr sb (Or.inl (Nat.lt_of_lt_of_le hsb hb0)))
  have hM := hM.on (fun q h1 h2 => hfr q (Or.inr (Or.inl ⟨h1, h2⟩)))
  have hm0 : AI g H1 (b + 501 + 6) 96 m0 := AI.eq hm0 (hfr _ (Or.inr (Or.inl ⟨by omega, by omega⟩)))
  have hm7 : AI g H1 (b + 501 + 7) 96 m7 := AI.eq hm7 (hfr _ (Or.inr (Or.inl ⟨by omega, by omega⟩)))
  have hA9 := hrl.hop hcw
  have hc0 : AB g H1 (b + 149) 96 c0 := hc0.eq (hfr _ (Or.inr (Or.inr (Or.inl rfl))))
  have hc7 : AB g H1 (b + 151) 96 c7 := hc7.eq (hfr _ (Or.inr (Or.inr (Or.inr rfl))))
  refine lv_istore (lv' := [(5, .int r5), (4, .int (nI i)), (3, .ref (b + 510)), (2, .ref (b + 501)), (1, .ref b), (0, .ref sb)]) hx hb d_Law_law_1186 hl (by decide) rfl (fun ls hl => ?_)
  refine lv_aload_n hx hb d_Law_law_1188 rfl (lv_at hl 3 rfl) ?_
  refine lv_aload_n hx hb d_Law_law_1189 rfl (lv_at hl 5 rfl) ?_
  refine lv_iload hx hb d_Law_law_1190 (lv_at hl 1 rfl) ?_
  refine lv_iconst (v := nI 1) hx hb d_Law_law_1192 (by decide) ?_
  refine lv_iadd hx hb d_Law_law_1193 ?_
  refine lv_topi (fun t9 e9 => ?_)
  obtain rfl : t9 = nI (i + 1) := e9.trans (nI_add _ _)
  refine q_xld E hX (i + 1) rfl (by omega) (by omega) d_Law_law_1194 ?_
  refine lv_aload_n hx hb d_Law_law_1195 rfl (lv_at hl 5 rfl) ?_
  refine lv_iload hx hb d_Law_law_1196 (lv_at hl 1 rfl) ?_
  refine lv_iconst (v := nI 2) hx hb d_Law_law_1198 (by decide) ?_
  refine lv_iadd hx hb d_Law_law_1199 ?_
  refine lv_topi (fun t9 e9 => ?_)
  obtain rfl : t9 = nI (i + 2) := e9.trans (nI_add _ _)
  refine q_xld E hX (i + 2) rfl (by omega) (by omega) d_Law_law_1200 ?_
  refine lv_aload_n hx hb d_Law_law_1201 rfl (lv_at hl 5 rfl) ?_
  refine lv_iload hx hb d_Law_law_1202 (lv_at hl 1 rfl) ?_
  refine lv_iconst (v := nI 3) hx hb d_Law_law_1204 (by decide) ?_
  refine lv_iadd hx hb d_Law_law_1205 ?_
  refine lv_topi (fun t9 e9 => ?_)
  obtain rfl : t9 = nI (i + 3) := e9.trans (nI_add _ _)
  refine q_xld E hX (i + 3) rfl (by omega) (by omega) d_Law_law_1206 ?_
  obtain ⟨w9, n9, hob⟩ := hM.ob
  refine q_cV (rest := []) E ((W_Model_commit l g (nMT (b + 501)) (b + 501) th pn tn wn A (xs (i + 1)) (xs (i + 2)) (xs (i + 3)) hA9).frV (nMT_up hb0)) w_1227 w_15 w_1224 w_1225 w_1226 hd_Model_commit rfl ⟨by decide, by decide⟩ (OB.recv E.2.2.2.2.2 (by rfl) hob) hM hF hl.1 rfl (Nat.le_of_ble_eq_true rfl) d_Law_law_1207 hc (qv (fun H2 locs hq6 hF => ?_))
  obtain ⟨hq6, hfr6⟩ := hq6
  have hX := hX.kept (hfr6.2 sb hX.lt (nMT_n (nM_lt hb0 hsb)))
  clear hob hM
  have hm7 := ai_T7 hm7 hfr6
  have hm0 := ai_T6 hm0 hfr6
  rcases hq with ⟨hok, ⟨hpn, rfl, hG, k1, k2, k3, T, e1, e2, e3, hbn, hT9, hcw1⟩ | ⟨hpn, rfl, hG, hcw1⟩⟩ | ⟨hok, rfl, hG, hcw1⟩
  · skip
    obtain ⟨T', hM, hPT⟩ : ∃ T', MVP g (nMT (b + 501)) H2 (b + 501) 0 pn tn wn (updP A (32 + 3 * k1) T') ∧ PE T T' := by
      rcases hq6 with ⟨-, ⟨j1, j3, f1, f3, b1, b3, -, T', hT8, h⟩ | ⟨h, -⟩⟩ | ⟨h, -⟩
      · obtain rfl := ni_un e1 f1 (by omega) (by omega)
        obtain rfl := ni_un e3 f3 (by omega) (by omega)
        refine ⟨T', h, ?_⟩
        rcases hT8 with ⟨e0, e9⟩ | ⟨h0, j2, f2, b2, hT8⟩
        · subst e0
          rw [e9]
          exact RSm_0 hT9
        · have hb2 := hbn.2.2.2 h0
          obtain rfl := ni_un e2 f2 (by omega) (by omega)
          exact RSm.un2 (fun t ht => hA9 t (by omega)) hT9 hT8 (fun t ht => hrl.2.1 t (by omega))
      · exact absurd hpn h
      · exact absurd hok h
    refine lv_aload_n hx hb d_Law_law_1210 rfl (lv_at hl 3 rfl) ?_
    obtain ⟨w9, n9, hob⟩ := hM.ob
    refine q_cV (rest := []) E ((c_Model_thrown l g (nMT (b + 501)) (b + 501) 0).up (nMT_up hb0)) w_1048 w_15 w_1045 w_1046 w_1047 hd_Model_thrown rfl ⟨by decide, by decide⟩ (OB.recv E.2.2.2.2.2 (by rfl) hob) hM.th hF hl.1 rfl (Nat.le_of_ble_eq_true rfl) d_Law_law_1211 hc (qi (fun r7 H3 locs hq7 hF => ?_))
    obtain ⟨rfl, hH7⟩ := hq7
    have hH7 := hH7.symm
    subst hH7
    refine lv_iload hx hb d_Law_law_1214 (lv_at hl 0 rfl) ?_
    refine lv_icmp_eq (tgt := 1221) hx hb d_Law_law_1216 (by decide) (fun _ => ?_) (fun h9 => absurd (rfl) h9)
    refine lv_goto (tgt := 1611) hx hb d_Law_law_1221 (by decide) ?_
    have hl : lv_has ls 8 [(4, .int (nI i)), (3, .ref (b + 510)), (2, .ref (b + 501)), (1, .ref b), (0, .ref sb)] := lv_sub hl [1, 2, 3, 4, 5] rfl
    exact hN _ _ ls _ _ _ _ _ _ (hG.frq hb0 (nMT_fr hfr6)) hM (TW.mk hmr hmq hG.2.1 hfr6 (fun q h => nMT_ge h) (hcw1.upd (upP_lo (by omega))) hbd.1 (hrl.set hbn.1 hbd.1 hPT) hc0 hm0 ht0 hj0 hc7 hm7 hj7) hX hF hl
  · skip
    have hM : MVP g (nMT (b + 501)) H2 (b + 501) (nI 2) pn tn wn A := by
      rcases hq6 with ⟨-, ⟨j1, j3, f1, f3, b1, b3, h, -⟩ | ⟨-, h⟩⟩ | ⟨h, -⟩
      · exact absurd h hpn
      · exact h
      · exact absurd hok h
    refine lv_aload_n hx hb d_Law_law_1210 rfl (lv_at hl 3 rfl) ?_
    obtain ⟨w9, n9, hob⟩ := hM.ob
    refine q_cV (rest := []) E ((c_Model_thrown l g (nMT (b + 501)) (b + 501) (nI 2)).up (nMT_up hb0)) w_1048 w_15 w_1045 w_1046 w_1047 hd_Model_thrown rfl ⟨by decide, by decide⟩ (OB.recv E.2.2.2.2.2 (by rfl) hob) hM.th hF hl.1 rfl (Nat.le_of_ble_eq_true rfl) d_Law_law_1211 hc (qi (fun r7 H3 locs hq7 hF => ?_))
    obtain ⟨rfl, hH7⟩ := hq7
    have hH7 := hH7.symm
    subst hH7
    refine lv_iload hx hb d_Law_law_1214 (lv_at hl 0 rfl) ?_
    refine lv_icmp_eq (tgt := 1221) hx hb d_Law_law_1216 (by decide) (fun _ => ?_) (fun h9 => absurd (rfl) h9)
    refine lv_goto (tgt := 1611) hx hb d_Law_law_1221 (by decide) ?_
    have hl : lv_has ls 8 [(4, .int (nI i)), (3, .ref (b + 510)), (2, .ref (b + 501)), (1, .ref b), (0, .ref sb)] := lv_sub hl [1, 2, 3, 4, 5] rfl
    exact hN _ _ ls _ _ _ _ _ _ (hG.frq hb0 (nMT_fr hfr6)) hM (TW.mk hmr hmq hG.2.1 hfr6 (fun q h => nMT_ge h) hcw1 hbd.1 hrl hc0 hm0 ht0 hj0 hc7 hm7 hj7) hX hF hl
  · skip
    have hM : MVP g (nMT (b + 501)) H2 (b + 501) 1 pn tn wn A := by
      rcases hq6 with ⟨h, -⟩ | ⟨-, h⟩
      · exact absurd h hok
      · exact h
    refine lv_aload_n hx hb d_Law_law_1210 rfl (lv_at hl 3 rfl) ?_
    obtain ⟨w9, n9, hob⟩ := hM.ob
    refine q_cV (rest := []) E ((c_Model_thrown l g (nMT (b + 501)) (b + 501) 1).up (nMT_up hb0)) w_1048 w_15 w_1045 w_1046 w_1047 hd_Model_thrown rfl ⟨by decide, by decide⟩ (OB.recv E.2.2.2.2.2 (by rfl) hob) hM.th hF hl.1 rfl (Nat.le_of_ble_eq_true rfl) d_Law_law_1211 hc (qi (fun r7 H3 locs hq7 hF => ?_))
    obtain ⟨rfl, hH7⟩ := hq7
    have hH7 := hH7.symm
    subst hH7
    refine lv_iload hx hb d_Law_law_1214 (lv_at hl 0 rfl) ?_
    refine lv_icmp_eq (tgt := 1221) hx hb d_Law_law_1216 (by decide) (fun _ => ?_) (fun h9 => absurd (rfl) h9)
    refine lv_goto (tgt := 1611) hx hb d_Law_law_1221 (by decide) ?_
    have hl : lv_has ls 8 [(4, .int (nI i)), (3, .ref (b + 510)), (2, .ref (b + 501)), (1, .ref b), (0, .ref sb)] := lv_sub hl [1, 2, 3, 4, 5] rfl
    exact hN _ _ ls _ _ _ _ _ _ (hG.frq hb0 (nMT_fr hfr6)) hM (TW.mk hmr hmq hG.2.1 hfr6 (fun q h => nMT_ge h) hcw1 hbd.1 hrl hc0 hm0 ht0 hj0 hc7 hm7 hj7) hX hF hl
set_option maxHeartbeats 4000000 in
set_option maxRecDepth 100000 in
theorem k_open {p : Program} {l : Launch} {e : Env} {s : State} {m : MethodId} {below : List Frame} {meth : Method} {c : Code} {g : WG} {sb L : Nat} {xs : Nat → Int32} {b : Nat} {mr mq : Int64} {H : Heap} {locs : List Loc} {ls : Array Slot} {th : Int32} {pn tn wn wm i cells slots : Nat} {A : Nat → Int} (E : EV p m c code 8 s #[Value.ref sb] "KateDeskLaw" g) (hr : meth.sig.returnType = ret) (hlk : meth.locks = false) (hb0 : s.heap.size ≤ b) (hsb : sb < s.heap.size) (hxs : XS l s) (hL : L ≤ 3072) (hi : i + 6 ≤ L) (hc : cells + 1 ≤ room_1.cells ∧ slots + 6 ≤ room_1.slots) (hN : LNX p l e s m below meth c g sb L xs b mr mq i (cells + 1) (slots + 6)) (hG : LG g s H b pn tn wn mr mq) (hM : MVP g (nMT (b + 501)) H (b + 501) th pn tn wm A) (hT : TW g H b pn tn wn wm A mr mq) (hX : va_X sb L xs s H) (hF : ∀ q ∈ locs, HXA s q.base) (hl : lv_has ls 8 [(4, .int (nI i)), (3, .ref (b + 510)), (2, .ref (b + 501)), (1, .ref b), (0, .ref sb)]) : W p l e room_1 s m #[Value.ref sb] below meth c H locs cells slots (lw_Z below #[Value.ref sb] s) (F0 m 1224 ls []) := by
  have hx := E.1
  have hb := E.2.1
  have hK := E.2.2.2.2.2
  have hw0 := State.WarmedH.refl s
  obtain ⟨⟨hmr, hmq, rfl⟩, ⟨hR0, c0, m0, t0, hc0, hm0, ht0, hj0⟩, ⟨c7, m7, t7, hc7, hm7, hj7⟩, P, V, hcw, hrl⟩ := id hT
  clear hT
  have hbd := hM.2.2.2.2.2.1
  refine lv_aload_n hx hb d_Law_law_1224 rfl (lv_at hl 3 rfl) ?_
  refine lv_aload_n hx hb d_Law_law_1225 rfl (lv_at hl 4 rfl) ?_
  refine lv_iload hx hb d_Law_law_1226 (lv_at hl 0 rfl) ?_
  refine lv_iconst (v := nI 1) hx hb d_Law_law_1228 (by decide) ?_
  refine lv_iadd hx hb d_Law_law_1229 ?_
  refine lv_topi (fun t9 e9 => ?_)
  obtain rfl : t9 = nI (i + 1) := e9.trans (nI_add _ _)
  refine q_xld E hX (i + 1) rfl (by omega) (by omega) d_Law_law_1230 ?_
  refine lv_aload_n hx hb d_Law_law_1231 rfl (lv_at hl 4 rfl) ?_
  refine lv_iload hx hb d_Law_law_1232 (lv_at hl 0 rfl) ?_
  refine lv_iconst (v := nI 2) hx hb d_Law_law_1234 (by decide) ?_
  refine lv_iadd hx hb d_Law_law_1235 ?_
  refine lv_topi (fun t9 e9 => ?_)
  obtain rfl : t9 = nI (i + 2) := e9.trans (nI_add _ _)
  refine q_xld E hX (i + 2) rfl (by omega) (by omega) d_Law_law_1236 ?_
  refine lv_aload_n hx hb d_Law_law_1237 rfl (lv_at hl 4 rfl) ?_
  refine lv_iload hx hb d_Law_law_1238 (lv_at hl 0 rfl) ?_
  refine lv_iconst (v := nI 3) hx hb d_Law_law_1240 (by decide) ?_
  refine lv_iadd hx hb d_Law_law_1241 ?_
  refine lv_topi (fun t9 e9 => ?_)
  obtain rfl : t9 = nI (i + 3) := e9.trans (nI_add _ _)
  refine q_xld E hX (i + 3) rfl (by omega) (by omega) d_Law_law_1242 ?_
  refine lv_aload_n hx hb d_Law_law_1243 rfl (lv_at hl 4 rfl) ?_
  refine lv_iload hx hb d_Law_law_1244 (lv_at hl 0 rfl) ?_
  refine lv_iconst (v := nI 4) hx hb d_Law_law_1246 (by decide) ?_
  refine lv_iadd hx hb d_Law_law_1247 ?_
  refine lv_topi (fun t9 e9 => ?_)
  obtain rfl : t9 = nI (i + 4) := e9.trans (nI_add _ _)
  refine q_xld E hX (i + 4) rfl (by omega) (by omega) d_Law_law_1248 ?_
  refine q_cSH (rest := []) E hw0 (XH_open l g s hxs b pn tn wn mr mq hb0 (xs (i + 1)) (xs (i + 2)) (xs (i + 3)) (xs (i + 4)) hmr A P V) w_844 w_0 w_842 w_843 hd_Law_open rfl ⟨by decide, by decide⟩ ⟨hG, hcw⟩ hF hl.1 rfl (Nat.le_of_ble_eq_true rfl) d_Law_law_1249 hc (qi (fun r5 H1 locs hq hF => ?_))
  obtain ⟨hq, hfr⟩ := hq
  have hX := hX.kept (hfr sb (Or.inl (Nat.lt_of_lt_of_le hsb hb0)))
  have hM := hM.on (fun q h1 h2 => hfr q (Or.inr (Or.inl ⟨h1, h2⟩)))
  have hm0 : AI g H1 (b + 501 + 6) 96 m0 := AI.eq hm0 (hfr _ (Or.inr (Or.inl ⟨by omega, by omega⟩)))
  have hm7 : AI g H1 (b + 501 + 7) 96 m7 := AI.eq hm7 (hfr _ (Or.inr (Or.inl ⟨by omega, by omega⟩)))
  have hc0 : AB g H1 (b + 149) 96 c0 := hc0.eq (hfr _ (Or.inr (Or.inr (Or.inl rfl))))
  have hc7 : AB g H1 (b + 151) 96 c7 := hc7.eq (hfr _ (Or.inr (Or.inr (Or.inr rfl))))
  refine lv_istore (lv' := [(5, .int r5), (4, .int (nI i)), (3, .ref (b + 510)), (2, .ref (b + 501)), (1, .ref b), (0, .ref sb)]) hx hb d_Law_law_1252 hl (by decide) rfl (fun ls hl => ?_)
  refine lv_aload_n hx hb d_Law_law_1254 rfl (lv_at hl 3 rfl) ?_
  refine lv_aload_n hx hb d_Law_law_1255 rfl (lv_at hl 5 rfl) ?_
  refine lv_iload hx hb d_Law_law_1256 (lv_at hl 1 rfl) ?_
  refine lv_iconst (v := nI 1) hx hb d_Law_law_1258 (by decide) ?_
  refine lv_iadd hx hb d_Law_law_1259 ?_
  refine lv_topi (fun t9 e9 => ?_)
  obtain rfl : t9 = nI (i + 1) := e9.trans (nI_add _ _)
  refine q_xld E hX (i + 1) rfl (by omega) (by omega) d_Law_law_1260 ?_
  refine lv_aload_n hx hb d_Law_law_1261 rfl (lv_at hl 5 rfl) ?_
  refine lv_iload hx hb d_Law_law_1262 (lv_at hl 1 rfl) ?_
  refine lv_iconst (v := nI 2) hx hb d_Law_law_1264 (by decide) ?_
  refine lv_iadd hx hb d_Law_law_1265 ?_
  refine lv_topi (fun t9 e9 => ?_)
  obtain rfl : t9 = nI (i + 2) := e9.trans (nI_add _ _)
  refine q_xld E hX (i + 2) rfl (by omega) (by omega) d_Law_law_1266 ?_
  refine lv_aload_n hx hb d_Law_law_1267 rfl (lv_at hl 5 rfl) ?_
  refine lv_iload hx hb d_Law_law_1268 (lv_at hl 1 rfl) ?_
  refine lv_iconst (v := nI 3) hx hb d_Law_law_1270 (by decide) ?_
  refine lv_iadd hx hb d_Law_law_1271 ?_
  refine lv_topi (fun t9 e9 => ?_)
  obtain rfl : t9 = nI (i + 3) := e9.trans (nI_add _ _)
  refine q_xld E hX (i + 3) rfl (by omega) (by omega) d_Law_law_1272 ?_
  refine lv_aload_n hx hb d_Law_law_1273 rfl (lv_at hl 5 rfl) ?_
  refine lv_iload hx hb d_Law_law_1274 (lv_at hl 1 rfl) ?_
  refine lv_iconst (v := nI 4) hx hb d_Law_law_1276 (by decide) ?_
  refine lv_iadd hx hb d_Law_law_1277 ?_
  refine lv_topi (fun t9 e9 => ?_)
  obtain rfl : t9 = nI (i + 4) := e9.trans (nI_add _ _)
  refine q_xld E hX (i + 4) rfl (by omega) (by omega) d_Law_law_1278 ?_
  obtain ⟨w9, n9, hob⟩ := hM.ob
  refine q_cV (rest := []) E ((YF_Model_open l g (nMT (b + 501)) (b + 501) th pn tn wn A (xs (i + 1)) (xs (i + 2)) (xs (i + 3)) (xs (i + 4))).frV (nMT_up hb0)) w_1231 w_15 w_1228 w_1229 w_1230 hd_Model_open rfl ⟨by decide, by decide⟩ (OB.recv E.2.2.2.2.2 (by rfl) hob) hM hF hl.1 rfl (Nat.le_of_ble_eq_true rfl) d_Law_law_1279 hc (qv (fun H2 locs hq6 hF => ?_))
  obtain ⟨hq6, hfr6⟩ := hq6
  have hX := hX.kept (hfr6.2 sb hX.lt (nMT_n (nM_lt hb0 hsb)))
  clear hob hM
  have hm7 := ai_T7 hm7 hfr6
  have hm0 := ai_T6 hm0 hfr6
  rcases hq with ⟨hok, rfl, hG, hcw1⟩ | ⟨hok, rfl, hG, hcw1⟩
  · skip
    have hM : MVP g (nMT (b + 501)) H2 (b + 501) 0 pn tn wn (fOpen (xs (i + 1)) (xs (i + 2)) (xs (i + 3)) (xs (i + 4)) A) := by
      rcases hq6 with ⟨-, h⟩ | ⟨h, -⟩
      · exact h
      · exact absurd hok h
    refine lv_aload_n hx hb d_Law_law_1282 rfl (lv_at hl 3 rfl) ?_
    obtain ⟨w9, n9, hob⟩ := hM.ob
    refine q_cV (rest := []) E ((c_Model_thrown l g (nMT (b + 501)) (b + 501) 0).up (nMT_up hb0)) w_1048 w_15 w_1045 w_1046 w_1047 hd_Model_thrown rfl ⟨by decide, by decide⟩ (OB.recv E.2.2.2.2.2 (by rfl) hob) hM.th hF hl.1 rfl (Nat.le_of_ble_eq_true rfl) d_Law_law_1283 hc (qi (fun r7 H3 locs hq7 hF => ?_))
    obtain ⟨rfl, hH7⟩ := hq7
    have hH7 := hH7.symm
    subst hH7
    refine lv_iload hx hb d_Law_law_1286 (lv_at hl 0 rfl) ?_
    refine lv_icmp_eq (tgt := 1293) hx hb d_Law_law_1288 (by decide) (fun _ => ?_) (fun h9 => absurd (rfl) h9)
    refine lv_goto (tgt := 1611) hx hb d_Law_law_1293 (by decide) ?_
    have hl : lv_has ls 8 [(4, .int (nI i)), (3, .ref (b + 510)), (2, .ref (b + 501)), (1, .ref b), (0, .ref sb)] := lv_sub hl [1, 2, 3, 4, 5] rfl
    exact hN _ _ ls _ _ _ _ _ _ (hG.frq hb0 (nMT_fr hfr6)) hM (TW.mk hmr hmq hG.2.1 hfr6 (fun q h => nMT_ge h) hcw1 hbd.1 (hrl.sc (op_hi hok)) hc0 hm0 ht0 hj0 hc7 hm7 hj7) hX hF hl
  · skip
    have hM : MVP g (nMT (b + 501)) H2 (b + 501) 1 pn tn wn A := by
      rcases hq6 with ⟨h, -⟩ | ⟨-, h⟩
      · exact absurd h hok
      · exact h
    refine lv_aload_n hx hb d_Law_law_1282 rfl (lv_at hl 3 rfl) ?_
    obtain ⟨w9, n9, hob⟩ := hM.ob
    refine q_cV (rest := []) E ((c_Model_thrown l g (nMT (b + 501)) (b + 501) 1).up (nMT_up hb0)) w_1048 w_15 w_1045 w_1046 w_1047 hd_Model_thrown rfl ⟨by decide, by decide⟩ (OB.recv E.2.2.2.2.2 (by rfl) hob) hM.th hF hl.1 rfl (Nat.le_of_ble_eq_true rfl) d_Law_law_1283 hc (qi (fun r7 H3 locs hq7 hF => ?_))
    obtain ⟨rfl, hH7⟩ := hq7
    have hH7 := hH7.symm
    subst hH7
    refine lv_iload hx hb d_Law_law_1286 (lv_at hl 0 rfl) ?_
    refine lv_icmp_eq (tgt := 1293) hx hb d_Law_law_1288 (by decide) (fun _ => ?_) (fun h9 => absurd (rfl) h9)
    refine lv_goto (tgt := 1611) hx hb d_Law_law_1293 (by decide) ?_
    have hl : lv_has ls 8 [(4, .int (nI i)), (3, .ref (b + 510)), (2, .ref (b + 501)), (1, .ref b), (0, .ref sb)] := lv_sub hl [1, 2, 3, 4, 5] rfl
    exact hN _ _ ls _ _ _ _ _ _ (hG.frq hb0 (nMT_fr hfr6)) hM (TW.mk hmr hmq hG.2.1 hfr6 (fun q h => nMT_ge h) hcw1 hbd.1 hrl hc0 hm0 ht0 hj0 hc7 hm7 hj7) hX hF hl
set_option maxHeartbeats 4000000 in
set_option maxRecDepth 100000 in
theorem k_checks {p : Program} {l : Launch} {e : Env} {s : State} {m : MethodId} {below : List Frame} {meth : Method} {c : Code} {g : WG} {sb L : Nat} {xs : Nat → Int32} {b : Nat} {mr mq : Int64} {H : Heap} {locs : List Loc} {ls : Array Slot} {th : Int32} {pn tn wn wm i cells slots : Nat} {A : Nat → Int} (E : EV p m c code 8 s #[Value.ref sb] "KateDeskLaw" g) (hr : meth.sig.returnType = ret) (hlk : meth.locks = false) (hb0 : s.heap.size ≤ b) (hsb : sb < s.heap.size) (hxs : XS l s) (hL : L ≤ 3072) (hi : i + 6 ≤ L) (hc : cells + 1 ≤ room_1.cells ∧ slots + 6 ≤ room_1.slots) (hN : LNX p l e s m below meth c g sb L xs b mr mq i (cells + 1) (slots + 6)) (hG : LG g s H b pn tn wn mr mq) (hM : MVP g (nMT (b + 501)) H (b + 501) th pn tn wm A) (hT : TW g H b pn tn wn wm A mr mq) (hX : va_X sb L xs s H) (hF : ∀ q ∈ locs, HXA s q.base) (hl : lv_has ls 8 [(4, .int (nI i)), (3, .ref (b + 510)), (2, .ref (b + 501)), (1, .ref b), (0, .ref sb)]) : W p l e room_1 s m #[Value.ref sb] below meth c H locs cells slots (lw_Z below #[Value.ref sb] s) (F0 m 1296 ls []) := by
  have hx := E.1
  have hb := E.2.1
  have hK := E.2.2.2.2.2
  have hw0 := State.WarmedH.refl s
  obtain ⟨⟨hmr, hmq, rfl⟩, ⟨hR0, c0, m0, t0, hc0, hm0, ht0, hj0⟩, ⟨c7, m7, t7, hc7, hm7, hj7⟩, P, V, hcw, hrl⟩ := id hT
  clear hT
  have hbd := hM.2.2.2.2.2.1
  refine lv_aload_n hx hb d_Law_law_1296 rfl (lv_at hl 3 rfl) ?_
  refine lv_aload_n hx hb d_Law_law_1297 rfl (lv_at hl 4 rfl) ?_
  refine lv_iload hx hb d_Law_law_1298 (lv_at hl 0 rfl) ?_
  refine lv_iconst (v := nI 1) hx hb d_Law_law_1300 (by decide) ?_
  refine lv_iadd hx hb d_Law_law_1301 ?_
  refine lv_topi (fun t9 e9 => ?_)
  obtain rfl : t9 = nI (i + 1) := e9.trans (nI_add _ _)
  refine q_xld E hX (i + 1) rfl (by omega) (by omega) d_Law_law_1302 ?_
  refine lv_aload_n hx hb d_Law_law_1303 rfl (lv_at hl 4 rfl) ?_
  refine lv_iload hx hb d_Law_law_1304 (lv_at hl 0 rfl) ?_
  refine lv_iconst (v := nI 2) hx hb d_Law_law_1306 (by decide) ?_
  refine lv_iadd hx hb d_Law_law_1307 ?_
  refine lv_topi (fun t9 e9 => ?_)
  obtain rfl : t9 = nI (i + 2) := e9.trans (nI_add _ _)
  refine q_xld E hX (i + 2) rfl (by omega) (by omega) d_Law_law_1308 ?_
  refine lv_aload_n hx hb d_Law_law_1309 rfl (lv_at hl 4 rfl) ?_
  refine lv_iload hx hb d_Law_law_1310 (lv_at hl 0 rfl) ?_
  refine lv_iconst (v := nI 3) hx hb d_Law_law_1312 (by decide) ?_
  refine lv_iadd hx hb d_Law_law_1313 ?_
  refine lv_topi (fun t9 e9 => ?_)
  obtain rfl : t9 = nI (i + 3) := e9.trans (nI_add _ _)
  refine q_xld E hX (i + 3) rfl (by omega) (by omega) d_Law_law_1314 ?_
  refine lv_aload_n hx hb d_Law_law_1315 rfl (lv_at hl 4 rfl) ?_
  refine lv_iload hx hb d_Law_law_1316 (lv_at hl 0 rfl) ?_
  refine lv_iconst (v := nI 4) hx hb d_Law_law_1318 (by decide) ?_
  refine lv_iadd hx hb d_Law_law_1319 ?_
  refine lv_topi (fun t9 e9 => ?_)
  obtain rfl : t9 = nI (i + 4) := e9.trans (nI_add _ _)
  refine q_xld E hX (i + 4) rfl (by omega) (by omega) d_Law_law_1320 ?_
  refine lv_aload_n hx hb d_Law_law_1321 rfl (lv_at hl 4 rfl) ?_
  refine lv_iload hx hb d_Law_law_1322 (lv_at hl 0 rfl) ?_
  refine lv_iconst (v := nI 5) hx hb d_Law_law_1324 (by decide) ?_
  refine lv_iadd hx hb d_Law_law_1325 ?_
  refine lv_topi (fun t9 e9 => ?_)
  obtain rfl : t9 = nI (i + 5) := e9.trans (nI_add _ _)
  refine q_xld E hX (i + 5) rfl (by omega) (by omega) d_Law_law_1326 ?_
  refine lv_aload_n hx hb d_Law_law_1327 rfl (lv_at hl 1 rfl) ?_
  refine q_cSH (rest := []) E hw0 (XH_checks l g s hxs b pn tn wn mr mq hb0 (xs (i + 1)) (xs (i + 2)) (xs (i + 3)) (xs (i + 4)) (xs (i + 5)) hmr hmq A P V) w_859 w_0 w_857 w_858 hd_Law_checks rfl ⟨by decide, by decide⟩ ⟨hG, hcw⟩ hF hl.1 rfl (Nat.le_of_ble_eq_true rfl) d_Law_law_1328 hc (qi (fun r5 H1 locs hq hF => ?_))
  obtain ⟨hq, hfr⟩ := hq
  have hX := hX.kept (hfr sb (Or.inl (Nat.lt_of_lt_of_le hsb hb0)))
  have hM := hM.on (fun q h1 h2 => hfr q (Or.inr (Or.inl ⟨h1, h2⟩)))
  have hm0 : AI g H1 (b + 501 + 6) 96 m0 := AI.eq hm0 (hfr _ (Or.inr (Or.inl ⟨by omega, by omega⟩)))
  have hm7 : AI g H1 (b + 501 + 7) 96 m7 := AI.eq hm7 (hfr _ (Or.inr (Or.inl ⟨by omega, by omega⟩)))
  have hA9 := hrl.hon hcw
  have hc0 : AB g H1 (b + 149) 96 c0 := hc0.eq (hfr _ (Or.inr (Or.inr (Or.inl rfl))))
  have hc7 : AB g H1 (b + 151) 96 c7 := hc7.eq (hfr _ (Or.inr (Or.inr (Or.inr rfl))))
  refine lv_istore (lv' := [(5, .int r5), (4, .int (nI i)), (3, .ref (b + 510)), (2, .ref (b + 501)), (1, .ref b), (0, .ref sb)]) hx hb d_Law_law_1331 hl (by decide) rfl (fun ls hl => ?_)
  refine lv_aload_n hx hb d_Law_law_1333 rfl (lv_at hl 3 rfl) ?_
  refine lv_aload_n hx hb d_Law_law_1334 rfl (lv_at hl 5 rfl) ?_
  refine lv_iload hx hb d_Law_law_1335 (lv_at hl 1 rfl) ?_
  refine lv_iconst (v := nI 1) hx hb d_Law_law_1337 (by decide) ?_
  refine lv_iadd hx hb d_Law_law_1338 ?_
  refine lv_topi (fun t9 e9 => ?_)
  obtain rfl : t9 = nI (i + 1) := e9.trans (nI_add _ _)
  refine q_xld E hX (i + 1) rfl (by omega) (by omega) d_Law_law_1339 ?_
  refine lv_aload_n hx hb d_Law_law_1340 rfl (lv_at hl 5 rfl) ?_
  refine lv_iload hx hb d_Law_law_1341 (lv_at hl 1 rfl) ?_
  refine lv_iconst (v := nI 2) hx hb d_Law_law_1343 (by decide) ?_
  refine lv_iadd hx hb d_Law_law_1344 ?_
  refine lv_topi (fun t9 e9 => ?_)
  obtain rfl : t9 = nI (i + 2) := e9.trans (nI_add _ _)
  refine q_xld E hX (i + 2) rfl (by omega) (by omega) d_Law_law_1345 ?_
  refine lv_aload_n hx hb d_Law_law_1346 rfl (lv_at hl 5 rfl) ?_
  refine lv_iload hx hb d_Law_law_1347 (lv_at hl 1 rfl) ?_
  refine lv_iconst (v := nI 3) hx hb d_Law_law_1349 (by decide) ?_
  refine lv_iadd hx hb d_Law_law_1350 ?_
  refine lv_topi (fun t9 e9 => ?_)
  obtain rfl : t9 = nI (i + 3) := e9.trans (nI_add _ _)
  refine q_xld E hX (i + 3) rfl (by omega) (by omega) d_Law_law_1351 ?_
  refine lv_aload_n hx hb d_Law_law_1352 rfl (lv_at hl 5 rfl) ?_
  refine lv_iload hx hb d_Law_law_1353 (lv_at hl 1 rfl) ?_
  refine lv_iconst (v := nI 4) hx hb d_Law_law_1355 (by decide) ?_
  refine lv_iadd hx hb d_Law_law_1356 ?_
  refine lv_topi (fun t9 e9 => ?_)
  obtain rfl : t9 = nI (i + 4) := e9.trans (nI_add _ _)
  refine q_xld E hX (i + 4) rfl (by omega) (by omega) d_Law_law_1357 ?_
  refine lv_aload_n hx hb d_Law_law_1358 rfl (lv_at hl 5 rfl) ?_
  refine lv_iload hx hb d_Law_law_1359 (lv_at hl 1 rfl) ?_
  refine lv_iconst (v := nI 5) hx hb d_Law_law_1361 (by decide) ?_
  refine lv_iadd hx hb d_Law_law_1362 ?_
  refine lv_topi (fun t9 e9 => ?_)
  obtain rfl : t9 = nI (i + 5) := e9.trans (nI_add _ _)
  refine q_xld E hX (i + 5) rfl (by omega) (by omega) d_Law_law_1363 ?_
  obtain ⟨w9, n9, hob⟩ := hM.ob
  refine q_cV (rest := []) E ((W_Model_checks l g (nMT (b + 501)) (b + 501) th pn tn wn A (xs (i + 1)) (xs (i + 2)) (xs (i + 3)) (xs (i + 4)) (xs (i + 5)) hA9 hrl.hoG).frI (nMT_up hb0)) w_1239 w_15 w_1236 w_1237 w_1238 hd_Model_checks rfl ⟨by decide, by decide⟩ (OB.recv E.2.2.2.2.2 (by rfl) hob) hM hF hl.1 rfl (Nat.le_of_ble_eq_true rfl) d_Law_law_1364 hc (qi (fun r6 H2 locs hq6 hF => ?_))
  obtain ⟨hq6, hfr6⟩ := hq6
  have hX := hX.kept (hfr6.2 sb hX.lt (nMT_n (nM_lt hb0 hsb)))
  clear hob hM
  have hm7 := ai_T7 hm7 hfr6
  have hm0 := ai_T6 hm0 hfr6
  rcases hq with ⟨hok, rfl, hG, k1, k2, k3, k4, k5, rb, e1, e2, e3, e4, e5, hbn, ⟨T, hT9, hr9⟩, hA, hcw1⟩ | ⟨hok, rfl, hG, hcw1⟩
  · skip
    obtain ⟨hM, h69⟩ : MVP g (nMT (b + 501)) H2 (b + 501) 0 pn tn wn A ∧ r6 = rb := by
      rcases hq6 with ⟨-, j1, j2, j3, j4, j5, f1, f2, f3, f4, f5, b1, b2, b3, b4, b5, ⟨U, Y, hU, hY, hr8⟩, h⟩ | ⟨h, -⟩
      · obtain rfl := ni_un e1 f1 (by omega) (by omega)
        obtain rfl := ni_un e2 f2 (by omega) (by omega)
        obtain rfl := ni_un e3 f3 (by omega) (by omega)
        obtain rfl := ni_un e4 f4 (by omega) (by omega)
        obtain rfl := ni_un e5 f5 (by omega) (by omega)
        rw [hrl.2.2] at hY
        have hTA : PE T (AD Y U) := ck_sum (hA9 k2 b2) (hrl.1 k2 b2) hT9 hY hU
        exact ⟨h, (bl_un hr9 hr8 (((pe_if (hrl.1 k1 b1) hTA)).trans (ck_iff (hA9 k1 b1) (RP_on hY) (RP_on hU)).symm)).symm⟩
      · exact absurd hok h
    subst h69
    refine lv_istore (lv' := [(6, .int r6), (5, .int (nI 0)), (4, .int (nI i)), (3, .ref (b + 510)), (2, .ref (b + 501)), (1, .ref b), (0, .ref sb)]) hx hb d_Law_law_1367 hl (by decide) rfl (fun ls hl => ?_)
    refine lv_aload_n hx hb d_Law_law_1369 rfl (lv_at hl 4 rfl) ?_
    obtain ⟨w9, n9, hob⟩ := hM.ob
    refine q_cV (rest := []) E ((c_Model_thrown l g (nMT (b + 501)) (b + 501) 0).up (nMT_up hb0)) w_1048 w_15 w_1045 w_1046 w_1047 hd_Model_thrown rfl ⟨by decide, by decide⟩ (OB.recv E.2.2.2.2.2 (by rfl) hob) hM.th hF hl.1 rfl (Nat.le_of_ble_eq_true rfl) d_Law_law_1370 hc (qi (fun r7 H3 locs hq7 hF => ?_))
    obtain ⟨rfl, hH7⟩ := hq7
    have hH7 := hH7.symm
    subst hH7
    refine lv_iload hx hb d_Law_law_1373 (lv_at hl 1 rfl) ?_
    refine lv_icmp_eq (tgt := 1380) hx hb d_Law_law_1375 (by decide) (fun _ => ?_) (fun h9 => absurd (rfl) h9)
    refine lv_iload hx hb d_Law_law_1380 (lv_at hl 1 rfl) ?_
    refine lv_if_ne (tgt := 1404) hx hb d_Law_law_1382 (by decide) (fun h9 => absurd (rfl) h9) (fun _ => ?_)
    refine lv_aload_n hx hb d_Law_law_1385 rfl (lv_at hl 3 rfl) ?_
    refine lv_iconst (v := nI 0) hx hb d_Law_law_1386 (by decide) ?_
    refine q_lald (N := 1) (f := (fun _ => bL r6)) E (hA.eq (hfr6.2 (b + 510) hA.lt (nMT_n nM_510))) 0 rfl (by decide) (by decide) d_Law_law_1387 ?_
    refine lv_iload hx hb d_Law_law_1388 (lv_at hl 0 rfl) ?_
    refine lv_if_eq (tgt := 1397) hx hb d_Law_law_1390 (by decide) (fun hz => ?_) (fun hz => ?_)
    · skip
      refine lv_lconst (v := 0) hx hb d_Law_law_1397 (by decide) ?_
      refine W.lcmp hx hb d_Law_law_1398 ?_
      refine lv_if_eq (tgt := 1404) hx hb d_Law_law_1399 (by decide) (fun _ => ?_) (fun h9 => absurd (l2i_eq (if_pos hz)) h9)
      refine lv_goto (tgt := 1611) hx hb d_Law_law_1404 (by decide) ?_
      have hl : lv_has ls 8 [(4, .int (nI i)), (3, .ref (b + 510)), (2, .ref (b + 501)), (1, .ref b), (0, .ref sb)] := lv_sub hl [2, 3, 4, 5, 6] rfl
      exact hN _ _ ls _ _ _ _ _ _ (hG.frq hb0 (nMT_fr hfr6)) hM (TW.mk hmr hmq hG.2.1 hfr6 (fun q h => nMT_ge h) hcw1 hbd.1 hrl hc0 hm0 ht0 hj0 hc7 hm7 hj7) hX hF hl
    · skip
      refine lv_lconst (v := 1) hx hb d_Law_law_1393 (by decide) ?_
      refine lv_goto (tgt := 1398) hx hb d_Law_law_1394 (by decide) ?_
      refine W.lcmp hx hb d_Law_law_1398 ?_
      refine lv_if_eq (tgt := 1404) hx hb d_Law_law_1399 (by decide) (fun _ => ?_) (fun h9 => absurd (l2i_eq (if_neg hz)) h9)
      refine lv_goto (tgt := 1611) hx hb d_Law_law_1404 (by decide) ?_
      have hl : lv_has ls 8 [(4, .int (nI i)), (3, .ref (b + 510)), (2, .ref (b + 501)), (1, .ref b), (0, .ref sb)] := lv_sub hl [2, 3, 4, 5, 6] rfl
      exact hN _ _ ls _ _ _ _ _ _ (hG.frq hb0 (nMT_fr hfr6)) hM (TW.mk hmr hmq hG.2.1 hfr6 (fun q h => nMT_ge h) hcw1 hbd.1 hrl hc0 hm0 ht0 hj0 hc7 hm7 hj7) hX hF hl
  · skip
    have hM : MVP g (nMT (b + 501)) H2 (b + 501) 1 pn tn wn A := by
      rcases hq6 with ⟨h, -⟩ | ⟨-, h⟩
      · exact absurd h hok
      · exact h
    refine lv_istore (lv' := [(6, .int r6), (5, .int (nI 1)), (4, .int (nI i)), (3, .ref (b + 510)), (2, .ref (b + 501)), (1, .ref b), (0, .ref sb)]) hx hb d_Law_law_1367 hl (by decide) rfl (fun ls hl => ?_)
    refine lv_aload_n hx hb d_Law_law_1369 rfl (lv_at hl 4 rfl) ?_
    obtain ⟨w9, n9, hob⟩ := hM.ob
    refine q_cV (rest := []) E ((c_Model_thrown l g (nMT (b + 501)) (b + 501) 1).up (nMT_up hb0)) w_1048 w_15 w_1045 w_1046 w_1047 hd_Model_thrown rfl ⟨by decide, by decide⟩ (OB.recv E.2.2.2.2.2 (by rfl) hob) hM.th hF hl.1 rfl (Nat.le_of_ble_eq_true rfl) d_Law_law_1370 hc (qi (fun r7 H3 locs hq7 hF => ?_))
    obtain ⟨rfl, hH7⟩ := hq7
    have hH7 := hH7.symm
    subst hH7
    refine lv_iload hx hb d_Law_law_1373 (lv_at hl 1 rfl) ?_
    refine lv_icmp_eq (tgt := 1380) hx hb d_Law_law_1375 (by decide) (fun _ => ?_) (fun h9 => absurd (rfl) h9)
    refine lv_iload hx hb d_Law_law_1380 (lv_at hl 1 rfl) ?_
    refine lv_if_ne (tgt := 1404) hx hb d_Law_law_1382 (by decide) (fun _ => ?_) (fun h9 => absurd h9 (by decide))
    refine lv_goto (tgt := 1611) hx hb d_Law_law_1404 (by decide) ?_
    have hl : lv_has ls 8 [(4, .int (nI i)), (3, .ref (b + 510)), (2, .ref (b + 501)), (1, .ref b), (0, .ref sb)] := lv_sub hl [2, 3, 4, 5, 6] rfl
    exact hN _ _ ls _ _ _ _ _ _ (hG.frq hb0 (nMT_fr hfr6)) hM (TW.mk hmr hmq hG.2.1 hfr6 (fun q h => nMT_ge h) hcw1 hbd.1 hrl hc0 hm0 ht0 hj0 hc7 hm7 hj7) hX hF hl
set_option maxHeartbeats 4000000 in
set_option maxRecDepth 100000 in
theorem k_transform {p : Program} {l : Launch} {e : Env} {s : State} {m : MethodId} {below : List Frame} {meth : Method} {c : Code} {g : WG} {sb L : Nat} {xs : Nat → Int32} {b : Nat} {mr mq : Int64} {H : Heap} {locs : List Loc} {ls : Array Slot} {th : Int32} {pn tn wn wm i cells slots : Nat} {A : Nat → Int} (E : EV p m c code 8 s #[Value.ref sb] "KateDeskLaw" g) (hr : meth.sig.returnType = ret) (hlk : meth.locks = false) (hb0 : s.heap.size ≤ b) (hsb : sb < s.heap.size) (hxs : XS l s) (hL : L ≤ 3072) (hi : i + 6 ≤ L) (hc : cells + 1 ≤ room_1.cells ∧ slots + 6 ≤ room_1.slots) (hN : LNX p l e s m below meth c g sb L xs b mr mq i (cells + 1) (slots + 6)) (hG : LG g s H b pn tn wn mr mq) (hM : MVP g (nMT (b + 501)) H (b + 501) th pn tn wm A) (hT : TW g H b pn tn wn wm A mr mq) (hX : va_X sb L xs s H) (hF : ∀ q ∈ locs, HXA s q.base) (hl : lv_has ls 8 [(4, .int (nI i)), (3, .ref (b + 510)), (2, .ref (b + 501)), (1, .ref b), (0, .ref sb)]) : W p l e room_1 s m #[Value.ref sb] below meth c H locs cells slots (lw_Z below #[Value.ref sb] s) (F0 m 1407 ls []) := by
  have hx := E.1
  have hb := E.2.1
  have hK := E.2.2.2.2.2
  have hw0 := State.WarmedH.refl s
  obtain ⟨⟨hmr, hmq, rfl⟩, ⟨hR0, c0, m0, t0, hc0, hm0, ht0, hj0⟩, ⟨c7, m7, t7, hc7, hm7, hj7⟩, P, V, hcw, hrl⟩ := id hT
  clear hT
  have hbd := hM.2.2.2.2.2.1
  by_cases hzb : xs (i + 3) = 0
  · skip
    refine lv_aload_n hx hb d_Law_law_1407 rfl (lv_at hl 3 rfl) ?_
    refine lv_aload_n hx hb d_Law_law_1408 rfl (lv_at hl 4 rfl) ?_
    refine lv_iload hx hb d_Law_law_1409 (lv_at hl 0 rfl) ?_
    refine lv_iconst (v := nI 1) hx hb d_Law_law_1411 (by decide) ?_
    refine lv_iadd hx hb d_Law_law_1412 ?_
    refine lv_topi (fun t9 e9 => ?_)
    obtain rfl : t9 = nI (i + 1) := e9.trans (nI_add _ _)
    refine q_xld E hX (i + 1) rfl (by omega) (by omega) d_Law_law_1413 ?_
    refine lv_aload_n hx hb d_Law_law_1414 rfl (lv_at hl 4 rfl) ?_
    refine lv_iload hx hb d_Law_law_1415 (lv_at hl 0 rfl) ?_
    refine lv_iconst (v := nI 2) hx hb d_Law_law_1417 (by decide) ?_
    refine lv_iadd hx hb d_Law_law_1418 ?_
    refine lv_topi (fun t9 e9 => ?_)
    obtain rfl : t9 = nI (i + 2) := e9.trans (nI_add _ _)
    refine q_xld E hX (i + 2) rfl (by omega) (by omega) d_Law_law_1419 ?_
    refine lv_aload_n hx hb d_Law_law_1420 rfl (lv_at hl 4 rfl) ?_
    refine lv_iload hx hb d_Law_law_1421 (lv_at hl 0 rfl) ?_
    refine lv_iconst (v := nI 3) hx hb d_Law_law_1423 (by decide) ?_
    refine lv_iadd hx hb d_Law_law_1424 ?_
    refine lv_topi (fun t9 e9 => ?_)
    obtain rfl : t9 = nI (i + 3) := e9.trans (nI_add _ _)
    refine q_xld E hX (i + 3) rfl (by omega) (by omega) d_Law_law_1425 ?_
    refine lv_if_eq (tgt := 1433) hx hb d_Law_law_1426 (by decide) (fun _ => ?_) (fun h9 => absurd (hzb) h9)
    refine lv_iconst (v := nI 0) hx hb d_Law_law_1433 (by decide) ?_
    refine q_cSH (rest := []) E hw0 (XH_transform l g s hxs b pn tn wn mr mq hb0 (xs (i + 1)) (xs (i + 2)) (nI 0) hmr A P V) w_866 w_0 w_864 w_865 hd_Law_transform rfl ⟨by decide, by decide⟩ ⟨hG, hcw⟩ hF hl.1 rfl (Nat.le_of_ble_eq_true rfl) d_Law_law_1434 hc (qi (fun r5 H1 locs hq hF => ?_))
    obtain ⟨hq, hfr⟩ := hq
    have hX := hX.kept (hfr sb (Or.inl (Nat.lt_of_lt_of_le hsb hb0)))
    have hM := hM.on (fun q h1 h2 => hfr q (Or.inr (Or.inl ⟨h1, h2⟩)))
    have hm0 : AI g H1 (b + 501 + 6) 96 m0 := AI.eq hm0 (hfr _ (Or.inr (Or.inl ⟨by omega, by omega⟩)))
    have hm7 : AI g H1 (b + 501 + 7) 96 m7 := AI.eq hm7 (hfr _ (Or.inr (Or.inl ⟨by omega, by omega⟩)))
    have hc0 : AB g H1 (b + 149) 96 c0 := hc0.eq (hfr _ (Or.inr (Or.inr (Or.inl rfl))))
    have hc7 : AB g H1 (b + 151) 96 c7 := hc7.eq (hfr _ (Or.inr (Or.inr (Or.inr rfl))))
    refine lv_istore (lv' := [(5, .int r5), (4, .int (nI i)), (3, .ref (b + 510)), (2, .ref (b + 501)), (1, .ref b), (0, .ref sb)]) hx hb d_Law_law_1437 hl (by decide) rfl (fun ls hl => ?_)
    refine lv_aload_n hx hb d_Law_law_1439 rfl (lv_at hl 3 rfl) ?_
    refine lv_aload_n hx hb d_Law_law_1440 rfl (lv_at hl 5 rfl) ?_
    refine lv_iload hx hb d_Law_law_1441 (lv_at hl 1 rfl) ?_
    refine lv_iconst (v := nI 1) hx hb d_Law_law_1443 (by decide) ?_
    refine lv_iadd hx hb d_Law_law_1444 ?_
    refine lv_topi (fun t9 e9 => ?_)
    obtain rfl : t9 = nI (i + 1) := e9.trans (nI_add _ _)
    refine q_xld E hX (i + 1) rfl (by omega) (by omega) d_Law_law_1445 ?_
    refine lv_aload_n hx hb d_Law_law_1446 rfl (lv_at hl 5 rfl) ?_
    refine lv_iload hx hb d_Law_law_1447 (lv_at hl 1 rfl) ?_
    refine lv_iconst (v := nI 2) hx hb d_Law_law_1449 (by decide) ?_
    refine lv_iadd hx hb d_Law_law_1450 ?_
    refine lv_topi (fun t9 e9 => ?_)
    obtain rfl : t9 = nI (i + 2) := e9.trans (nI_add _ _)
    refine q_xld E hX (i + 2) rfl (by omega) (by omega) d_Law_law_1451 ?_
    refine lv_aload_n hx hb d_Law_law_1452 rfl (lv_at hl 5 rfl) ?_
    refine lv_iload hx hb d_Law_law_1453 (lv_at hl 1 rfl) ?_
    refine lv_iconst (v := nI 3) hx hb d_Law_law_1455 (by decide) ?_
    refine lv_iadd hx hb d_Law_law_1456 ?_
    refine lv_topi (fun t9 e9 => ?_)
    obtain rfl : t9 = nI (i + 3) := e9.trans (nI_add _ _)
    refine q_xld E hX (i + 3) rfl (by omega) (by omega) d_Law_law_1457 ?_
    refine lv_if_eq (tgt := 1465) hx hb d_Law_law_1458 (by decide) (fun _ => ?_) (fun h9 => absurd (hzb) h9)
    refine lv_iconst (v := nI 0) hx hb d_Law_law_1465 (by decide) ?_
    obtain ⟨w9, n9, hob⟩ := hM.ob
    refine q_cV (rest := []) E ((YF_Model_transform l g (nMT (b + 501)) (b + 501) th pn tn wn A (xs (i + 1)) (xs (i + 2)) (nI 0)).frV (nMT_up hb0)) w_1243 w_15 w_1240 w_1241 w_1242 hd_Model_transform rfl ⟨by decide, by decide⟩ (OB.recv E.2.2.2.2.2 (by rfl) hob) hM hF hl.1 rfl (Nat.le_of_ble_eq_true rfl) d_Law_law_1466 hc (qv (fun H2 locs hq6 hF => ?_))
    obtain ⟨hq6, hfr6⟩ := hq6
    have hX := hX.kept (hfr6.2 sb hX.lt (nMT_n (nM_lt hb0 hsb)))
    clear hob hM
    have hm7 := ai_T7 hm7 hfr6
    have hm0 := ai_T6 hm0 hfr6
    rcases hq with ⟨hok, rfl, hG, hcw1⟩ | ⟨hok, rfl, hG, hcw1⟩
    · skip
      have hM : MVP g (nMT (b + 501)) H2 (b + 501) 0 pn tn wn (fTr (xs (i + 1)) (xs (i + 2)) (nI 0) A) := by
        rcases hq6 with ⟨-, h⟩ | ⟨h, -⟩
        · exact h
        · exact absurd hok h
      refine lv_aload_n hx hb d_Law_law_1469 rfl (lv_at hl 3 rfl) ?_
      obtain ⟨w9, n9, hob⟩ := hM.ob
      refine q_cV (rest := []) E ((c_Model_thrown l g (nMT (b + 501)) (b + 501) 0).up (nMT_up hb0)) w_1048 w_15 w_1045 w_1046 w_1047 hd_Model_thrown rfl ⟨by decide, by decide⟩ (OB.recv E.2.2.2.2.2 (by rfl) hob) hM.th hF hl.1 rfl (Nat.le_of_ble_eq_true rfl) d_Law_law_1470 hc (qi (fun r7 H3 locs hq7 hF => ?_))
      obtain ⟨rfl, hH7⟩ := hq7
      have hH7 := hH7.symm
      subst hH7
      refine lv_iload hx hb d_Law_law_1473 (lv_at hl 0 rfl) ?_
      refine lv_icmp_eq (tgt := 1480) hx hb d_Law_law_1475 (by decide) (fun _ => ?_) (fun h9 => absurd (rfl) h9)
      refine lv_goto (tgt := 1611) hx hb d_Law_law_1480 (by decide) ?_
      have hl : lv_has ls 8 [(4, .int (nI i)), (3, .ref (b + 510)), (2, .ref (b + 501)), (1, .ref b), (0, .ref sb)] := lv_sub hl [1, 2, 3, 4, 5] rfl
      exact hN _ _ ls _ _ _ _ _ _ (hG.frq hb0 (nMT_fr hfr6)) hM (TW.mk hmr hmq hG.2.1 hfr6 (fun q h => nMT_ge h) hcw1 hbd.1 (hrl.sc (tr_hi hok)) hc0 hm0 ht0 hj0 hc7 hm7 hj7) hX hF hl
    · skip
      have hM : MVP g (nMT (b + 501)) H2 (b + 501) 1 pn tn wn A := by
        rcases hq6 with ⟨h, -⟩ | ⟨-, h⟩
        · exact absurd h hok
        · exact h
      refine lv_aload_n hx hb d_Law_law_1469 rfl (lv_at hl 3 rfl) ?_
      obtain ⟨w9, n9, hob⟩ := hM.ob
      refine q_cV (rest := []) E ((c_Model_thrown l g (nMT (b + 501)) (b + 501) 1).up (nMT_up hb0)) w_1048 w_15 w_1045 w_1046 w_1047 hd_Model_thrown rfl ⟨by decide, by decide⟩ (OB.recv E.2.2.2.2.2 (by rfl) hob) hM.th hF hl.1 rfl (Nat.le_of_ble_eq_true rfl) d_Law_law_1470 hc (qi (fun r7 H3 locs hq7 hF => ?_))
      obtain ⟨rfl, hH7⟩ := hq7
      have hH7 := hH7.symm
      subst hH7
      refine lv_iload hx hb d_Law_law_1473 (lv_at hl 0 rfl) ?_
      refine lv_icmp_eq (tgt := 1480) hx hb d_Law_law_1475 (by decide) (fun _ => ?_) (fun h9 => absurd (rfl) h9)
      refine lv_goto (tgt := 1611) hx hb d_Law_law_1480 (by decide) ?_
      have hl : lv_has ls 8 [(4, .int (nI i)), (3, .ref (b + 510)), (2, .ref (b + 501)), (1, .ref b), (0, .ref sb)] := lv_sub hl [1, 2, 3, 4, 5] rfl
      exact hN _ _ ls _ _ _ _ _ _ (hG.frq hb0 (nMT_fr hfr6)) hM (TW.mk hmr hmq hG.2.1 hfr6 (fun q h => nMT_ge h) hcw1 hbd.1 hrl hc0 hm0 ht0 hj0 hc7 hm7 hj7) hX hF hl
  · skip
    refine lv_aload_n hx hb d_Law_law_1407 rfl (lv_at hl 3 rfl) ?_
    refine lv_aload_n hx hb d_Law_law_1408 rfl (lv_at hl 4 rfl) ?_
    refine lv_iload hx hb d_Law_law_1409 (lv_at hl 0 rfl) ?_
    refine lv_iconst (v := nI 1) hx hb d_Law_law_1411 (by decide) ?_
    refine lv_iadd hx hb d_Law_law_1412 ?_
    refine lv_topi (fun t9 e9 => ?_)
    obtain rfl : t9 = nI (i + 1) := e9.trans (nI_add _ _)
    refine q_xld E hX (i + 1) rfl (by omega) (by omega) d_Law_law_1413 ?_
    refine lv_aload_n hx hb d_Law_law_1414 rfl (lv_at hl 4 rfl) ?_
    refine lv_iload hx hb d_Law_law_1415 (lv_at hl 0 rfl) ?_
    refine lv_iconst (v := nI 2) hx hb d_Law_law_1417 (by decide) ?_
    refine lv_iadd hx hb d_Law_law_1418 ?_
    refine lv_topi (fun t9 e9 => ?_)
    obtain rfl : t9 = nI (i + 2) := e9.trans (nI_add _ _)
    refine q_xld E hX (i + 2) rfl (by omega) (by omega) d_Law_law_1419 ?_
    refine lv_aload_n hx hb d_Law_law_1420 rfl (lv_at hl 4 rfl) ?_
    refine lv_iload hx hb d_Law_law_1421 (lv_at hl 0 rfl) ?_
    refine lv_iconst (v := nI 3) hx hb d_Law_law_1423 (by decide) ?_
    refine lv_iadd hx hb d_Law_law_1424 ?_
    refine lv_topi (fun t9 e9 => ?_)
    obtain rfl : t9 = nI (i + 3) := e9.trans (nI_add _ _)
    refine q_xld E hX (i + 3) rfl (by omega) (by omega) d_Law_law_1425 ?_
    refine lv_if_eq (tgt := 1433) hx hb d_Law_law_1426 (by decide) (fun h9 => absurd h9 (hzb)) (fun _ => ?_)
    refine lv_iconst (v := nI 1) hx hb d_Law_law_1429 (by decide) ?_
    refine lv_goto (tgt := 1434) hx hb d_Law_law_1430 (by decide) ?_
    refine q_cSH (rest := []) E hw0 (XH_transform l g s hxs b pn tn wn mr mq hb0 (xs (i + 1)) (xs (i + 2)) (nI 1) hmr A P V) w_866 w_0 w_864 w_865 hd_Law_transform rfl ⟨by decide, by decide⟩ ⟨hG, hcw⟩ hF hl.1 rfl (Nat.le_of_ble_eq_true rfl) d_Law_law_1434 hc (qi (fun r5 H1 locs hq hF => ?_))
    obtain ⟨hq, hfr⟩ := hq
    have hX := hX.kept (hfr sb (Or.inl (Nat.lt_of_lt_of_le hsb hb0)))
    have hM := hM.on (fun q h1 h2 => hfr q (Or.inr (Or.inl ⟨h1, h2⟩)))
    have hm0 : AI g H1 (b + 501 + 6) 96 m0 := AI.eq hm0 (hfr _ (Or.inr (Or.inl ⟨by omega, by omega⟩)))
    have hm7 : AI g H1 (b + 501 + 7) 96 m7 := AI.eq hm7 (hfr _ (Or.inr (Or.inl ⟨by omega, by omega⟩)))
    have hc0 : AB g H1 (b + 149) 96 c0 := hc0.eq (hfr _ (Or.inr (Or.inr (Or.inl rfl))))
    have hc7 : AB g H1 (b + 151) 96 c7 := hc7.eq (hfr _ (Or.inr (Or.inr (Or.inr rfl))))
    refine lv_istore (lv' := [(5, .int r5), (4, .int (nI i)), (3, .ref (b + 510)), (2, .ref (b + 501)), (1, .ref b), (0, .ref sb)]) hx hb d_Law_law_1437 hl (by decide) rfl (fun ls hl => ?_)
    refine lv_aload_n hx hb d_Law_law_1439 rfl (lv_at hl 3 rfl) ?_
    refine lv_aload_n hx hb d_Law_law_1440 rfl (lv_at hl 5 rfl) ?_
    refine lv_iload hx hb d_Law_law_1441 (lv_at hl 1 rfl) ?_
    refine lv_iconst (v := nI 1) hx hb d_Law_law_1443 (by decide) ?_
    refine lv_iadd hx hb d_Law_law_1444 ?_
    refine lv_topi (fun t9 e9 => ?_)
    obtain rfl : t9 = nI (i + 1) := e9.trans (nI_add _ _)
    refine q_xld E hX (i + 1) rfl (by omega) (by omega) d_Law_law_1445 ?_
    refine lv_aload_n hx hb d_Law_law_1446 rfl (lv_at hl 5 rfl) ?_
    refine lv_iload hx hb d_Law_law_1447 (lv_at hl 1 rfl) ?_
    refine lv_iconst (v := nI 2) hx hb d_Law_law_1449 (by decide) ?_
    refine lv_iadd hx hb d_Law_law_1450 ?_
    refine lv_topi (fun t9 e9 => ?_)
    obtain rfl : t9 = nI (i + 2) := e9.trans (nI_add _ _)
    refine q_xld E hX (i + 2) rfl (by omega) (by omega) d_Law_law_1451 ?_
    refine lv_aload_n hx hb d_Law_law_1452 rfl (lv_at hl 5 rfl) ?_
    refine lv_iload hx hb d_Law_law_1453 (lv_at hl 1 rfl) ?_
    refine lv_iconst (v := nI 3) hx hb d_Law_law_1455 (by decide) ?_
    refine lv_iadd hx hb d_Law_law_1456 ?_
    refine lv_topi (fun t9 e9 => ?_)
    obtain rfl : t9 = nI (i + 3) := e9.trans (nI_add _ _)
    refine q_xld E hX (i + 3) rfl (by omega) (by omega) d_Law_law_1457 ?_
    refine lv_if_eq (tgt := 1465) hx hb d_Law_law_1458 (by decide) (fun h9 => absurd h9 (hzb)) (fun _ => ?_)
    refine lv_iconst (v := nI 1) hx hb d_Law_law_1461 (by decide) ?_
    refine lv_goto (tgt := 1466) hx hb d_Law_law_1462 (by decide) ?_
    obtain ⟨w9, n9, hob⟩ := hM.ob
    refine q_cV (rest := []) E ((YF_Model_transform l g (nMT (b + 501)) (b + 501) th pn tn wn A (xs (i + 1)) (xs (i + 2)) (nI 1)).frV (nMT_up hb0)) w_1243 w_15 w_1240 w_1241 w_1242 hd_Model_transform rfl ⟨by decide, by decide⟩ (OB.recv E.2.2.2.2.2 (by rfl) hob) hM hF hl.1 rfl (Nat.le_of_ble_eq_true rfl) d_Law_law_1466 hc (qv (fun H2 locs hq6 hF => ?_))
    obtain ⟨hq6, hfr6⟩ := hq6
    have hX := hX.kept (hfr6.2 sb hX.lt (nMT_n (nM_lt hb0 hsb)))
    clear hob hM
    have hm7 := ai_T7 hm7 hfr6
    have hm0 := ai_T6 hm0 hfr6
    rcases hq with ⟨hok, rfl, hG, hcw1⟩ | ⟨hok, rfl, hG, hcw1⟩
    · skip
      have hM : MVP g (nMT (b + 501)) H2 (b + 501) 0 pn tn wn (fTr (xs (i + 1)) (xs (i + 2)) (nI 1) A) := by
        rcases hq6 with ⟨-, h⟩ | ⟨h, -⟩
        · exact h
        · exact absurd hok h
      refine lv_aload_n hx hb d_Law_law_1469 rfl (lv_at hl 3 rfl) ?_
      obtain ⟨w9, n9, hob⟩ := hM.ob
      refine q_cV (rest := []) E ((c_Model_thrown l g (nMT (b + 501)) (b + 501) 0).up (nMT_up hb0)) w_1048 w_15 w_1045 w_1046 w_1047 hd_Model_thrown rfl ⟨by decide, by decide⟩ (OB.recv E.2.2.2.2.2 (by rfl) hob) hM.th hF hl.1 rfl (Nat.le_of_ble_eq_true rfl) d_Law_law_1470 hc (qi (fun r7 H3 locs hq7 hF => ?_))
      obtain ⟨rfl, hH7⟩ := hq7
      have hH7 := hH7.symm
      subst hH7
      refine lv_iload hx hb d_Law_law_1473 (lv_at hl 0 rfl) ?_
      refine lv_icmp_eq (tgt := 1480) hx hb d_Law_law_1475 (by decide) (fun _ => ?_) (fun h9 => absurd (rfl) h9)
      refine lv_goto (tgt := 1611) hx hb d_Law_law_1480 (by decide) ?_
      have hl : lv_has ls 8 [(4, .int (nI i)), (3, .ref (b + 510)), (2, .ref (b + 501)), (1, .ref b), (0, .ref sb)] := lv_sub hl [1, 2, 3, 4, 5] rfl
      exact hN _ _ ls _ _ _ _ _ _ (hG.frq hb0 (nMT_fr hfr6)) hM (TW.mk hmr hmq hG.2.1 hfr6 (fun q h => nMT_ge h) hcw1 hbd.1 (hrl.sc (tr_hi hok)) hc0 hm0 ht0 hj0 hc7 hm7 hj7) hX hF hl
    · skip
      have hM : MVP g (nMT (b + 501)) H2 (b + 501) 1 pn tn wn A := by
        rcases hq6 with ⟨h, -⟩ | ⟨-, h⟩
        · exact absurd h hok
        · exact h
      refine lv_aload_n hx hb d_Law_law_1469 rfl (lv_at hl 3 rfl) ?_
      obtain ⟨w9, n9, hob⟩ := hM.ob
      refine q_cV (rest := []) E ((c_Model_thrown l g (nMT (b + 501)) (b + 501) 1).up (nMT_up hb0)) w_1048 w_15 w_1045 w_1046 w_1047 hd_Model_thrown rfl ⟨by decide, by decide⟩ (OB.recv E.2.2.2.2.2 (by rfl) hob) hM.th hF hl.1 rfl (Nat.le_of_ble_eq_true rfl) d_Law_law_1470 hc (qi (fun r7 H3 locs hq7 hF => ?_))
      obtain ⟨rfl, hH7⟩ := hq7
      have hH7 := hH7.symm
      subst hH7
      refine lv_iload hx hb d_Law_law_1473 (lv_at hl 0 rfl) ?_
      refine lv_icmp_eq (tgt := 1480) hx hb d_Law_law_1475 (by decide) (fun _ => ?_) (fun h9 => absurd (rfl) h9)
      refine lv_goto (tgt := 1611) hx hb d_Law_law_1480 (by decide) ?_
      have hl : lv_has ls 8 [(4, .int (nI i)), (3, .ref (b + 510)), (2, .ref (b + 501)), (1, .ref b), (0, .ref sb)] := lv_sub hl [1, 2, 3, 4, 5] rfl
      exact hN _ _ ls _ _ _ _ _ _ (hG.frq hb0 (nMT_fr hfr6)) hM (TW.mk hmr hmq hG.2.1 hfr6 (fun q h => nMT_ge h) hcw1 hbd.1 hrl hc0 hm0 ht0 hj0 hc7 hm7 hj7) hX hF hl
set_option maxHeartbeats 4000000 in
set_option maxRecDepth 100000 in
theorem k_lagrange {p : Program} {l : Launch} {e : Env} {s : State} {m : MethodId} {below : List Frame} {meth : Method} {c : Code} {g : WG} {sb L : Nat} {xs : Nat → Int32} {b : Nat} {mr mq : Int64} {H : Heap} {locs : List Loc} {ls : Array Slot} {th : Int32} {pn tn wn wm i cells slots : Nat} {A : Nat → Int} (E : EV p m c code 8 s #[Value.ref sb] "KateDeskLaw" g) (hr : meth.sig.returnType = ret) (hlk : meth.locks = false) (hb0 : s.heap.size ≤ b) (hsb : sb < s.heap.size) (hxs : XS l s) (hL : L ≤ 3072) (hi : i + 6 ≤ L) (hc : cells + 1 ≤ room_1.cells ∧ slots + 6 ≤ room_1.slots) (hN : LNX p l e s m below meth c g sb L xs b mr mq i (cells + 1) (slots + 6)) (hG : LG g s H b pn tn wn mr mq) (hM : MVP g (nMT (b + 501)) H (b + 501) th pn tn wm A) (hT : TW g H b pn tn wn wm A mr mq) (hX : va_X sb L xs s H) (hF : ∀ q ∈ locs, HXA s q.base) (hl : lv_has ls 8 [(4, .int (nI i)), (3, .ref (b + 510)), (2, .ref (b + 501)), (1, .ref b), (0, .ref sb)]) : W p l e room_1 s m #[Value.ref sb] below meth c H locs cells slots (lw_Z below #[Value.ref sb] s) (F0 m 1483 ls []) := by
  have hx := E.1
  have hb := E.2.1
  have hK := E.2.2.2.2.2
  have hw0 := State.WarmedH.refl s
  obtain ⟨⟨hmr, hmq, rfl⟩, ⟨hR0, c0, m0, t0, hc0, hm0, ht0, hj0⟩, ⟨c7, m7, t7, hc7, hm7, hj7⟩, P, V, hcw, hrl⟩ := id hT
  clear hT
  have hbd := hM.2.2.2.2.2.1
  refine lv_aload_n hx hb d_Law_law_1483 rfl (lv_at hl 3 rfl) ?_
  refine lv_aload_n hx hb d_Law_law_1484 rfl (lv_at hl 4 rfl) ?_
  refine lv_iload hx hb d_Law_law_1485 (lv_at hl 0 rfl) ?_
  refine lv_iconst (v := nI 1) hx hb d_Law_law_1487 (by decide) ?_
  refine lv_iadd hx hb d_Law_law_1488 ?_
  refine lv_topi (fun t9 e9 => ?_)
  obtain rfl : t9 = nI (i + 1) := e9.trans (nI_add _ _)
  refine q_xld E hX (i + 1) rfl (by omega) (by omega) d_Law_law_1489 ?_
  refine lv_aload_n hx hb d_Law_law_1490 rfl (lv_at hl 4 rfl) ?_
  refine lv_iload hx hb d_Law_law_1491 (lv_at hl 0 rfl) ?_
  refine lv_iconst (v := nI 2) hx hb d_Law_law_1493 (by decide) ?_
  refine lv_iadd hx hb d_Law_law_1494 ?_
  refine lv_topi (fun t9 e9 => ?_)
  obtain rfl : t9 = nI (i + 2) := e9.trans (nI_add _ _)
  refine q_xld E hX (i + 2) rfl (by omega) (by omega) d_Law_law_1495 ?_
  refine lv_aload_n hx hb d_Law_law_1496 rfl (lv_at hl 4 rfl) ?_
  refine lv_iload hx hb d_Law_law_1497 (lv_at hl 0 rfl) ?_
  refine lv_iconst (v := nI 3) hx hb d_Law_law_1499 (by decide) ?_
  refine lv_iadd hx hb d_Law_law_1500 ?_
  refine lv_topi (fun t9 e9 => ?_)
  obtain rfl : t9 = nI (i + 3) := e9.trans (nI_add _ _)
  refine q_xld E hX (i + 3) rfl (by omega) (by omega) d_Law_law_1501 ?_
  refine lv_aload_n hx hb d_Law_law_1502 rfl (lv_at hl 4 rfl) ?_
  refine lv_iload hx hb d_Law_law_1503 (lv_at hl 0 rfl) ?_
  refine lv_iconst (v := nI 4) hx hb d_Law_law_1505 (by decide) ?_
  refine lv_iadd hx hb d_Law_law_1506 ?_
  refine lv_topi (fun t9 e9 => ?_)
  obtain rfl : t9 = nI (i + 4) := e9.trans (nI_add _ _)
  refine q_xld E hX (i + 4) rfl (by omega) (by omega) d_Law_law_1507 ?_
  refine q_cSH (rest := []) E hw0 (XH_lagrange l g s hxs b pn tn wn mr mq hb0 (xs (i + 1)) (xs (i + 2)) (xs (i + 3)) (xs (i + 4)) hmr A P V) w_890 w_0 w_888 w_889 hd_Law_lagrange rfl ⟨by decide, by decide⟩ ⟨hG, hcw⟩ hF hl.1 rfl (Nat.le_of_ble_eq_true rfl) d_Law_law_1508 hc (qi (fun r5 H1 locs hq hF => ?_))
  obtain ⟨hq, hfr⟩ := hq
  have hX := hX.kept (hfr sb (Or.inl (Nat.lt_of_lt_of_le hsb hb0)))
  have hM := hM.on (fun q h1 h2 => hfr q (Or.inr (Or.inl ⟨h1, h2⟩)))
  have hm0 : AI g H1 (b + 501 + 6) 96 m0 := AI.eq hm0 (hfr _ (Or.inr (Or.inl ⟨by omega, by omega⟩)))
  have hm7 : AI g H1 (b + 501 + 7) 96 m7 := AI.eq hm7 (hfr _ (Or.inr (Or.inl ⟨by omega, by omega⟩)))
  have hc0 : AB g H1 (b + 149) 96 c0 := hc0.eq (hfr _ (Or.inr (Or.inr (Or.inl rfl))))
  have hc7 : AB g H1 (b + 151) 96 c7 := hc7.eq (hfr _ (Or.inr (Or.inr (Or.inr rfl))))
  refine lv_istore (lv' := [(5, .int r5), (4, .int (nI i)), (3, .ref (b + 510)), (2, .ref (b + 501)), (1, .ref b), (0, .ref sb)]) hx hb d_Law_law_1511 hl (by decide) rfl (fun ls hl => ?_)
  refine lv_aload_n hx hb d_Law_law_1513 rfl (lv_at hl 3 rfl) ?_
  refine lv_aload_n hx hb d_Law_law_1514 rfl (lv_at hl 5 rfl) ?_
  refine lv_iload hx hb d_Law_law_1515 (lv_at hl 1 rfl) ?_
  refine lv_iconst (v := nI 1) hx hb d_Law_law_1517 (by decide) ?_
  refine lv_iadd hx hb d_Law_law_1518 ?_
  refine lv_topi (fun t9 e9 => ?_)
  obtain rfl : t9 = nI (i + 1) := e9.trans (nI_add _ _)
  refine q_xld E hX (i + 1) rfl (by omega) (by omega) d_Law_law_1519 ?_
  refine lv_aload_n hx hb d_Law_law_1520 rfl (lv_at hl 5 rfl) ?_
  refine lv_iload hx hb d_Law_law_1521 (lv_at hl 1 rfl) ?_
  refine lv_iconst (v := nI 2) hx hb d_Law_law_1523 (by decide) ?_
  refine lv_iadd hx hb d_Law_law_1524 ?_
  refine lv_topi (fun t9 e9 => ?_)
  obtain rfl : t9 = nI (i + 2) := e9.trans (nI_add _ _)
  refine q_xld E hX (i + 2) rfl (by omega) (by omega) d_Law_law_1525 ?_
  refine lv_aload_n hx hb d_Law_law_1526 rfl (lv_at hl 5 rfl) ?_
  refine lv_iload hx hb d_Law_law_1527 (lv_at hl 1 rfl) ?_
  refine lv_iconst (v := nI 3) hx hb d_Law_law_1529 (by decide) ?_
  refine lv_iadd hx hb d_Law_law_1530 ?_
  refine lv_topi (fun t9 e9 => ?_)
  obtain rfl : t9 = nI (i + 3) := e9.trans (nI_add _ _)
  refine q_xld E hX (i + 3) rfl (by omega) (by omega) d_Law_law_1531 ?_
  refine lv_aload_n hx hb d_Law_law_1532 rfl (lv_at hl 5 rfl) ?_
  refine lv_iload hx hb d_Law_law_1533 (lv_at hl 1 rfl) ?_
  refine lv_iconst (v := nI 4) hx hb d_Law_law_1535 (by decide) ?_
  refine lv_iadd hx hb d_Law_law_1536 ?_
  refine lv_topi (fun t9 e9 => ?_)
  obtain rfl : t9 = nI (i + 4) := e9.trans (nI_add _ _)
  refine q_xld E hX (i + 4) rfl (by omega) (by omega) d_Law_law_1537 ?_
  obtain ⟨w9, n9, hob⟩ := hM.ob
  refine q_cV (rest := []) E ((YF_Model_lagrange l g (nMT (b + 501)) (b + 501) th pn tn wn A (xs (i + 1)) (xs (i + 2)) (xs (i + 3)) (xs (i + 4))).frV (nMT_up hb0)) w_1247 w_15 w_1244 w_1245 w_1246 hd_Model_lagrange rfl ⟨by decide, by decide⟩ (OB.recv E.2.2.2.2.2 (by rfl) hob) hM hF hl.1 rfl (Nat.le_of_ble_eq_true rfl) d_Law_law_1538 hc (qv (fun H2 locs hq6 hF => ?_))
  obtain ⟨hq6, hfr6⟩ := hq6
  have hX := hX.kept (hfr6.2 sb hX.lt (nMT_n (nM_lt hb0 hsb)))
  clear hob hM
  have hm7 := ai_T7 hm7 hfr6
  have hm0 := ai_T6 hm0 hfr6
  rcases hq with ⟨hok, rfl, hG, hcw1⟩ | ⟨hok, rfl, hG, hcw1⟩
  · skip
    have hM : MVP g (nMT (b + 501)) H2 (b + 501) 0 pn tn wn (fLag (xs (i + 1)) (xs (i + 2)) (xs (i + 3)) (xs (i + 4)) A) := by
      rcases hq6 with ⟨-, h⟩ | ⟨h, -⟩
      · exact h
      · exact absurd hok h
    refine lv_aload_n hx hb d_Law_law_1541 rfl (lv_at hl 3 rfl) ?_
    obtain ⟨w9, n9, hob⟩ := hM.ob
    refine q_cV (rest := []) E ((c_Model_thrown l g (nMT (b + 501)) (b + 501) 0).up (nMT_up hb0)) w_1048 w_15 w_1045 w_1046 w_1047 hd_Model_thrown rfl ⟨by decide, by decide⟩ (OB.recv E.2.2.2.2.2 (by rfl) hob) hM.th hF hl.1 rfl (Nat.le_of_ble_eq_true rfl) d_Law_law_1542 hc (qi (fun r7 H3 locs hq7 hF => ?_))
    obtain ⟨rfl, hH7⟩ := hq7
    have hH7 := hH7.symm
    subst hH7
    refine lv_iload hx hb d_Law_law_1545 (lv_at hl 0 rfl) ?_
    refine lv_icmp_eq (tgt := 1552) hx hb d_Law_law_1547 (by decide) (fun _ => ?_) (fun h9 => absurd (rfl) h9)
    refine lv_goto (tgt := 1611) hx hb d_Law_law_1552 (by decide) ?_
    have hl : lv_has ls 8 [(4, .int (nI i)), (3, .ref (b + 510)), (2, .ref (b + 501)), (1, .ref b), (0, .ref sb)] := lv_sub hl [1, 2, 3, 4, 5] rfl
    exact hN _ _ ls _ _ _ _ _ _ (hG.frq hb0 (nMT_fr hfr6)) hM (TW.mk hmr hmq hG.2.1 hfr6 (fun q h => nMT_ge h) hcw1 hbd.1 (hrl.sc (uI_hi (nt_S hok.1))) hc0 hm0 ht0 hj0 hc7 hm7 hj7) hX hF hl
  · skip
    have hM : MVP g (nMT (b + 501)) H2 (b + 501) 1 pn tn wn A := by
      rcases hq6 with ⟨h, -⟩ | ⟨-, h⟩
      · exact absurd h hok
      · exact h
    refine lv_aload_n hx hb d_Law_law_1541 rfl (lv_at hl 3 rfl) ?_
    obtain ⟨w9, n9, hob⟩ := hM.ob
    refine q_cV (rest := []) E ((c_Model_thrown l g (nMT (b + 501)) (b + 501) 1).up (nMT_up hb0)) w_1048 w_15 w_1045 w_1046 w_1047 hd_Model_thrown rfl ⟨by decide, by decide⟩ (OB.recv E.2.2.2.2.2 (by rfl) hob) hM.th hF hl.1 rfl (Nat.le_of_ble_eq_true rfl) d_Law_law_1542 hc (qi (fun r7 H3 locs hq7 hF => ?_))
    obtain ⟨rfl, hH7⟩ := hq7
    have hH7 := hH7.symm
    subst hH7
    refine lv_iload hx hb d_Law_law_1545 (lv_at hl 0 rfl) ?_
    refine lv_icmp_eq (tgt := 1552) hx hb d_Law_law_1547 (by decide) (fun _ => ?_) (fun h9 => absurd (rfl) h9)
    refine lv_goto (tgt := 1611) hx hb d_Law_law_1552 (by decide) ?_
    have hl : lv_has ls 8 [(4, .int (nI i)), (3, .ref (b + 510)), (2, .ref (b + 501)), (1, .ref b), (0, .ref sb)] := lv_sub hl [1, 2, 3, 4, 5] rfl
    exact hN _ _ ls _ _ _ _ _ _ (hG.frq hb0 (nMT_fr hfr6)) hM (TW.mk hmr hmq hG.2.1 hfr6 (fun q h => nMT_ge h) hcw1 hbd.1 hrl hc0 hm0 ht0 hj0 hc7 hm7 hj7) hX hF hl
set_option maxHeartbeats 4000000 in
set_option maxRecDepth 100000 in
theorem k_look {p : Program} {l : Launch} {e : Env} {s : State} {m : MethodId} {below : List Frame} {meth : Method} {c : Code} {g : WG} {sb L : Nat} {xs : Nat → Int32} {b : Nat} {mr mq : Int64} {H : Heap} {locs : List Loc} {ls : Array Slot} {th : Int32} {pn tn wn wm i cells slots : Nat} {A : Nat → Int} (E : EV p m c code 8 s #[Value.ref sb] "KateDeskLaw" g) (hr : meth.sig.returnType = ret) (hlk : meth.locks = false) (hb0 : s.heap.size ≤ b) (hsb : sb < s.heap.size) (hxs : XS l s) (hL : L ≤ 3072) (hi : i + 6 ≤ L) (hc : cells + 1 ≤ room_1.cells ∧ slots + 6 ≤ room_1.slots) (hN : LNX p l e s m below meth c g sb L xs b mr mq i (cells + 1) (slots + 6)) (hG : LG g s H b pn tn wn mr mq) (hM : MVP g (nMT (b + 501)) H (b + 501) th pn tn wm A) (hT : TW g H b pn tn wn wm A mr mq) (hX : va_X sb L xs s H) (hF : ∀ q ∈ locs, HXA s q.base) (hl : lv_has ls 8 [(4, .int (nI i)), (3, .ref (b + 510)), (2, .ref (b + 501)), (1, .ref b), (0, .ref sb)]) : W p l e room_1 s m #[Value.ref sb] below meth c H locs cells slots (lw_Z below #[Value.ref sb] s) (F0 m 1555 ls []) := by
  have hx := E.1
  have hb := E.2.1
  have hK := E.2.2.2.2.2
  have hw0 := State.WarmedH.refl s
  obtain ⟨⟨hmr, hmq, rfl⟩, ⟨hR0, c0, m0, t0, hc0, hm0, ht0, hj0⟩, ⟨c7, m7, t7, hc7, hm7, hj7⟩, P, V, hcw, hrl⟩ := id hT
  clear hT
  have hbd := hM.2.2.2.2.2.1
  refine lv_aload_n hx hb d_Law_law_1555 rfl (lv_at hl 3 rfl) ?_
  refine lv_aload_n hx hb d_Law_law_1556 rfl (lv_at hl 4 rfl) ?_
  refine lv_iload hx hb d_Law_law_1557 (lv_at hl 0 rfl) ?_
  refine lv_iconst (v := nI 1) hx hb d_Law_law_1559 (by decide) ?_
  refine lv_iadd hx hb d_Law_law_1560 ?_
  refine lv_topi (fun t9 e9 => ?_)
  obtain rfl : t9 = nI (i + 1) := e9.trans (nI_add _ _)
  refine q_xld E hX (i + 1) rfl (by omega) (by omega) d_Law_law_1561 ?_
  refine lv_aload_n hx hb d_Law_law_1562 rfl (lv_at hl 1 rfl) ?_
  refine q_cSH (rest := []) E hw0 (XH_look l g s hxs b pn tn wn mr mq hb0 (xs (i + 1)) hmr hmq A P V) w_901 w_0 w_899 w_900 hd_Law_look rfl ⟨by decide, by decide⟩ ⟨hG, hcw⟩ hF hl.1 rfl (Nat.le_of_ble_eq_true rfl) d_Law_law_1563 hc (qi (fun r5 H1 locs hq hF => ?_))
  obtain ⟨hq, hfr⟩ := hq
  have hX := hX.kept (hfr sb (Or.inl (Nat.lt_of_lt_of_le hsb hb0)))
  have hM := hM.on (fun q h1 h2 => hfr q (Or.inr (Or.inl ⟨h1, h2⟩)))
  have hm0 : AI g H1 (b + 501 + 6) 96 m0 := AI.eq hm0 (hfr _ (Or.inr (Or.inl ⟨by omega, by omega⟩)))
  have hm7 : AI g H1 (b + 501 + 7) 96 m7 := AI.eq hm7 (hfr _ (Or.inr (Or.inl ⟨by omega, by omega⟩)))
  have hc0 : AB g H1 (b + 149) 96 c0 := hc0.eq (hfr _ (Or.inr (Or.inr (Or.inl rfl))))
  have hc7 : AB g H1 (b + 151) 96 c7 := hc7.eq (hfr _ (Or.inr (Or.inr (Or.inr rfl))))
  refine lv_istore (lv' := [(5, .int r5), (4, .int (nI i)), (3, .ref (b + 510)), (2, .ref (b + 501)), (1, .ref b), (0, .ref sb)]) hx hb d_Law_law_1566 hl (by decide) rfl (fun ls hl => ?_)
  refine lv_aload_n hx hb d_Law_law_1568 rfl (lv_at hl 3 rfl) ?_
  refine lv_aload_n hx hb d_Law_law_1569 rfl (lv_at hl 5 rfl) ?_
  refine lv_iload hx hb d_Law_law_1570 (lv_at hl 1 rfl) ?_
  refine lv_iconst (v := nI 1) hx hb d_Law_law_1572 (by decide) ?_
  refine lv_iadd hx hb d_Law_law_1573 ?_
  refine lv_topi (fun t9 e9 => ?_)
  obtain rfl : t9 = nI (i + 1) := e9.trans (nI_add _ _)
  refine q_xld E hX (i + 1) rfl (by omega) (by omega) d_Law_law_1574 ?_
  obtain ⟨w9, n9, hob⟩ := hM.ob
  refine q_cV (rest := []) E ((Z_Model_look l g (nMT (b + 501)) (b + 501) th pn tn wn A (xs (i + 1))).frI (nMT_up hb0)) w_1251 w_15 w_1248 w_1249 w_1250 hd_Model_look rfl ⟨by decide, by decide⟩ (OB.recv E.2.2.2.2.2 (by rfl) hob) hM hF hl.1 rfl (Nat.le_of_ble_eq_true rfl) d_Law_law_1575 hc (qi (fun r6 H2 locs hq6 hF => ?_))
  obtain ⟨hq6, hfr6⟩ := hq6
  have hX := hX.kept (hfr6.2 sb hX.lt (nMT_n (nM_lt hb0 hsb)))
  clear hob hM
  have hm7 := ai_T7 hm7 hfr6
  have hm0 := ai_T6 hm0 hfr6
  rcases hq with ⟨hok, rfl, hA, hG, hcw1⟩ | ⟨hok, rfl, hG, hcw1⟩
  · skip
    obtain ⟨hM, h69⟩ : MVP g (nMT (b + 501)) H2 (b + 501) 0 pn tn wn A ∧ r6 = lookV (xs (i + 1)) pn tn wn := by
      rcases hq6 with ⟨-, h, h2⟩ | ⟨h, -⟩
      · exact ⟨h, h2⟩
      · exact absurd hok h
    subst h69
    refine lv_istore (lv' := [(6, .int (lookV (xs (i + 1)) pn tn wn)), (5, .int (nI 0)), (4, .int (nI i)), (3, .ref (b + 510)), (2, .ref (b + 501)), (1, .ref b), (0, .ref sb)]) hx hb d_Law_law_1578 hl (by decide) rfl (fun ls hl => ?_)
    refine lv_aload_n hx hb d_Law_law_1580 rfl (lv_at hl 4 rfl) ?_
    obtain ⟨w9, n9, hob⟩ := hM.ob
    refine q_cV (rest := []) E ((c_Model_thrown l g (nMT (b + 501)) (b + 501) 0).up (nMT_up hb0)) w_1048 w_15 w_1045 w_1046 w_1047 hd_Model_thrown rfl ⟨by decide, by decide⟩ (OB.recv E.2.2.2.2.2 (by rfl) hob) hM.th hF hl.1 rfl (Nat.le_of_ble_eq_true rfl) d_Law_law_1581 hc (qi (fun r7 H3 locs hq7 hF => ?_))
    obtain ⟨rfl, hH7⟩ := hq7
    have hH7 := hH7.symm
    subst hH7
    refine lv_iload hx hb d_Law_law_1584 (lv_at hl 1 rfl) ?_
    refine lv_icmp_eq (tgt := 1591) hx hb d_Law_law_1586 (by decide) (fun _ => ?_) (fun h9 => absurd (rfl) h9)
    refine lv_iload hx hb d_Law_law_1591 (lv_at hl 1 rfl) ?_
    refine lv_if_ne (tgt := 1608) hx hb d_Law_law_1593 (by decide) (fun h9 => absurd (rfl) h9) (fun _ => ?_)
    refine lv_aload_n hx hb d_Law_law_1596 rfl (lv_at hl 3 rfl) ?_
    refine lv_iconst (v := nI 0) hx hb d_Law_law_1597 (by decide) ?_
    refine q_lald (N := 1) (f := (fun _ => (lookV (xs (i + 1)) pn tn wn).toInt64)) E (hA.eq (hfr6.2 (b + 510) hA.lt (nMT_n nM_510))) 0 rfl (by decide) (by decide) d_Law_law_1598 ?_
    refine lv_iload hx hb d_Law_law_1599 (lv_at hl 0 rfl) ?_
    refine lv_i2l (v := (lookV (xs (i + 1)) pn tn wn).toInt64) hx hb d_Law_law_1601 rfl ?_
    refine W.lcmp hx hb d_Law_law_1602 ?_
    refine lv_if_eq (tgt := 1608) hx hb d_Law_law_1603 (by decide) (fun _ => ?_) (fun h9 => absurd (l2i_eq rfl) h9)
    refine lv_goto (tgt := 1611) hx hb d_Law_law_1608 (by decide) ?_
    have hl : lv_has ls 8 [(4, .int (nI i)), (3, .ref (b + 510)), (2, .ref (b + 501)), (1, .ref b), (0, .ref sb)] := lv_sub hl [2, 3, 4, 5, 6] rfl
    exact hN _ _ ls _ _ _ _ _ _ (hG.frq hb0 (nMT_fr hfr6)) hM (TW.mk hmr hmq hG.2.1 hfr6 (fun q h => nMT_ge h) hcw1 hbd.1 hrl hc0 hm0 ht0 hj0 hc7 hm7 hj7) hX hF hl
  · skip
    have hM : MVP g (nMT (b + 501)) H2 (b + 501) 1 pn tn wn A := by
      rcases hq6 with ⟨h, -⟩ | ⟨-, h⟩
      · exact absurd h hok
      · exact h
    refine lv_istore (lv' := [(6, .int r6), (5, .int (nI 1)), (4, .int (nI i)), (3, .ref (b + 510)), (2, .ref (b + 501)), (1, .ref b), (0, .ref sb)]) hx hb d_Law_law_1578 hl (by decide) rfl (fun ls hl => ?_)
    refine lv_aload_n hx hb d_Law_law_1580 rfl (lv_at hl 4 rfl) ?_
    obtain ⟨w9, n9, hob⟩ := hM.ob
    refine q_cV (rest := []) E ((c_Model_thrown l g (nMT (b + 501)) (b + 501) 1).up (nMT_up hb0)) w_1048 w_15 w_1045 w_1046 w_1047 hd_Model_thrown rfl ⟨by decide, by decide⟩ (OB.recv E.2.2.2.2.2 (by rfl) hob) hM.th hF hl.1 rfl (Nat.le_of_ble_eq_true rfl) d_Law_law_1581 hc (qi (fun r7 H3 locs hq7 hF => ?_))
    obtain ⟨rfl, hH7⟩ := hq7
    have hH7 := hH7.symm
    subst hH7
    refine lv_iload hx hb d_Law_law_1584 (lv_at hl 1 rfl) ?_
    refine lv_icmp_eq (tgt := 1591) hx hb d_Law_law_1586 (by decide) (fun _ => ?_) (fun h9 => absurd (rfl) h9)
    refine lv_iload hx hb d_Law_law_1591 (lv_at hl 1 rfl) ?_
    refine lv_if_ne (tgt := 1608) hx hb d_Law_law_1593 (by decide) (fun _ => ?_) (fun h9 => absurd h9 (by decide))
    refine lv_goto (tgt := 1611) hx hb d_Law_law_1608 (by decide) ?_
    have hl : lv_has ls 8 [(4, .int (nI i)), (3, .ref (b + 510)), (2, .ref (b + 501)), (1, .ref b), (0, .ref sb)] := lv_sub hl [2, 3, 4, 5, 6] rfl
    exact hN _ _ ls _ _ _ _ _ _ (hG.frq hb0 (nMT_fr hfr6)) hM (TW.mk hmr hmq hG.2.1 hfr6 (fun q h => nMT_ge h) hcw1 hbd.1 hrl hc0 hm0 ht0 hj0 hc7 hm7 hj7) hX hF hl
