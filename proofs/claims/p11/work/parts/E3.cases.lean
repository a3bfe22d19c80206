set_option maxHeartbeats 4000000 in
set_option maxRecDepth 100000 in
theorem k_feed {p : Program} {l : Launch} {e : Env} {s : State} {m : MethodId} {below : List Frame} {meth : Method} {c : Code} {g : WG} {sb L : Nat} {xs : Nat → Int32} {b : Nat} {mr mq : Int64} {H : Heap} {locs : List Loc} {ls : Array Slot} {th : Int32} {pn tn wn wm i cells slots : Nat} {A : Nat → Int} (E : EV p m c code 8 s #[Value.ref sb] "KateDeskLaw" g) (hr : meth.sig.returnType = ret) (hlk : meth.locks = false) (hb0 : s.heap.size ≤ b) (hsb : sb < s.heap.size) (hxs : XS l s) (hno : va_Nc "java/lang/IllegalStateException" "java/lang/IllegalArgumentException" s) (hL : L ≤ 3072) (hi : i + 6 ≤ L) (hc : cells + 1 ≤ room_1.cells ∧ slots + 6 ≤ room_1.slots) (hN : LNX p l e s m below meth c g sb L xs b mr mq i (cells + 1) (slots + 6)) (hG : LG g s H b pn tn wn mr mq) (hM : MVP g (nMT (b + 501)) H (b + 501) th pn tn wm A) (hT : TW g H b pn tn wn wm A mr mq) (hX : va_X sb L xs s H) (hF : ∀ q ∈ locs, HXA s q.base) (hl : lv_has ls 8 [(4, .int (nI i)), (3, .ref (b + 510)), (2, .ref (b + 501)), (1, .ref b), (0, .ref sb)]) : W p l e room_1 s m #[Value.ref sb] below meth c H locs cells slots (lw_Z below #[Value.ref sb] s) (F0 m 140 ls []) := by
  have hx := E.1
  have hb := E.2.1
  have hK := E.2.2.2.2.2
  have hw0 := State.WarmedH.refl s
  obtain ⟨⟨hmr, hmq, rfl⟩, ⟨hR0, c0, m0, t0, hc0, hm0, ht0, hj0⟩, ⟨c7, m7, t7, hc7, hm7, hj7⟩, P, V, hcw, hrl⟩ := id hT
  clear hT
  have hbd := hM.2.2.2.2.2.1
  refine lv_aload_n hx hb d_Law_law_140 rfl (lv_at hl 3 rfl) ?_
  refine lv_aload_n hx hb d_Law_law_141 rfl (lv_at hl 4 rfl) ?_
  refine lv_iload hx hb d_Law_law_142 (lv_at hl 0 rfl) ?_
  refine lv_iconst (v := nI 1) hx hb d_Law_law_144 (by decide) ?_
  refine lv_iadd hx hb d_Law_law_145 ?_
  refine lv_topi (fun t9 e9 => ?_)
  obtain rfl : t9 = nI (i + 1) := e9.trans (nI_add _ _)
  refine q_xld E hX (i + 1) rfl (by omega) (by omega) d_Law_law_146 ?_
  refine lv_aload_n hx hb d_Law_law_147 rfl (lv_at hl 4 rfl) ?_
  refine lv_iload hx hb d_Law_law_148 (lv_at hl 0 rfl) ?_
  refine lv_iconst (v := nI 2) hx hb d_Law_law_150 (by decide) ?_
  refine lv_iadd hx hb d_Law_law_151 ?_
  refine lv_topi (fun t9 e9 => ?_)
  obtain rfl : t9 = nI (i + 2) := e9.trans (nI_add _ _)
  refine q_xld E hX (i + 2) rfl (by omega) (by omega) d_Law_law_152 ?_
  refine lv_i2l (v := (xs (i + 2)).toInt64) hx hb d_Law_law_153 rfl ?_
  refine lv_bipush (v := nI 32) hx hb d_Law_law_154 (by decide) ?_
  refine lv_lshl (v := ((xs (i + 2)).toInt64) <<< ((nI 32).toInt64 &&& 63)) hx hb d_Law_law_156 rfl ?_
  refine lv_aload_n hx hb d_Law_law_157 rfl (lv_at hl 4 rfl) ?_
  refine lv_iload hx hb d_Law_law_158 (lv_at hl 0 rfl) ?_
  refine lv_iconst (v := nI 3) hx hb d_Law_law_160 (by decide) ?_
  refine lv_iadd hx hb d_Law_law_161 ?_
  refine lv_topi (fun t9 e9 => ?_)
  obtain rfl : t9 = nI (i + 3) := e9.trans (nI_add _ _)
  refine q_xld E hX (i + 3) rfl (by omega) (by omega) d_Law_law_162 ?_
  refine lv_i2l (v := (xs (i + 3)).toInt64) hx hb d_Law_law_163 rfl ?_
  refine lv_ldc2 (v := 4294967295) hx hb E.2.2.2.1 (E.2.2.2.2.1 _ w_1252) d_Law_law_164 ?_
  refine lv_land hx hb d_Law_law_167 ?_
  refine lv_lor hx hb d_Law_law_168 ?_
  refine lv_aload_n hx hb d_Law_law_169 rfl (lv_at hl 1 rfl) ?_
  refine q_cSH (rest := []) E hw0 (XH_feed l g s hxs b pn tn wn mr mq hb0 (xs (i + 1)) ((((xs (i + 2)).toInt64) <<< ((nI 32).toInt64 &&& 63)) ||| (((xs (i + 3)).toInt64) &&& 4294967295)) c0 hno) w_390 w_0 w_388 w_389 hd_Law_feed rfl ⟨by decide, by decide⟩ ⟨hG, hc0⟩ hF hl.1 rfl (Nat.le_of_ble_eq_true rfl) d_Law_law_170 hc (qi (fun r5 H1 locs hq hF => ?_))
  obtain ⟨hq, hfr⟩ := hq
  have hX := hX.kept (hfr sb (Or.inl (Nat.lt_of_lt_of_le hsb hb0)))
  have hM := hM.on (fun q h1 h2 => hfr q (Or.inr (Or.inl ⟨h1, h2⟩)))
  have hm0 : AI g H1 (b + 501 + 6) 96 m0 := AI.eq hm0 (hfr _ (Or.inr (Or.inl ⟨by omega, by omega⟩)))
  have hm7 : AI g H1 (b + 501 + 7) 96 m7 := AI.eq hm7 (hfr _ (Or.inr (Or.inl ⟨by omega, by omega⟩)))
  have hcw1 := hcw.eqC hbd.1 (fun q h => hfr q (Or.inr (Or.inr (Or.inr h))))
  have hc7 : AB g H1 (b + 151) 96 c7 := hc7.eq (hfr _ (Or.inr (Or.inr (Or.inl rfl))))
  refine lv_istore (lv' := [(5, .int r5), (4, .int (nI i)), (3, .ref (b + 510)), (2, .ref (b + 501)), (1, .ref b), (0, .ref sb)]) hx hb d_Law_law_173 hl (by decide) rfl (fun ls hl => ?_)
  refine lv_aload_n hx hb d_Law_law_175 rfl (lv_at hl 3 rfl) ?_
  refine lv_aload_n hx hb d_Law_law_176 rfl (lv_at hl 5 rfl) ?_
  refine lv_iload hx hb d_Law_law_177 (lv_at hl 1 rfl) ?_
  refine lv_iconst (v := nI 1) hx hb d_Law_law_179 (by decide) ?_
  refine lv_iadd hx hb d_Law_law_180 ?_
  refine lv_topi (fun t9 e9 => ?_)
  obtain rfl : t9 = nI (i + 1) := e9.trans (nI_add _ _)
  refine q_xld E hX (i + 1) rfl (by omega) (by omega) d_Law_law_181 ?_
  refine lv_aload_n hx hb d_Law_law_182 rfl (lv_at hl 5 rfl) ?_
  refine lv_iload hx hb d_Law_law_183 (lv_at hl 1 rfl) ?_
  refine lv_iconst (v := nI 2) hx hb d_Law_law_185 (by decide) ?_
  refine lv_iadd hx hb d_Law_law_186 ?_
  refine lv_topi (fun t9 e9 => ?_)
  obtain rfl : t9 = nI (i + 2) := e9.trans (nI_add _ _)
  refine q_xld E hX (i + 2) rfl (by omega) (by omega) d_Law_law_187 ?_
  refine lv_i2l (v := (xs (i + 2)).toInt64) hx hb d_Law_law_188 rfl ?_
  refine lv_bipush (v := nI 32) hx hb d_Law_law_189 (by decide) ?_
  refine lv_lshl (v := ((xs (i + 2)).toInt64) <<< ((nI 32).toInt64 &&& 63)) hx hb d_Law_law_191 rfl ?_
  refine lv_aload_n hx hb d_Law_law_192 rfl (lv_at hl 5 rfl) ?_
  refine lv_iload hx hb d_Law_law_193 (lv_at hl 1 rfl) ?_
  refine lv_iconst (v := nI 3) hx hb d_Law_law_195 (by decide) ?_
  refine lv_iadd hx hb d_Law_law_196 ?_
  refine lv_topi (fun t9 e9 => ?_)
  obtain rfl : t9 = nI (i + 3) := e9.trans (nI_add _ _)
  refine q_xld E hX (i + 3) rfl (by omega) (by omega) d_Law_law_197 ?_
  refine lv_i2l (v := (xs (i + 3)).toInt64) hx hb d_Law_law_198 rfl ?_
  refine lv_ldc2 (v := 4294967295) hx hb E.2.2.2.1 (E.2.2.2.2.1 _ w_1252) d_Law_law_199 ?_
  refine lv_land hx hb d_Law_law_202 ?_
  refine lv_lor hx hb d_Law_law_203 ?_
  obtain ⟨w9, n9, hob⟩ := hM.ob
  refine q_cV (rest := []) E ((Z_Model_feed l g (nMF (b + 501)) (b + 501) th pn tn wn A (xs (i + 1)) ((((xs (i + 2)).toInt64) <<< ((nI 32).toInt64 &&& 63)) ||| (((xs (i + 3)).toInt64) &&& 4294967295)) m0 (nMF_c (by decide))).frI (nMF_up hb0)) w_1052 w_15 w_1049 w_1050 w_1051 hd_Model_feed rfl ⟨by decide, by decide⟩ (OB.recv E.2.2.2.2.2 (by rfl) hob) (⟨hM.toF, hm0⟩) hF hl.1 rfl (Nat.le_of_ble_eq_true rfl) d_Law_law_204 hc (qi (fun r6 H2 locs hq6 hF => ?_))
  obtain ⟨hq6, hfr6⟩ := hq6
  have hX := hX.kept (hfr6.2 sb hX.lt (nMF_n (nM_lt hb0 hsb)))
  clear hob hM
  have hm7 := ai_F7 hm7 hfr6
  rcases hq with ⟨hok, ⟨k9, e9, hf9, rfl, hG, c1, hc1, hcv⟩ | ⟨hf9, rfl, hG, hc1⟩⟩ | ⟨hok, rfl, hG, hc1⟩
  · skip
    obtain ⟨hM, m1, hm1, hfm⟩ : MVP g (nMF (b + 501)) H2 (b + 501) 0 pn (tn + k9) wn A ∧ ∃ c', AI g H2 (b + 501 + 6) 96 c' ∧ fdM m0 ((((xs (i + 2)).toInt64) <<< ((nI 32).toInt64 &&& 63)) ||| (((xs (i + 3)).toInt64) &&& 4294967295)) tn k9 c' := by
      rcases hq6 with ⟨-, ⟨k8, e8, f8, h1, h2⟩ | ⟨h, -⟩⟩ | ⟨h, -⟩
      · obtain rfl := eq16 (e8.symm.trans e9) (Nat.le_trans (Nat.le_add_left _ _) f8) (Nat.le_trans (Nat.le_add_left _ _) hf9)
        exact h2
      · exact absurd (by rw [e9, nI_add]; exact nI_le hf9 (by decide)) h
      · exact absurd hok h
    have hM := hM.toT
    obtain ⟨t2, ht2, hj2⟩ := feed_t ht0 hj0 hcv hfm
    refine lv_istore (lv' := [(6, .int r6), (5, .int (nI 0)), (4, .int (nI i)), (3, .ref (b + 510)), (2, .ref (b + 501)), (1, .ref b), (0, .ref sb)]) hx hb d_Law_law_207 hl (by decide) rfl (fun ls hl => ?_)
    refine lv_goto (tgt := 1252) hx hb d_Law_law_209 (by decide) ?_
    have hl : lv_has ls 8 [(4, .int (nI i)), (3, .ref (b + 510)), (2, .ref (b + 501)), (1, .ref b), (0, .ref sb)] := lv_sub hl [2, 3, 4, 5, 6] rfl
    exact hN _ _ ls _ _ _ _ _ _ (hG.frq hb0 (nMF_fr hfr6)) hM (TW.mk hmr hmq hG.2.1 hfr6 (fun q h => nMF_ge h) hcw1 hbd.1 hrl hc1 hm1 ht2 hj2 hc7 hm7 hj7) hX hF hl
  · skip
    obtain ⟨hM, hm1⟩ : MVP g (nMF (b + 501)) H2 (b + 501) (nI 2) pn tn wn A ∧ AI g H2 (b + 501 + 6) 96 m0 := by
      rcases hq6 with ⟨-, ⟨k8, e8, f8, -, -⟩ | ⟨-, h⟩⟩ | ⟨h, -⟩
      · exact absurd (by rw [e8, nI_add]; exact nI_le f8 (by decide)) hf9
      · exact h
      · exact absurd hok h
    have hM := hM.toT
    refine lv_istore (lv' := [(6, .int r6), (5, .int (nI 2)), (4, .int (nI i)), (3, .ref (b + 510)), (2, .ref (b + 501)), (1, .ref b), (0, .ref sb)]) hx hb d_Law_law_207 hl (by decide) rfl (fun ls hl => ?_)
    refine lv_goto (tgt := 1252) hx hb d_Law_law_209 (by decide) ?_
    have hl : lv_has ls 8 [(4, .int (nI i)), (3, .ref (b + 510)), (2, .ref (b + 501)), (1, .ref b), (0, .ref sb)] := lv_sub hl [2, 3, 4, 5, 6] rfl
    exact hN _ _ ls _ _ _ _ _ _ (hG.frq hb0 (nMF_fr hfr6)) hM (TW.mk hmr hmq hG.2.1 hfr6 (fun q h => nMF_ge h) hcw1 hbd.1 hrl hc1 hm1 ht0 hj0 hc7 hm7 hj7) hX hF hl
  · skip
    obtain ⟨hM, hm1⟩ : MVP g (nMF (b + 501)) H2 (b + 501) 1 pn tn wn A ∧ AI g H2 (b + 501 + 6) 96 m0 := by
      rcases hq6 with ⟨h, -⟩ | ⟨-, h⟩
      · exact absurd h hok
      · exact h
    have hM := hM.toT
    refine lv_istore (lv' := [(6, .int r6), (5, .int (nI 1)), (4, .int (nI i)), (3, .ref (b + 510)), (2, .ref (b + 501)), (1, .ref b), (0, .ref sb)]) hx hb d_Law_law_207 hl (by decide) rfl (fun ls hl => ?_)
    refine lv_goto (tgt := 1252) hx hb d_Law_law_209 (by decide) ?_
    have hl : lv_has ls 8 [(4, .int (nI i)), (3, .ref (b + 510)), (2, .ref (b + 501)), (1, .ref b), (0, .ref sb)] := lv_sub hl [2, 3, 4, 5, 6] rfl
    exact hN _ _ ls _ _ _ _ _ _ (hG.frq hb0 (nMF_fr hfr6)) hM (TW.mk hmr hmq hG.2.1 hfr6 (fun q h => nMF_ge h) hcw1 hbd.1 hrl hc1 hm1 ht0 hj0 hc7 hm7 hj7) hX hF hl
set_option maxHeartbeats 4000000 in
set_option maxRecDepth 100000 in
theorem k_number {p : Program} {l : Launch} {e : Env} {s : State} {m : MethodId} {below : List Frame} {meth : Method} {c : Code} {g : WG} {sb L : Nat} {xs : Nat → Int32} {b : Nat} {mr mq : Int64} {H : Heap} {locs : List Loc} {ls : Array Slot} {th : Int32} {pn tn wn wm i cells slots : Nat} {A : Nat → Int} (E : EV p m c code 8 s #[Value.ref sb] "KateDeskLaw" g) (hr : meth.sig.returnType = ret) (hlk : meth.locks = false) (hb0 : s.heap.size ≤ b) (hsb : sb < s.heap.size) (hxs : XS l s) (hL : L ≤ 3072) (hi : i + 6 ≤ L) (hc : cells + 1 ≤ room_1.cells ∧ slots + 6 ≤ room_1.slots) (hN : LNX p l e s m below meth c g sb L xs b mr mq i (cells + 1) (slots + 6)) (hG : LG g s H b pn tn wn mr mq) (hM : MVP g (nMT (b + 501)) H (b + 501) th pn tn wm A) (hT : TW g H b pn tn wn wm A mr mq) (hX : va_X sb L xs s H) (hF : ∀ q ∈ locs, HXA s q.base) (hl : lv_has ls 8 [(4, .int (nI i)), (3, .ref (b + 510)), (2, .ref (b + 501)), (1, .ref b), (0, .ref sb)]) : W p l e room_1 s m #[Value.ref sb] below meth c H locs cells slots (lw_Z below #[Value.ref sb] s) (F0 m 212 ls []) := by
  have hx := E.1
  have hb := E.2.1
  have hK := E.2.2.2.2.2
  have hw0 := State.WarmedH.refl s
  obtain ⟨⟨hmr, hmq, rfl⟩, ⟨hR0, c0, m0, t0, hc0, hm0, ht0, hj0⟩, ⟨c7, m7, t7, hc7, hm7, hj7⟩, P, V, hcw, hrl⟩ := id hT
  clear hT
  have hbd := hM.2.2.2.2.2.1
  refine lv_aload_n hx hb d_Law_law_212 rfl (lv_at hl 3 rfl) ?_
  refine lv_aload_n hx hb d_Law_law_213 rfl (lv_at hl 4 rfl) ?_
  refine lv_iload hx hb d_Law_law_214 (lv_at hl 0 rfl) ?_
  refine lv_iconst (v := nI 1) hx hb d_Law_law_216 (by decide) ?_
  refine lv_iadd hx hb d_Law_law_217 ?_
  refine lv_topi (fun t9 e9 => ?_)
  obtain rfl : t9 = nI (i + 1) := e9.trans (nI_add _ _)
  refine q_xld E hX (i + 1) rfl (by omega) (by omega) d_Law_law_218 ?_
  refine lv_aload_n hx hb d_Law_law_219 rfl (lv_at hl 1 rfl) ?_
  refine q_cSH (rest := []) E hw0 (XH_number l g s hxs b pn tn wn mr mq hb0 (xs (i + 1)) A P V c0 t0 ht0 (fun j hj => (hj0 j hj).1)) w_487 w_0 w_485 w_486 hd_Law_number rfl ⟨by decide, by decide⟩ ⟨hG, hcw, hc0⟩ hF hl.1 rfl (Nat.le_of_ble_eq_true rfl) d_Law_law_220 hc (qi (fun r5 H1 locs hq hF => ?_))
  obtain ⟨hq, hfr⟩ := hq
  have hX := hX.kept (hfr sb (Or.inl (Nat.lt_of_lt_of_le hsb hb0)))
  have hM := hM.on (fun q h1 h2 => hfr q (Or.inr (Or.inl ⟨h1, h2⟩)))
  have hm0 : AI g H1 (b + 501 + 6) 96 m0 := AI.eq hm0 (hfr _ (Or.inr (Or.inl ⟨by omega, by omega⟩)))
  have hm7 : AI g H1 (b + 501 + 7) 96 m7 := AI.eq hm7 (hfr _ (Or.inr (Or.inl ⟨by omega, by omega⟩)))
  have hc0 : AB g H1 (b + 149) 96 c0 := hc0.eq (hfr _ (Or.inr (Or.inr (Or.inl rfl))))
  have hc7 : AB g H1 (b + 151) 96 c7 := hc7.eq (hfr _ (Or.inr (Or.inr (Or.inr rfl))))
  refine lv_istore (lv' := [(5, .int r5), (4, .int (nI i)), (3, .ref (b + 510)), (2, .ref (b + 501)), (1, .ref b), (0, .ref sb)]) hx hb d_Law_law_223 hl (by decide) rfl (fun ls hl => ?_)
  refine lv_aload_n hx hb d_Law_law_225 rfl (lv_at hl 3 rfl) ?_
  refine lv_aload_n hx hb d_Law_law_226 rfl (lv_at hl 5 rfl) ?_
  refine lv_iload hx hb d_Law_law_227 (lv_at hl 1 rfl) ?_
  refine lv_iconst (v := nI 1) hx hb d_Law_law_229 (by decide) ?_
  refine lv_iadd hx hb d_Law_law_230 ?_
  refine lv_topi (fun t9 e9 => ?_)
  obtain rfl : t9 = nI (i + 1) := e9.trans (nI_add _ _)
  refine q_xld E hX (i + 1) rfl (by omega) (by omega) d_Law_law_231 ?_
  obtain ⟨w9, n9, hob⟩ := hM.ob
  refine q_cV (rest := []) E ((YF_Model_number l g (nMT (b + 501)) (b + 501) th pn tn wn A (xs (i + 1)) m0 t0 ht0 (fun j hj => (hj0 j hj).2)).frI (nMT_up hb0)) w_1061 w_15 w_1058 w_1059 w_1060 hd_Model_number rfl ⟨by decide, by decide⟩ (OB.recv E.2.2.2.2.2 (by rfl) hob) (⟨hM, hm0⟩) hF hl.1 rfl (Nat.le_of_ble_eq_true rfl) d_Law_law_232 hc (qi (fun r6 H2 locs hq6 hF => ?_))
  obtain ⟨hq6, hfr6⟩ := hq6
  have hX := hX.kept (hfr6.2 sb hX.lt (nMT_n (nM_lt hb0 hsb)))
  clear hob hM
  have hm7 := ai_T7 hm7 hfr6
  have hm0 := ai_T6 hm0 hfr6
  rcases hq with ⟨hok, rfl, hG, rb, A1, hcw1, hnc, hA⟩ | ⟨hok, rfl, hG, hcw1⟩
  · skip
    obtain ⟨hM, h69⟩ : MVP g (nMT (b + 501)) H2 (b + 501) 0 pn 0 wn A1 ∧ r6 = rb := by
      rcases hq6 with ⟨-, B1, h, hn1⟩ | ⟨h, -⟩
      · obtain ⟨e1, rfl⟩ := hn1.eq hnc
        exact ⟨h, e1⟩
      · exact absurd hok h
    subst h69
    refine lv_istore (lv' := [(6, .int r6), (5, .int (nI 0)), (4, .int (nI i)), (3, .ref (b + 510)), (2, .ref (b + 501)), (1, .ref b), (0, .ref sb)]) hx hb d_Law_law_235 hl (by decide) rfl (fun ls hl => ?_)
    refine lv_goto (tgt := 1252) hx hb d_Law_law_237 (by decide) ?_
    have hl : lv_has ls 8 [(4, .int (nI i)), (3, .ref (b + 510)), (2, .ref (b + 501)), (1, .ref b), (0, .ref sb)] := lv_sub hl [2, 3, 4, 5, 6] rfl
    exact hN _ _ ls _ _ _ _ _ _ (hG.frq hb0 (nMT_fr hfr6)) hM (TW.mk hmr hmq hG.2.1 hfr6 (fun q h => nMT_ge h) hcw1 hbd.1 (hrl.sc (nc_hi hnc (nt_S hok))) hc0 hm0 ht0 (fun j hj => absurd hj (Nat.not_lt_zero _)) hc7 hm7 hj7) hX hF hl
  · skip
    have hM : MVP g (nMT (b + 501)) H2 (b + 501) 1 pn tn wn A := by
      rcases hq6 with ⟨h, -⟩ | ⟨-, h⟩
      · exact absurd h hok
      · exact h
    refine lv_istore (lv' := [(6, .int r6), (5, .int (nI 1)), (4, .int (nI i)), (3, .ref (b + 510)), (2, .ref (b + 501)), (1, .ref b), (0, .ref sb)]) hx hb d_Law_law_235 hl (by decide) rfl (fun ls hl => ?_)
    refine lv_goto (tgt := 1252) hx hb d_Law_law_237 (by decide) ?_
    have hl : lv_has ls 8 [(4, .int (nI i)), (3, .ref (b + 510)), (2, .ref (b + 501)), (1, .ref b), (0, .ref sb)] := lv_sub hl [2, 3, 4, 5, 6] rfl
    exact hN _ _ ls _ _ _ _ _ _ (hG.frq hb0 (nMT_fr hfr6)) hM (TW.mk hmr hmq hG.2.1 hfr6 (fun q h => nMT_ge h) hcw1 hbd.1 hrl hc0 hm0 ht0 hj0 hc7 hm7 hj7) hX hF hl
set_option maxHeartbeats 4000000 in
set_option maxRecDepth 100000 in
theorem k_set {p : Program} {l : Launch} {e : Env} {s : State} {m : MethodId} {below : List Frame} {meth : Method} {c : Code} {g : WG} {sb L : Nat} {xs : Nat → Int32} {b : Nat} {mr mq : Int64} {H : Heap} {locs : List Loc} {ls : Array Slot} {th : Int32} {pn tn wn wm i cells slots : Nat} {A : Nat → Int} (E : EV p m c code 8 s #[Value.ref sb] "KateDeskLaw" g) (hr : meth.sig.returnType = ret) (hlk : meth.locks = false) (hb0 : s.heap.size ≤ b) (hsb : sb < s.heap.size) (hxs : XS l s) (hL : L ≤ 3072) (hi : i + 6 ≤ L) (hc : cells + 1 ≤ room_1.cells ∧ slots + 6 ≤ room_1.slots) (hN : LNX p l e s m below meth c g sb L xs b mr mq i (cells + 1) (slots + 6)) (hG : LG g s H b pn tn wn mr mq) (hM : MVP g (nMT (b + 501)) H (b + 501) th pn tn wm A) (hT : TW g H b pn tn wn wm A mr mq) (hX : va_X sb L xs s H) (hF : ∀ q ∈ locs, HXA s q.base) (hl : lv_has ls 8 [(4, .int (nI i)), (3, .ref (b + 510)), (2, .ref (b + 501)), (1, .ref b), (0, .ref sb)]) : W p l e room_1 s m #[Value.ref sb] below meth c H locs cells slots (lw_Z below #[Value.ref sb] s) (F0 m 240 ls []) := by
  have hx := E.1
  have hb := E.2.1
  have hK := E.2.2.2.2.2
  have hw0 := State.WarmedH.refl s
  obtain ⟨⟨hmr, hmq, rfl⟩, ⟨hR0, c0, m0, t0, hc0, hm0, ht0, hj0⟩, ⟨c7, m7, t7, hc7, hm7, hj7⟩, P, V, hcw, hrl⟩ := id hT
  clear hT
  have hbd := hM.2.2.2.2.2.1
  refine lv_aload_n hx hb d_Law_law_240 rfl (lv_at hl 3 rfl) ?_
  refine lv_aload_n hx hb d_Law_law_241 rfl (lv_at hl 4 rfl) ?_
  refine lv_iload hx hb d_Law_law_242 (lv_at hl 0 rfl) ?_
  refine lv_iconst (v := nI 1) hx hb d_Law_law_244 (by decide) ?_
  refine lv_iadd hx hb d_Law_law_245 ?_
  refine lv_topi (fun t9 e9 => ?_)
  obtain rfl : t9 = nI (i + 1) := e9.trans (nI_add _ _)
  refine q_xld E hX (i + 1) rfl (by omega) (by omega) d_Law_law_246 ?_
  refine lv_aload_n hx hb d_Law_law_247 rfl (lv_at hl 4 rfl) ?_
  refine lv_iload hx hb d_Law_law_248 (lv_at hl 0 rfl) ?_
  refine lv_iconst (v := nI 2) hx hb d_Law_law_250 (by decide) ?_
  refine lv_iadd hx hb d_Law_law_251 ?_
  refine lv_topi (fun t9 e9 => ?_)
  obtain rfl : t9 = nI (i + 2) := e9.trans (nI_add _ _)
  refine q_xld E hX (i + 2) rfl (by omega) (by omega) d_Law_law_252 ?_
  refine lv_i2l (v := (xs (i + 2)).toInt64) hx hb d_Law_law_253 rfl ?_
  refine lv_bipush (v := nI 32) hx hb d_Law_law_254 (by decide) ?_
  refine lv_lshl (v := ((xs (i + 2)).toInt64) <<< ((nI 32).toInt64 &&& 63)) hx hb d_Law_law_256 rfl ?_
  refine lv_aload_n hx hb d_Law_law_257 rfl (lv_at hl 4 rfl) ?_
  refine lv_iload hx hb d_Law_law_258 (lv_at hl 0 rfl) ?_
  refine lv_iconst (v := nI 3) hx hb d_Law_law_260 (by decide) ?_
  refine lv_iadd hx hb d_Law_law_261 ?_
  refine lv_topi (fun t9 e9 => ?_)
  obtain rfl : t9 = nI (i + 3) := e9.trans (nI_add _ _)
  refine q_xld E hX (i + 3) rfl (by omega) (by omega) d_Law_law_262 ?_
  refine lv_i2l (v := (xs (i + 3)).toInt64) hx hb d_Law_law_263 rfl ?_
  refine lv_ldc2 (v := 4294967295) hx hb E.2.2.2.1 (E.2.2.2.2.1 _ w_1252) d_Law_law_264 ?_
  refine lv_land hx hb d_Law_law_267 ?_
  refine lv_lor hx hb d_Law_law_268 ?_
  refine q_cSH (rest := []) E hw0 (XH_set l g s hxs b pn tn wn mr mq hb0 (xs (i + 1)) ((((xs (i + 2)).toInt64) <<< ((nI 32).toInt64 &&& 63)) ||| (((xs (i + 3)).toInt64) &&& 4294967295)) hmr A P V) w_515 w_0 w_513 w_514 hd_Law_set rfl ⟨by decide, by decide⟩ ⟨hG, hcw⟩ hF hl.1 rfl (Nat.le_of_ble_eq_true rfl) d_Law_law_269 hc (qi (fun r5 H1 locs hq hF => ?_))
  obtain ⟨hq, hfr⟩ := hq
  have hX := hX.kept (hfr sb (Or.inl (Nat.lt_of_lt_of_le hsb hb0)))
  have hM := hM.on (fun q h1 h2 => hfr q (Or.inr (Or.inl ⟨h1, h2⟩)))
  have hm0 : AI g H1 (b + 501 + 6) 96 m0 := AI.eq hm0 (hfr _ (Or.inr (Or.inl ⟨by omega, by omega⟩)))
  have hm7 : AI g H1 (b + 501 + 7) 96 m7 := AI.eq hm7 (hfr _ (Or.inr (Or.inl ⟨by omega, by omega⟩)))
  have hc0 : AB g H1 (b + 149) 96 c0 := hc0.eq (hfr _ (Or.inr (Or.inr (Or.inl rfl))))
  have hc7 : AB g H1 (b + 151) 96 c7 := hc7.eq (hfr _ (Or.inr (Or.inr (Or.inr rfl))))
  refine lv_istore (lv' := [(5, .int r5), (4, .int (nI i)), (3, .ref (b + 510)), (2, .ref (b + 501)), (1, .ref b), (0, .ref sb)]) hx hb d_Law_law_272 hl (by decide) rfl (fun ls hl => ?_)
  refine lv_aload_n hx hb d_Law_law_274 rfl (lv_at hl 3 rfl) ?_
  refine lv_aload_n hx hb d_Law_law_275 rfl (lv_at hl 5 rfl) ?_
  refine lv_iload hx hb d_Law_law_276 (lv_at hl 1 rfl) ?_
  refine lv_iconst (v := nI 1) hx hb d_Law_law_278 (by decide) ?_
  refine lv_iadd hx hb d_Law_law_279 ?_
  refine lv_topi (fun t9 e9 => ?_)
  obtain rfl : t9 = nI (i + 1) := e9.trans (nI_add _ _)
  refine q_xld E hX (i + 1) rfl (by omega) (by omega) d_Law_law_280 ?_
  refine lv_aload_n hx hb d_Law_law_281 rfl (lv_at hl 5 rfl) ?_
  refine lv_iload hx hb d_Law_law_282 (lv_at hl 1 rfl) ?_
  refine lv_iconst (v := nI 2) hx hb d_Law_law_284 (by decide) ?_
  refine lv_iadd hx hb d_Law_law_285 ?_
  refine lv_topi (fun t9 e9 => ?_)
  obtain rfl : t9 = nI (i + 2) := e9.trans (nI_add _ _)
  refine q_xld E hX (i + 2) rfl (by omega) (by omega) d_Law_law_286 ?_
  refine lv_i2l (v := (xs (i + 2)).toInt64) hx hb d_Law_law_287 rfl ?_
  refine lv_bipush (v := nI 32) hx hb d_Law_law_288 (by decide) ?_
  refine lv_lshl (v := ((xs (i + 2)).toInt64) <<< ((nI 32).toInt64 &&& 63)) hx hb d_Law_law_290 rfl ?_
  refine lv_aload_n hx hb d_Law_law_291 rfl (lv_at hl 5 rfl) ?_
  refine lv_iload hx hb d_Law_law_292 (lv_at hl 1 rfl) ?_
  refine lv_iconst (v := nI 3) hx hb d_Law_law_294 (by decide) ?_
  refine lv_iadd hx hb d_Law_law_295 ?_
  refine lv_topi (fun t9 e9 => ?_)
  obtain rfl : t9 = nI (i + 3) := e9.trans (nI_add _ _)
  refine q_xld E hX (i + 3) rfl (by omega) (by omega) d_Law_law_296 ?_
  refine lv_i2l (v := (xs (i + 3)).toInt64) hx hb d_Law_law_297 rfl ?_
  refine lv_ldc2 (v := 4294967295) hx hb E.2.2.2.1 (E.2.2.2.2.1 _ w_1252) d_Law_law_298 ?_
  refine lv_land hx hb d_Law_law_301 ?_
  refine lv_lor hx hb d_Law_law_302 ?_
  obtain ⟨w9, n9, hob⟩ := hM.ob
  refine q_cV (rest := []) E ((YF_Model_set l g (nMT (b + 501)) (b + 501) th pn tn wn A (xs (i + 1)) ((((xs (i + 2)).toInt64) <<< ((nI 32).toInt64 &&& 63)) ||| (((xs (i + 3)).toInt64) &&& 4294967295))).frV (nMT_up hb0)) w_1080 w_15 w_1077 w_1078 w_1079 hd_Model_set rfl ⟨by decide, by decide⟩ (OB.recv E.2.2.2.2.2 (by rfl) hob) hM hF hl.1 rfl (Nat.le_of_ble_eq_true rfl) d_Law_law_303 hc (qv (fun H2 locs hq6 hF => ?_))
  obtain ⟨hq6, hfr6⟩ := hq6
  have hX := hX.kept (hfr6.2 sb hX.lt (nMT_n (nM_lt hb0 hsb)))
  clear hob hM
  have hm7 := ai_T7 hm7 hfr6
  have hm0 := ai_T6 hm0 hfr6
  rcases hq with ⟨hok, rfl, hG, hcw1⟩ | ⟨hok, rfl, hG, hcw1⟩
  · skip
    have hM : MVP g (nMT (b + 501)) H2 (b + 501) 0 pn tn wn (fSet (xs (i + 1)) ((((xs (i + 2)).toInt64) <<< ((nI 32).toInt64 &&& 63)) ||| (((xs (i + 3)).toInt64) &&& 4294967295)) A) := by
      rcases hq6 with ⟨-, h⟩ | ⟨h, -⟩
      · exact h
      · exact absurd hok h
    refine lv_goto (tgt := 1252) hx hb d_Law_law_306 (by decide) ?_
    have hl : lv_has ls 8 [(4, .int (nI i)), (3, .ref (b + 510)), (2, .ref (b + 501)), (1, .ref b), (0, .ref sb)] := lv_sub hl [1, 2, 3, 4, 5] rfl
    exact hN _ _ ls _ _ _ _ _ _ (hG.frq hb0 (nMT_fr hfr6)) hM (TW.mk hmr hmq hG.2.1 hfr6 (fun q h => nMT_ge h) hcw1 hbd.1 (hrl.sc (uI_hi (nt_S hok.1))) hc0 hm0 ht0 hj0 hc7 hm7 hj7) hX hF hl
  · skip
    have hM : MVP g (nMT (b + 501)) H2 (b + 501) 1 pn tn wn A := by
      rcases hq6 with ⟨h, -⟩ | ⟨-, h⟩
      · exact absurd h hok
      · exact h
    refine lv_goto (tgt := 1252) hx hb d_Law_law_306 (by decide) ?_
    have hl : lv_has ls 8 [(4, .int (nI i)), (3, .ref (b + 510)), (2, .ref (b + 501)), (1, .ref b), (0, .ref sb)] := lv_sub hl [1, 2, 3, 4, 5] rfl
    exact hN _ _ ls _ _ _ _ _ _ (hG.frq hb0 (nMT_fr hfr6)) hM (TW.mk hmr hmq hG.2.1 hfr6 (fun q h => nMT_ge h) hcw1 hbd.1 hrl hc0 hm0 ht0 hj0 hc7 hm7 hj7) hX hF hl
set_option maxHeartbeats 4000000 in
set_option maxRecDepth 100000 in
theorem k_word {p : Program} {l : Launch} {e : Env} {s : State} {m : MethodId} {below : List Frame} {meth : Method} {c : Code} {g : WG} {sb L : Nat} {xs : Nat → Int32} {b : Nat} {mr mq : Int64} {H : Heap} {locs : List Loc} {ls : Array Slot} {th : Int32} {pn tn wn wm i cells slots : Nat} {A : Nat → Int} (E : EV p m c code 8 s #[Value.ref sb] "KateDeskLaw" g) (hr : meth.sig.returnType = ret) (hlk : meth.locks = false) (hb0 : s.heap.size ≤ b) (hsb : sb < s.heap.size) (hxs : XS l s) (hL : L ≤ 3072) (hi : i + 6 ≤ L) (hc : cells + 1 ≤ room_1.cells ∧ slots + 6 ≤ room_1.slots) (hN : LNX p l e s m below meth c g sb L xs b mr mq i (cells + 1) (slots + 6)) (hG : LG g s H b pn tn wn mr mq) (hM : MVP g (nMT (b + 501)) H (b + 501) th pn tn wm A) (hT : TW g H b pn tn wn wm A mr mq) (hX : va_X sb L xs s H) (hF : ∀ q ∈ locs, HXA s q.base) (hl : lv_has ls 8 [(4, .int (nI i)), (3, .ref (b + 510)), (2, .ref (b + 501)), (1, .ref b), (0, .ref sb)]) : W p l e room_1 s m #[Value.ref sb] below meth c H locs cells slots (lw_Z below #[Value.ref sb] s) (F0 m 309 ls []) := by
  have hx := E.1
  have hb := E.2.1
  have hK := E.2.2.2.2.2
  have hw0 := State.WarmedH.refl s
  obtain ⟨⟨hmr, hmq, rfl⟩, ⟨hR0, c0, m0, t0, hc0, hm0, ht0, hj0⟩, ⟨c7, m7, t7, hc7, hm7, hj7⟩, P, V, hcw, hrl⟩ := id hT
  clear hT
  have hbd := hM.2.2.2.2.2.1
  refine lv_aload_n hx hb d_Law_law_309 rfl (lv_at hl 3 rfl) ?_
  refine lv_aload_n hx hb d_Law_law_310 rfl (lv_at hl 4 rfl) ?_
  refine lv_iload hx hb d_Law_law_311 (lv_at hl 0 rfl) ?_
  refine lv_iconst (v := nI 1) hx hb d_Law_law_313 (by decide) ?_
  refine lv_iadd hx hb d_Law_law_314 ?_
  refine lv_topi (fun t9 e9 => ?_)
  obtain rfl : t9 = nI (i + 1) := e9.trans (nI_add _ _)
  refine q_xld E hX (i + 1) rfl (by omega) (by omega) d_Law_law_315 ?_
  refine lv_aload_n hx hb d_Law_law_316 rfl (lv_at hl 4 rfl) ?_
  refine lv_iload hx hb d_Law_law_317 (lv_at hl 0 rfl) ?_
  refine lv_iconst (v := nI 2) hx hb d_Law_law_319 (by decide) ?_
  refine lv_iadd hx hb d_Law_law_320 ?_
  refine lv_topi (fun t9 e9 => ?_)
  obtain rfl : t9 = nI (i + 2) := e9.trans (nI_add _ _)
  refine q_xld E hX (i + 2) rfl (by omega) (by omega) d_Law_law_321 ?_
  refine lv_aload_n hx hb d_Law_law_322 rfl (lv_at hl 1 rfl) ?_
  refine q_cSH (rest := []) E hw0 (XH_word l g s hxs b pn tn wn mr mq hb0 (xs (i + 1)) (xs (i + 2)) hmr A P V) w_527 w_0 w_525 w_526 hd_Law_word rfl ⟨by decide, by decide⟩ ⟨hG, hcw⟩ hF hl.1 rfl (Nat.le_of_ble_eq_true rfl) d_Law_law_323 hc (qi (fun r5 H1 locs hq hF => ?_))
  obtain ⟨hq, hfr⟩ := hq
  have hX := hX.kept (hfr sb (Or.inl (Nat.lt_of_lt_of_le hsb hb0)))
  have hM := hM.on (fun q h1 h2 => hfr q (Or.inr (Or.inl ⟨h1, h2⟩)))
  have hm0 : AI g H1 (b + 501 + 6) 96 m0 := AI.eq hm0 (hfr _ (Or.inr (Or.inl ⟨by omega, by omega⟩)))
  have hm7 : AI g H1 (b + 501 + 7) 96 m7 := AI.eq hm7 (hfr _ (Or.inr (Or.inl ⟨by omega, by omega⟩)))
  have hc0 : AB g H1 (b + 149) 96 c0 := hc0.eq (hfr _ (Or.inr (Or.inr (Or.inl rfl))))
  have hc7 : AB g H1 (b + 151) 96 c7 := hc7.eq (hfr _ (Or.inr (Or.inr (Or.inr rfl))))
  refine lv_istore (lv' := [(5, .int r5), (4, .int (nI i)), (3, .ref (b + 510)), (2, .ref (b + 501)), (1, .ref b), (0, .ref sb)]) hx hb d_Law_law_326 hl (by decide) rfl (fun ls hl => ?_)
  refine lv_aload_n hx hb d_Law_law_328 rfl (lv_at hl 3 rfl) ?_
  refine lv_aload_n hx hb d_Law_law_329 rfl (lv_at hl 5 rfl) ?_
  refine lv_iload hx hb d_Law_law_330 (lv_at hl 1 rfl) ?_
  refine lv_iconst (v := nI 1) hx hb d_Law_law_332 (by decide) ?_
  refine lv_iadd hx hb d_Law_law_333 ?_
  refine lv_topi (fun t9 e9 => ?_)
  obtain rfl : t9 = nI (i + 1) := e9.trans (nI_add _ _)
  refine q_xld E hX (i + 1) rfl (by omega) (by omega) d_Law_law_334 ?_
  refine lv_aload_n hx hb d_Law_law_335 rfl (lv_at hl 5 rfl) ?_
  refine lv_iload hx hb d_Law_law_336 (lv_at hl 1 rfl) ?_
  refine lv_iconst (v := nI 2) hx hb d_Law_law_338 (by decide) ?_
  refine lv_iadd hx hb d_Law_law_339 ?_
  refine lv_topi (fun t9 e9 => ?_)
  obtain rfl : t9 = nI (i + 2) := e9.trans (nI_add _ _)
  refine q_xld E hX (i + 2) rfl (by omega) (by omega) d_Law_law_340 ?_
  obtain ⟨w9, n9, hob⟩ := hM.ob
  refine q_cV (rest := []) E ((YF_Model_word l g (nMT (b + 501)) (b + 501) th pn tn wn A (xs (i + 1)) (xs (i + 2))).frL (nMT_up hb0)) w_1088 w_15 w_1085 w_1086 w_1087 hd_Model_word rfl ⟨by decide, by decide⟩ (OB.recv E.2.2.2.2.2 (by rfl) hob) hM hF hl.1 rfl (Nat.le_of_ble_eq_true rfl) d_Law_law_341 hc (ql (fun r6 H2 locs hq6 hF => ?_))
  obtain ⟨hq6, hfr6⟩ := hq6
  have hX := hX.kept (hfr6.2 sb hX.lt (nMT_n (nM_lt hb0 hsb)))
  clear hob hM
  have hm7 := ai_T7 hm7 hfr6
  have hm0 := ai_T6 hm0 hfr6
  rcases hq with ⟨hok, rfl, hG, hcw1, E1, rw9, hE1, hrw, hA⟩ | ⟨hok, rfl, hG, hcw1⟩
  · skip
    obtain ⟨hM, h69⟩ : MVP g (nMT (b + 501)) H2 (b + 501) 0 pn tn wn A ∧ r6 = rw9 := by
      rcases hq6 with ⟨-, E2, hE2, hr2, h⟩ | ⟨h, -⟩
      · exact ⟨h, wd_eq hE2 hE1 hr2 hrw⟩
      · exact absurd hok h
    subst h69
    refine lv_lstore (lv' := [(6, .long r6), (5, .int (nI 0)), (4, .int (nI i)), (3, .ref (b + 510)), (2, .ref (b + 501)), (1, .ref b), (0, .ref sb)]) hx hb d_Law_law_344 hl (by decide) rfl (fun ls hl => ?_)
    refine lv_goto (tgt := 1252) hx hb d_Law_law_346 (by decide) ?_
    have hl : lv_has ls 8 [(4, .int (nI i)), (3, .ref (b + 510)), (2, .ref (b + 501)), (1, .ref b), (0, .ref sb)] := lv_sub hl [2, 3, 4, 5, 6] rfl
    exact hN _ _ ls _ _ _ _ _ _ (hG.frq hb0 (nMT_fr hfr6)) hM (TW.mk hmr hmq hG.2.1 hfr6 (fun q h => nMT_ge h) hcw1 hbd.1 hrl hc0 hm0 ht0 hj0 hc7 hm7 hj7) hX hF hl
  · skip
    have hM : MVP g (nMT (b + 501)) H2 (b + 501) 1 pn tn wn A := by
      rcases hq6 with ⟨h, -⟩ | ⟨-, h⟩
      · exact absurd h hok
      · exact h
    refine lv_lstore (lv' := [(6, .long r6), (5, .int (nI 1)), (4, .int (nI i)), (3, .ref (b + 510)), (2, .ref (b + 501)), (1, .ref b), (0, .ref sb)]) hx hb d_Law_law_344 hl (by decide) rfl (fun ls hl => ?_)
    refine lv_goto (tgt := 1252) hx hb d_Law_law_346 (by decide) ?_
    have hl : lv_has ls 8 [(4, .int (nI i)), (3, .ref (b + 510)), (2, .ref (b + 501)), (1, .ref b), (0, .ref sb)] := lv_sub hl [2, 3, 4, 5, 6] rfl
    exact hN _ _ ls _ _ _ _ _ _ (hG.frq hb0 (nMT_fr hfr6)) hM (TW.mk hmr hmq hG.2.1 hfr6 (fun q h => nMT_ge h) hcw1 hbd.1 hrl hc0 hm0 ht0 hj0 hc7 hm7 hj7) hX hF hl
set_option maxHeartbeats 4000000 in
set_option maxRecDepth 100000 in
theorem k_reckon {p : Program} {l : Launch} {e : Env} {s : State} {m : MethodId} {below : List Frame} {meth : Method} {c : Code} {g : WG} {sb L : Nat} {xs : Nat → Int32} {b : Nat} {mr mq : Int64} {H : Heap} {locs : List Loc} {ls : Array Slot} {th : Int32} {pn tn wn wm i cells slots : Nat} {A : Nat → Int} (E : EV p m c code 8 s #[Value.ref sb] "KateDeskLaw" g) (hr : meth.sig.returnType = ret) (hlk : meth.locks = false) (hb0 : s.heap.size ≤ b) (hsb : sb < s.heap.size) (hxs : XS l s) (hno : va_Nc "java/lang/ArithmeticException" "java/lang/IllegalArgumentException" s) (hL : L ≤ 3072) (hi : i + 6 ≤ L) (hc : cells + 1 ≤ room_1.cells ∧ slots + 6 ≤ room_1.slots) (hN : LNX p l e s m below meth c g sb L xs b mr mq i (cells + 1) (slots + 6)) (hG : LG g s H b pn tn wn mr mq) (hM : MVP g (nMT (b + 501)) H (b + 501) th pn tn wm A) (hT : TW g H b pn tn wn wm A mr mq) (hX : va_X sb L xs s H) (hF : ∀ q ∈ locs, HXA s q.base) (hl : lv_has ls 8 [(4, .int (nI i)), (3, .ref (b + 510)), (2, .ref (b + 501)), (1, .ref b), (0, .ref sb)]) : W p l e room_1 s m #[Value.ref sb] below meth c H locs cells slots (lw_Z below #[Value.ref sb] s) (F0 m 349 ls []) := by
  have hx := E.1
  have hb := E.2.1
  have hK := E.2.2.2.2.2
  have hw0 := State.WarmedH.refl s
  obtain ⟨⟨hmr, hmq, rfl⟩, ⟨hR0, c0, m0, t0, hc0, hm0, ht0, hj0⟩, ⟨c7, m7, t7, hc7, hm7, hj7⟩, P, V, hcw, hrl⟩ := id hT
  clear hT
  have hbd := hM.2.2.2.2.2.1
  refine lv_aload_n hx hb d_Law_law_349 rfl (lv_at hl 3 rfl) ?_
  refine lv_aload_n hx hb d_Law_law_350 rfl (lv_at hl 4 rfl) ?_
  refine lv_iload hx hb d_Law_law_351 (lv_at hl 0 rfl) ?_
  refine lv_iconst (v := nI 1) hx hb d_Law_law_353 (by decide) ?_
  refine lv_iadd hx hb d_Law_law_354 ?_
  refine lv_topi (fun t9 e9 => ?_)
  obtain rfl : t9 = nI (i + 1) := e9.trans (nI_add _ _)
  refine q_xld E hX (i + 1) rfl (by omega) (by omega) d_Law_law_355 ?_
  refine lv_aload_n hx hb d_Law_law_356 rfl (lv_at hl 4 rfl) ?_
  refine lv_iload hx hb d_Law_law_357 (lv_at hl 0 rfl) ?_
  refine lv_iconst (v := nI 2) hx hb d_Law_law_359 (by decide) ?_
  refine lv_iadd hx hb d_Law_law_360 ?_
  refine lv_topi (fun t9 e9 => ?_)
  obtain rfl : t9 = nI (i + 2) := e9.trans (nI_add _ _)
  refine q_xld E hX (i + 2) rfl (by omega) (by omega) d_Law_law_361 ?_
  refine lv_aload_n hx hb d_Law_law_362 rfl (lv_at hl 4 rfl) ?_
  refine lv_iload hx hb d_Law_law_363 (lv_at hl 0 rfl) ?_
  refine lv_iconst (v := nI 3) hx hb d_Law_law_365 (by decide) ?_
  refine lv_iadd hx hb d_Law_law_366 ?_
  refine lv_topi (fun t9 e9 => ?_)
  obtain rfl : t9 = nI (i + 3) := e9.trans (nI_add _ _)
  refine q_xld E hX (i + 3) rfl (by omega) (by omega) d_Law_law_367 ?_
  refine lv_aload_n hx hb d_Law_law_368 rfl (lv_at hl 4 rfl) ?_
  refine lv_iload hx hb d_Law_law_369 (lv_at hl 0 rfl) ?_
  refine lv_iconst (v := nI 4) hx hb d_Law_law_371 (by decide) ?_
  refine lv_iadd hx hb d_Law_law_372 ?_
  refine lv_topi (fun t9 e9 => ?_)
  obtain rfl : t9 = nI (i + 4) := e9.trans (nI_add _ _)
  refine q_xld E hX (i + 4) rfl (by omega) (by omega) d_Law_law_373 ?_
  refine q_cSH (rest := []) E hw0 (XH_reckon l g s hxs b pn tn wn mr mq hb0 (xs (i + 1)) (xs (i + 2)) (xs (i + 3)) (xs (i + 4)) hmr A P V hno) w_536 w_0 w_534 w_535 hd_Law_reckon rfl ⟨by decide, by decide⟩ ⟨hG, hcw⟩ hF hl.1 rfl (Nat.le_of_ble_eq_true rfl) d_Law_law_374 hc (qi (fun r5 H1 locs hq hF => ?_))
  obtain ⟨hq, hfr⟩ := hq
  have hX := hX.kept (hfr sb (Or.inl (Nat.lt_of_lt_of_le hsb hb0)))
  have hM := hM.on (fun q h1 h2 => hfr q (Or.inr (Or.inl ⟨h1, h2⟩)))
  have hm0 : AI g H1 (b + 501 + 6) 96 m0 := AI.eq hm0 (hfr _ (Or.inr (Or.inl ⟨by omega, by omega⟩)))
  have hm7 : AI g H1 (b + 501 + 7) 96 m7 := AI.eq hm7 (hfr _ (Or.inr (Or.inl ⟨by omega, by omega⟩)))
  have hc0 : AB g H1 (b + 149) 96 c0 := hc0.eq (hfr _ (Or.inr (Or.inr (Or.inl rfl))))
  have hc7 : AB g H1 (b + 151) 96 c7 := hc7.eq (hfr _ (Or.inr (Or.inr (Or.inr rfl))))
  refine lv_istore (lv' := [(5, .int r5), (4, .int (nI i)), (3, .ref (b + 510)), (2, .ref (b + 501)), (1, .ref b), (0, .ref sb)]) hx hb d_Law_law_377 hl (by decide) rfl (fun ls hl => ?_)
  refine lv_aload_n hx hb d_Law_law_379 rfl (lv_at hl 3 rfl) ?_
  refine lv_aload_n hx hb d_Law_law_380 rfl (lv_at hl 5 rfl) ?_
  refine lv_iload hx hb d_Law_law_381 (lv_at hl 1 rfl) ?_
  refine lv_iconst (v := nI 1) hx hb d_Law_law_383 (by decide) ?_
  refine lv_iadd hx hb d_Law_law_384 ?_
  refine lv_topi (fun t9 e9 => ?_)
  obtain rfl : t9 = nI (i + 1) := e9.trans (nI_add _ _)
  refine q_xld E hX (i + 1) rfl (by omega) (by omega) d_Law_law_385 ?_
  refine lv_aload_n hx hb d_Law_law_386 rfl (lv_at hl 5 rfl) ?_
  refine lv_iload hx hb d_Law_law_387 (lv_at hl 1 rfl) ?_
  refine lv_iconst (v := nI 2) hx hb d_Law_law_389 (by decide) ?_
  refine lv_iadd hx hb d_Law_law_390 ?_
  refine lv_topi (fun t9 e9 => ?_)
  obtain rfl : t9 = nI (i + 2) := e9.trans (nI_add _ _)
  refine q_xld E hX (i + 2) rfl (by omega) (by omega) d_Law_law_391 ?_
  refine lv_aload_n hx hb d_Law_law_392 rfl (lv_at hl 5 rfl) ?_
  refine lv_iload hx hb d_Law_law_393 (lv_at hl 1 rfl) ?_
  refine lv_iconst (v := nI 3) hx hb d_Law_law_395 (by decide) ?_
  refine lv_iadd hx hb d_Law_law_396 ?_
  refine lv_topi (fun t9 e9 => ?_)
  obtain rfl : t9 = nI (i + 3) := e9.trans (nI_add _ _)
  refine q_xld E hX (i + 3) rfl (by omega) (by omega) d_Law_law_397 ?_
  refine lv_aload_n hx hb d_Law_law_398 rfl (lv_at hl 5 rfl) ?_
  refine lv_iload hx hb d_Law_law_399 (lv_at hl 1 rfl) ?_
  refine lv_iconst (v := nI 4) hx hb d_Law_law_401 (by decide) ?_
  refine lv_iadd hx hb d_Law_law_402 ?_
  refine lv_topi (fun t9 e9 => ?_)
  obtain rfl : t9 = nI (i + 4) := e9.trans (nI_add _ _)
  refine q_xld E hX (i + 4) rfl (by omega) (by omega) d_Law_law_403 ?_
  obtain ⟨w9, n9, hob⟩ := hM.ob
  refine q_cV (rest := []) E ((YF_Model_reckon l g (nMT (b + 501)) (b + 501) th pn tn wn A (xs (i + 1)) (xs (i + 2)) (xs (i + 3)) (xs (i + 4))).frV (nMT_up hb0)) w_1097 w_15 w_1094 w_1095 w_1096 hd_Model_reckon rfl ⟨by decide, by decide⟩ (OB.recv E.2.2.2.2.2 (by rfl) hob) hM hF hl.1 rfl (Nat.le_of_ble_eq_true rfl) d_Law_law_404 hc (qv (fun H2 locs hq6 hF => ?_))
  obtain ⟨hq6, hfr6⟩ := hq6
  have hX := hX.kept (hfr6.2 sb hX.lt (nMT_n (nM_lt hb0 hsb)))
  clear hob hM
  have hm7 := ai_T7 hm7 hfr6
  have hm0 := ai_T6 hm0 hfr6
  rcases hq with ⟨hok, ⟨hnz, rfl, hG, hcw1⟩ | ⟨hz9, rfl, hG, hcw1⟩⟩ | ⟨hok, rfl, hG, hcw1⟩
  · skip
    have hM : MVP g (nMT (b + 501)) H2 (b + 501) 0 pn tn wn (fRec (xs (i + 1)) (xs (i + 2)) (xs (i + 3)) (xs (i + 4)) A) := by
      rcases hq6 with ⟨-, ⟨-, h⟩ | ⟨h, -⟩⟩ | ⟨h, -⟩
      · exact h
      · exact absurd h hnz
      · exact absurd hok h
    refine lv_goto (tgt := 1252) hx hb d_Law_law_407 (by decide) ?_
    have hl : lv_has ls 8 [(4, .int (nI i)), (3, .ref (b + 510)), (2, .ref (b + 501)), (1, .ref b), (0, .ref sb)] := lv_sub hl [1, 2, 3, 4, 5] rfl
    exact hN _ _ ls _ _ _ _ _ _ (hG.frq hb0 (nMT_fr hfr6)) hM (TW.mk hmr hmq hG.2.1 hfr6 (fun q h => nMT_ge h) hcw1 hbd.1 (hrl.sc (uI_hi (nt_S hok.2.1))) hc0 hm0 ht0 hj0 hc7 hm7 hj7) hX hF hl
  · skip
    have hM : MVP g (nMT (b + 501)) H2 (b + 501) (nI 2) pn tn wn A := by
      rcases hq6 with ⟨-, ⟨h, -⟩ | ⟨-, h⟩⟩ | ⟨h, -⟩
      · exact absurd hz9 h
      · exact h
      · exact absurd hok h
    refine lv_goto (tgt := 1252) hx hb d_Law_law_407 (by decide) ?_
    have hl : lv_has ls 8 [(4, .int (nI i)), (3, .ref (b + 510)), (2, .ref (b + 501)), (1, .ref b), (0, .ref sb)] := lv_sub hl [1, 2, 3, 4, 5] rfl
    exact hN _ _ ls _ _ _ _ _ _ (hG.frq hb0 (nMT_fr hfr6)) hM (TW.mk hmr hmq hG.2.1 hfr6 (fun q h => nMT_ge h) hcw1 hbd.1 hrl hc0 hm0 ht0 hj0 hc7 hm7 hj7) hX hF hl
  · skip
    have hM : MVP g (nMT (b + 501)) H2 (b + 501) 1 pn tn wn A := by
      rcases hq6 with ⟨h, -⟩ | ⟨-, h⟩
      · exact absurd h hok
      · exact h
    refine lv_goto (tgt := 1252) hx hb d_Law_law_407 (by decide) ?_
    have hl : lv_has ls 8 [(4, .int (nI i)), (3, .ref (b + 510)), (2, .ref (b + 501)), (1, .ref b), (0, .ref sb)] := lv_sub hl [1, 2, 3, 4, 5] rfl
    exact hN _ _ ls _ _ _ _ _ _ (hG.frq hb0 (nMT_fr hfr6)) hM (TW.mk hmr hmq hG.2.1 hfr6 (fun q h => nMT_ge h) hcw1 hbd.1 hrl hc0 hm0 ht0 hj0 hc7 hm7 hj7) hX hF hl
set_option maxHeartbeats 4000000 in
set_option maxRecDepth 100000 in
theorem k_power {p : Program} {l : Launch} {e : Env} {s : State} {m : MethodId} {below : List Frame} {meth : Method} {c : Code} {g : WG} {sb L : Nat} {xs : Nat → Int32} {b : Nat} {mr mq : Int64} {H : Heap} {locs : List Loc} {ls : Array Slot} {th : Int32} {pn tn wn wm i cells slots : Nat} {A : Nat → Int} (E : EV p m c code 8 s #[Value.ref sb] "KateDeskLaw" g) (hr : meth.sig.returnType = ret) (hlk : meth.locks = false) (hb0 : s.heap.size ≤ b) (hsb : sb < s.heap.size) (hxs : XS l s) (hL : L ≤ 3072) (hi : i + 6 ≤ L) (hc : cells + 1 ≤ room_1.cells ∧ slots + 6 ≤ room_1.slots) (hN : LNX p l e s m below meth c g sb L xs b mr mq i (cells + 1) (slots + 6)) (hG : LG g s H b pn tn wn mr mq) (hM : MVP g (nMT (b + 501)) H (b + 501) th pn tn wm A) (hT : TW g H b pn tn wn wm A mr mq) (hX : va_X sb L xs s H) (hF : ∀ q ∈ locs, HXA s q.base) (hl : lv_has ls 8 [(4, .int (nI i)), (3, .ref (b + 510)), (2, .ref (b + 501)), (1, .ref b), (0, .ref sb)]) : W p l e room_1 s m #[Value.ref sb] below meth c H locs cells slots (lw_Z below #[Value.ref sb] s) (F0 m 410 ls []) := by
  have hx := E.1
  have hb := E.2.1
  have hK := E.2.2.2.2.2
  have hw0 := State.WarmedH.refl s
  obtain ⟨⟨hmr, hmq, rfl⟩, ⟨hR0, c0, m0, t0, hc0, hm0, ht0, hj0⟩, ⟨c7, m7, t7, hc7, hm7, hj7⟩, P, V, hcw, hrl⟩ := id hT
  clear hT
  have hbd := hM.2.2.2.2.2.1
  refine lv_aload_n hx hb d_Law_law_410 rfl (lv_at hl 3 rfl) ?_
  refine lv_aload_n hx hb d_Law_law_411 rfl (lv_at hl 4 rfl) ?_
  refine lv_iload hx hb d_Law_law_412 (lv_at hl 0 rfl) ?_
  refine lv_iconst (v := nI 1) hx hb d_Law_law_414 (by decide) ?_
  refine lv_iadd hx hb d_Law_law_415 ?_
  refine lv_topi (fun t9 e9 => ?_)
  obtain rfl : t9 = nI (i + 1) := e9.trans (nI_add _ _)
  refine q_xld E hX (i + 1) rfl (by omega) (by omega) d_Law_law_416 ?_
  refine lv_aload_n hx hb d_Law_law_417 rfl (lv_at hl 4 rfl) ?_
  refine lv_iload hx hb d_Law_law_418 (lv_at hl 0 rfl) ?_
  refine lv_iconst (v := nI 2) hx hb d_Law_law_420 (by decide) ?_
  refine lv_iadd hx hb d_Law_law_421 ?_
  refine lv_topi (fun t9 e9 => ?_)
  obtain rfl : t9 = nI (i + 2) := e9.trans (nI_add _ _)
  refine q_xld E hX (i + 2) rfl (by omega) (by omega) d_Law_law_422 ?_
  refine lv_aload_n hx hb d_Law_law_423 rfl (lv_at hl 4 rfl) ?_
  refine lv_iload hx hb d_Law_law_424 (lv_at hl 0 rfl) ?_
  refine lv_iconst (v := nI 3) hx hb d_Law_law_426 (by decide) ?_
  refine lv_iadd hx hb d_Law_law_427 ?_
  refine lv_topi (fun t9 e9 => ?_)
  obtain rfl : t9 = nI (i + 3) := e9.trans (nI_add _ _)
  refine q_xld E hX (i + 3) rfl (by omega) (by omega) d_Law_law_428 ?_
  refine lv_i2l (v := (xs (i + 3)).toInt64) hx hb d_Law_law_429 rfl ?_
  refine lv_bipush (v := nI 32) hx hb d_Law_law_430 (by decide) ?_
  refine lv_lshl (v := ((xs (i + 3)).toInt64) <<< ((nI 32).toInt64 &&& 63)) hx hb d_Law_law_432 rfl ?_
  refine lv_aload_n hx hb d_Law_law_433 rfl (lv_at hl 4 rfl) ?_
  refine lv_iload hx hb d_Law_law_434 (lv_at hl 0 rfl) ?_
  refine lv_iconst (v := nI 4) hx hb d_Law_law_436 (by decide) ?_
  refine lv_iadd hx hb d_Law_law_437 ?_
  refine lv_topi (fun t9 e9 => ?_)
  obtain rfl : t9 = nI (i + 4) := e9.trans (nI_add _ _)
  refine q_xld E hX (i + 4) rfl (by omega) (by omega) d_Law_law_438 ?_
  refine lv_i2l (v := (xs (i + 4)).toInt64) hx hb d_Law_law_439 rfl ?_
  refine lv_ldc2 (v := 4294967295) hx hb E.2.2.2.1 (E.2.2.2.2.1 _ w_1252) d_Law_law_440 ?_
  refine lv_land hx hb d_Law_law_443 ?_
  refine lv_lor hx hb d_Law_law_444 ?_
  refine q_cSH (rest := []) E hw0 (XH_power l g s hxs b pn tn wn mr mq hb0 (xs (i + 1)) (xs (i + 2)) ((((xs (i + 3)).toInt64) <<< ((nI 32).toInt64 &&& 63)) ||| (((xs (i + 4)).toInt64) &&& 4294967295)) hmr A P V) w_579 w_0 w_577 w_578 hd_Law_power rfl ⟨by decide, by decide⟩ ⟨hG, hcw⟩ hF hl.1 rfl (Nat.le_of_ble_eq_true rfl) d_Law_law_445 hc (qi (fun r5 H1 locs hq hF => ?_))
  obtain ⟨hq, hfr⟩ := hq
  have hX := hX.kept (hfr sb (Or.inl (Nat.lt_of_lt_of_le hsb hb0)))
  have hM := hM.on (fun q h1 h2 => hfr q (Or.inr (Or.inl ⟨h1, h2⟩)))
  have hm0 : AI g H1 (b + 501 + 6) 96 m0 := AI.eq hm0 (hfr _ (Or.inr (Or.inl ⟨by omega, by omega⟩)))
  have hm7 : AI g H1 (b + 501 + 7) 96 m7 := AI.eq hm7 (hfr _ (Or.inr (Or.inl ⟨by omega, by omega⟩)))
  have hc0 : AB g H1 (b + 149) 96 c0 := hc0.eq (hfr _ (Or.inr (Or.inr (Or.inl rfl))))
  have hc7 : AB g H1 (b + 151) 96 c7 := hc7.eq (hfr _ (Or.inr (Or.inr (Or.inr rfl))))
  refine lv_istore (lv' := [(5, .int r5), (4, .int (nI i)), (3, .ref (b + 510)), (2, .ref (b + 501)), (1, .ref b), (0, .ref sb)]) hx hb d_Law_law_448 hl (by decide) rfl (fun ls hl => ?_)
  refine lv_aload_n hx hb d_Law_law_450 rfl (lv_at hl 3 rfl) ?_
  refine lv_aload_n hx hb d_Law_law_451 rfl (lv_at hl 5 rfl) ?_
  refine lv_iload hx hb d_Law_law_452 (lv_at hl 1 rfl) ?_
  refine lv_iconst (v := nI 1) hx hb d_Law_law_454 (by decide) ?_
  refine lv_iadd hx hb d_Law_law_455 ?_
  refine lv_topi (fun t9 e9 => ?_)
  obtain rfl : t9 = nI (i + 1) := e9.trans (nI_add _ _)
  refine q_xld E hX (i + 1) rfl (by omega) (by omega) d_Law_law_456 ?_
  refine lv_aload_n hx hb d_Law_law_457 rfl (lv_at hl 5 rfl) ?_
  refine lv_iload hx hb d_Law_law_458 (lv_at hl 1 rfl) ?_
  refine lv_iconst (v := nI 2) hx hb d_Law_law_460 (by decide) ?_
  refine lv_iadd hx hb d_Law_law_461 ?_
  refine lv_topi (fun t9 e9 => ?_)
  obtain rfl : t9 = nI (i + 2) := e9.trans (nI_add _ _)
  refine q_xld E hX (i + 2) rfl (by omega) (by omega) d_Law_law_462 ?_
  refine lv_aload_n hx hb d_Law_law_463 rfl (lv_at hl 5 rfl) ?_
  refine lv_iload hx hb d_Law_law_464 (lv_at hl 1 rfl) ?_
  refine lv_iconst (v := nI 3) hx hb d_Law_law_466 (by decide) ?_
  refine lv_iadd hx hb d_Law_law_467 ?_
  refine lv_topi (fun t9 e9 => ?_)
  obtain rfl : t9 = nI (i + 3) := e9.trans (nI_add _ _)
  refine q_xld E hX (i + 3) rfl (by omega) (by omega) d_Law_law_468 ?_
  refine lv_i2l (v := (xs (i + 3)).toInt64) hx hb d_Law_law_469 rfl ?_
  refine lv_bipush (v := nI 32) hx hb d_Law_law_470 (by decide) ?_
  refine lv_lshl (v := ((xs (i + 3)).toInt64) <<< ((nI 32).toInt64 &&& 63)) hx hb d_Law_law_472 rfl ?_
  refine lv_aload_n hx hb d_Law_law_473 rfl (lv_at hl 5 rfl) ?_
  refine lv_iload hx hb d_Law_law_474 (lv_at hl 1 rfl) ?_
  refine lv_iconst (v := nI 4) hx hb d_Law_law_476 (by decide) ?_
  refine lv_iadd hx hb d_Law_law_477 ?_
  refine lv_topi (fun t9 e9 => ?_)
  obtain rfl : t9 = nI (i + 4) := e9.trans (nI_add _ _)
  refine q_xld E hX (i + 4) rfl (by omega) (by omega) d_Law_law_478 ?_
  refine lv_i2l (v := (xs (i + 4)).toInt64) hx hb d_Law_law_479 rfl ?_
  refine lv_ldc2 (v := 4294967295) hx hb E.2.2.2.1 (E.2.2.2.2.1 _ w_1252) d_Law_law_480 ?_
  refine lv_land hx hb d_Law_law_483 ?_
  refine lv_lor hx hb d_Law_law_484 ?_
  obtain ⟨w9, n9, hob⟩ := hM.ob
  refine q_cV (rest := []) E ((YF_Model_power l g (nMT (b + 501)) (b + 501) th pn tn wn A (xs (i + 1)) (xs (i + 2)) ((((xs (i + 3)).toInt64) <<< ((nI 32).toInt64 &&& 63)) ||| (((xs (i + 4)).toInt64) &&& 4294967295))).frV (nMT_up hb0)) w_1130 w_15 w_1127 w_1128 w_1129 hd_Model_power rfl ⟨by decide, by decide⟩ (OB.recv E.2.2.2.2.2 (by rfl) hob) hM hF hl.1 rfl (Nat.le_of_ble_eq_true rfl) d_Law_law_485 hc (qv (fun H2 locs hq6 hF => ?_))
  obtain ⟨hq6, hfr6⟩ := hq6
  have hX := hX.kept (hfr6.2 sb hX.lt (nMT_n (nM_lt hb0 hsb)))
  clear hob hM
  have hm7 := ai_T7 hm7 hfr6
  have hm0 := ai_T6 hm0 hfr6
  rcases hq with ⟨hok, rfl, hG, hcw1⟩ | ⟨hok, rfl, hG, hcw1⟩
  · skip
    have hM : MVP g (nMT (b + 501)) H2 (b + 501) 0 pn tn wn (fPow (xs (i + 1)) (xs (i + 2)) ((((xs (i + 3)).toInt64) <<< ((nI 32).toInt64 &&& 63)) ||| (((xs (i + 4)).toInt64) &&& 4294967295)) A) := by
      rcases hq6 with ⟨-, h⟩ | ⟨h, -⟩
      · exact h
      · exact absurd hok h
    refine lv_goto (tgt := 1252) hx hb d_Law_law_488 (by decide) ?_
    have hl : lv_has ls 8 [(4, .int (nI i)), (3, .ref (b + 510)), (2, .ref (b + 501)), (1, .ref b), (0, .ref sb)] := lv_sub hl [1, 2, 3, 4, 5] rfl
    exact hN _ _ ls _ _ _ _ _ _ (hG.frq hb0 (nMT_fr hfr6)) hM (TW.mk hmr hmq hG.2.1 hfr6 (fun q h => nMT_ge h) hcw1 hbd.1 (hrl.sc (uI_hi (nt_S hok.1))) hc0 hm0 ht0 hj0 hc7 hm7 hj7) hX hF hl
  · skip
    have hM : MVP g (nMT (b + 501)) H2 (b + 501) 1 pn tn wn A := by
      rcases hq6 with ⟨h, -⟩ | ⟨-, h⟩
      · exact absurd h hok
      · exact h
    refine lv_goto (tgt := 1252) hx hb d_Law_law_488 (by decide) ?_
    have hl : lv_has ls 8 [(4, .int (nI i)), (3, .ref (b + 510)), (2, .ref (b + 501)), (1, .ref b), (0, .ref sb)] := lv_sub hl [1, 2, 3, 4, 5] rfl
    exact hN _ _ ls _ _ _ _ _ _ (hG.frq hb0 (nMT_fr hfr6)) hM (TW.mk hmr hmq hG.2.1 hfr6 (fun q h => nMT_ge h) hcw1 hbd.1 hrl hc0 hm0 ht0 hj0 hc7 hm7 hj7) hX hF hl
set_option maxHeartbeats 4000000 in
set_option maxRecDepth 100000 in
theorem k_unity {p : Program} {l : Launch} {e : Env} {s : State} {m : MethodId} {below : List Frame} {meth : Method} {c : Code} {g : WG} {sb L : Nat} {xs : Nat → Int32} {b : Nat} {mr mq : Int64} {H : Heap} {locs : List Loc} {ls : Array Slot} {th : Int32} {pn tn wn wm i cells slots : Nat} {A : Nat → Int} (E : EV p m c code 8 s #[Value.ref sb] "KateDeskLaw" g) (hr : meth.sig.returnType = ret) (hlk : meth.locks = false) (hb0 : s.heap.size ≤ b) (hsb : sb < s.heap.size) (hxs : XS l s) (hL : L ≤ 3072) (hi : i + 6 ≤ L) (hc : cells + 1 ≤ room_1.cells ∧ slots + 6 ≤ room_1.slots) (hN : LNX p l e s m below meth c g sb L xs b mr mq i (cells + 1) (slots + 6)) (hG : LG g s H b pn tn wn mr mq) (hM : MVP g (nMT (b + 501)) H (b + 501) th pn tn wm A) (hT : TW g H b pn tn wn wm A mr mq) (hX : va_X sb L xs s H) (hF : ∀ q ∈ locs, HXA s q.base) (hl : lv_has ls 8 [(4, .int (nI i)), (3, .ref (b + 510)), (2, .ref (b + 501)), (1, .ref b), (0, .ref sb)]) : W p l e room_1 s m #[Value.ref sb] below meth c H locs cells slots (lw_Z below #[Value.ref sb] s) (F0 m 491 ls []) := by
  have hx := E.1
  have hb := E.2.1
  have hK := E.2.2.2.2.2
  have hw0 := State.WarmedH.refl s
  obtain ⟨⟨hmr, hmq, rfl⟩, ⟨hR0, c0, m0, t0, hc0, hm0, ht0, hj0⟩, ⟨c7, m7, t7, hc7, hm7, hj7⟩, P, V, hcw, hrl⟩ := id hT
  clear hT
  have hbd := hM.2.2.2.2.2.1
  refine lv_aload_n hx hb d_Law_law_491 rfl (lv_at hl 3 rfl) ?_
  refine lv_aload_n hx hb d_Law_law_492 rfl (lv_at hl 4 rfl) ?_
  refine lv_iload hx hb d_Law_law_493 (lv_at hl 0 rfl) ?_
  refine lv_iconst (v := nI 1) hx hb d_Law_law_495 (by decide) ?_
  refine lv_iadd hx hb d_Law_law_496 ?_
  refine lv_topi (fun t9 e9 => ?_)
  obtain rfl : t9 = nI (i + 1) := e9.trans (nI_add _ _)
  refine q_xld E hX (i + 1) rfl (by omega) (by omega) d_Law_law_497 ?_
  refine lv_aload_n hx hb d_Law_law_498 rfl (lv_at hl 4 rfl) ?_
  refine lv_iload hx hb d_Law_law_499 (lv_at hl 0 rfl) ?_
  refine lv_iconst (v := nI 2) hx hb d_Law_law_501 (by decide) ?_
  refine lv_iadd hx hb d_Law_law_502 ?_
  refine lv_topi (fun t9 e9 => ?_)
  obtain rfl : t9 = nI (i + 2) := e9.trans (nI_add _ _)
  refine q_xld E hX (i + 2) rfl (by omega) (by omega) d_Law_law_503 ?_
  refine q_cSH (rest := []) E hw0 (XH_unity l g s hxs b pn tn wn mr mq hb0 (xs (i + 1)) (xs (i + 2)) hmr A P V) w_592 w_0 w_590 w_591 hd_Law_unity rfl ⟨by decide, by decide⟩ ⟨hG, hcw⟩ hF hl.1 rfl (Nat.le_of_ble_eq_true rfl) d_Law_law_504 hc (qi (fun r5 H1 locs hq hF => ?_))
  obtain ⟨hq, hfr⟩ := hq
  have hX := hX.kept (hfr sb (Or.inl (Nat.lt_of_lt_of_le hsb hb0)))
  have hM := hM.on (fun q h1 h2 => hfr q (Or.inr (Or.inl ⟨h1, h2⟩)))
  have hm0 : AI g H1 (b + 501 + 6) 96 m0 := AI.eq hm0 (hfr _ (Or.inr (Or.inl ⟨by omega, by omega⟩)))
  have hm7 : AI g H1 (b + 501 + 7) 96 m7 := AI.eq hm7 (hfr _ (Or.inr (Or.inl ⟨by omega, by omega⟩)))
  have hc0 : AB g H1 (b + 149) 96 c0 := hc0.eq (hfr _ (Or.inr (Or.inr (Or.inl rfl))))
  have hc7 : AB g H1 (b + 151) 96 c7 := hc7.eq (hfr _ (Or.inr (Or.inr (Or.inr rfl))))
  refine lv_istore (lv' := [(5, .int r5), (4, .int (nI i)), (3, .ref (b + 510)), (2, .ref (b + 501)), (1, .ref b), (0, .ref sb)]) hx hb d_Law_law_507 hl (by decide) rfl (fun ls hl => ?_)
  refine lv_aload_n hx hb d_Law_law_509 rfl (lv_at hl 3 rfl) ?_
  refine lv_aload_n hx hb d_Law_law_510 rfl (lv_at hl 5 rfl) ?_
  refine lv_iload hx hb d_Law_law_511 (lv_at hl 1 rfl) ?_
  refine lv_iconst (v := nI 1) hx hb d_Law_law_513 (by decide) ?_
  refine lv_iadd hx hb d_Law_law_514 ?_
  refine lv_topi (fun t9 e9 => ?_)
  obtain rfl : t9 = nI (i + 1) := e9.trans (nI_add _ _)
  refine q_xld E hX (i + 1) rfl (by omega) (by omega) d_Law_law_515 ?_
  refine lv_aload_n hx hb d_Law_law_516 rfl (lv_at hl 5 rfl) ?_
  refine lv_iload hx hb d_Law_law_517 (lv_at hl 1 rfl) ?_
  refine lv_iconst (v := nI 2) hx hb d_Law_law_519 (by decide) ?_
  refine lv_iadd hx hb d_Law_law_520 ?_
  refine lv_topi (fun t9 e9 => ?_)
  obtain rfl : t9 = nI (i + 2) := e9.trans (nI_add _ _)
  refine q_xld E hX (i + 2) rfl (by omega) (by omega) d_Law_law_521 ?_
  obtain ⟨w9, n9, hob⟩ := hM.ob
  refine q_cV (rest := []) E ((YF_Model_unity l g (nMT (b + 501)) (b + 501) th pn tn wn A (xs (i + 1)) (xs (i + 2))).frV (nMT_up hb0)) w_1134 w_15 w_1131 w_1132 w_1133 hd_Model_unity rfl ⟨by decide, by decide⟩ (OB.recv E.2.2.2.2.2 (by rfl) hob) hM hF hl.1 rfl (Nat.le_of_ble_eq_true rfl) d_Law_law_522 hc (qv (fun H2 locs hq6 hF => ?_))
  obtain ⟨hq6, hfr6⟩ := hq6
  have hX := hX.kept (hfr6.2 sb hX.lt (nMT_n (nM_lt hb0 hsb)))
  clear hob hM
  have hm7 := ai_T7 hm7 hfr6
  have hm0 := ai_T6 hm0 hfr6
  rcases hq with ⟨hok, rfl, hG, hcw1⟩ | ⟨hok, rfl, hG, hcw1⟩
  · skip
    have hM : MVP g (nMT (b + 501)) H2 (b + 501) 0 pn tn wn (fUni (xs (i + 1)) (xs (i + 2)) A) := by
      rcases hq6 with ⟨-, h⟩ | ⟨h, -⟩
      · exact h
      · exact absurd hok h
    refine lv_goto (tgt := 1252) hx hb d_Law_law_525 (by decide) ?_
    have hl : lv_has ls 8 [(4, .int (nI i)), (3, .ref (b + 510)), (2, .ref (b + 501)), (1, .ref b), (0, .ref sb)] := lv_sub hl [1, 2, 3, 4, 5] rfl
    exact hN _ _ ls _ _ _ _ _ _ (hG.frq hb0 (nMT_fr hfr6)) hM (TW.mk hmr hmq hG.2.1 hfr6 (fun q h => nMT_ge h) hcw1 hbd.1 (hrl.sc (uI_hi (nt_S hok.1))) hc0 hm0 ht0 hj0 hc7 hm7 hj7) hX hF hl
  · skip
    have hM : MVP g (nMT (b + 501)) H2 (b + 501) 1 pn tn wn A := by
      rcases hq6 with ⟨h, -⟩ | ⟨-, h⟩
      · exact absurd h hok
      · exact h
    refine lv_goto (tgt := 1252) hx hb d_Law_law_525 (by decide) ?_
    have hl : lv_has ls 8 [(4, .int (nI i)), (3, .ref (b + 510)), (2, .ref (b + 501)), (1, .ref b), (0, .ref sb)] := lv_sub hl [1, 2, 3, 4, 5] rfl
    exact hN _ _ ls _ _ _ _ _ _ (hG.frq hb0 (nMT_fr hfr6)) hM (TW.mk hmr hmq hG.2.1 hfr6 (fun q h => nMT_ge h) hcw1 hbd.1 hrl hc0 hm0 ht0 hj0 hc7 hm7 hj7) hX hF hl
set_option maxHeartbeats 4000000 in
set_option maxRecDepth 100000 in
theorem k_point {p : Program} {l : Launch} {e : Env} {s : State} {m : MethodId} {below : List Frame} {meth : Method} {c : Code} {g : WG} {sb L : Nat} {xs : Nat → Int32} {b : Nat} {mr mq : Int64} {H : Heap} {locs : List Loc} {ls : Array Slot} {th : Int32} {pn tn wn wm i cells slots : Nat} {A : Nat → Int} (E : EV p m c code 8 s #[Value.ref sb] "KateDeskLaw" g) (hr : meth.sig.returnType = ret) (hlk : meth.locks = false) (hb0 : s.heap.size ≤ b) (hsb : sb < s.heap.size) (hxs : XS l s) (hL : L ≤ 3072) (hi : i + 6 ≤ L) (hc : cells + 1 ≤ room_1.cells ∧ slots + 6 ≤ room_1.slots) (hN : LNX p l e s m below meth c g sb L xs b mr mq i (cells + 1) (slots + 6)) (hG : LG g s H b pn tn wn mr mq) (hM : MVP g (nMT (b + 501)) H (b + 501) th pn tn wm A) (hT : TW g H b pn tn wn wm A mr mq) (hX : va_X sb L xs s H) (hF : ∀ q ∈ locs, HXA s q.base) (hl : lv_has ls 8 [(4, .int (nI i)), (3, .ref (b + 510)), (2, .ref (b + 501)), (1, .ref b), (0, .ref sb)]) : W p l e room_1 s m #[Value.ref sb] below meth c H locs cells slots (lw_Z below #[Value.ref sb] s) (F0 m 528 ls []) := by
  have hx := E.1
  have hb := E.2.1
  have hK := E.2.2.2.2.2
  have hw0 := State.WarmedH.refl s
  obtain ⟨⟨hmr, hmq, rfl⟩, ⟨hR0, c0, m0, t0, hc0, hm0, ht0, hj0⟩, ⟨c7, m7, t7, hc7, hm7, hj7⟩, P, V, hcw, hrl⟩ := id hT
  clear hT
  have hbd := hM.2.2.2.2.2.1
  refine lv_aload_n hx hb d_Law_law_528 rfl (lv_at hl 3 rfl) ?_
  refine lv_aload_n hx hb d_Law_law_529 rfl (lv_at hl 4 rfl) ?_
  refine lv_iload hx hb d_Law_law_530 (lv_at hl 0 rfl) ?_
  refine lv_iconst (v := nI 1) hx hb d_Law_law_532 (by decide) ?_
  refine lv_iadd hx hb d_Law_law_533 ?_
  refine lv_topi (fun t9 e9 => ?_)
  obtain rfl : t9 = nI (i + 1) := e9.trans (nI_add _ _)
  refine q_xld E hX (i + 1) rfl (by omega) (by omega) d_Law_law_534 ?_
  refine lv_aload_n hx hb d_Law_law_535 rfl (lv_at hl 1 rfl) ?_
  refine q_cSH (rest := []) E hw0 (XH_point l g s hxs b pn tn wn mr mq hb0 (xs (i + 1)) hmr hmq A P V c0 t0 ht0 (fun j hj => (hj0 j hj).1)) w_615 w_0 w_613 w_614 hd_Law_point rfl ⟨by decide, by decide⟩ ⟨hG, hcw, hc0⟩ hF hl.1 rfl (Nat.le_of_ble_eq_true rfl) d_Law_law_536 hc (qi (fun r5 H1 locs hq hF => ?_))
  obtain ⟨hq, hfr⟩ := hq
  have hX := hX.kept (hfr sb (Or.inl (Nat.lt_of_lt_of_le hsb hb0)))
  have hM := hM.on (fun q h1 h2 => hfr q (Or.inr (Or.inl ⟨h1, h2⟩)))
  have hm0 : AI g H1 (b + 501 + 6) 96 m0 := AI.eq hm0 (hfr _ (Or.inr (Or.inl ⟨by omega, by omega⟩)))
  have hm7 : AI g H1 (b + 501 + 7) 96 m7 := AI.eq hm7 (hfr _ (Or.inr (Or.inl ⟨by omega, by omega⟩)))
  have hc0 : AB g H1 (b + 149) 96 c0 := hc0.eq (hfr _ (Or.inr (Or.inr (Or.inl rfl))))
  have hc7 : AB g H1 (b + 151) 96 c7 := hc7.eq (hfr _ (Or.inr (Or.inr (Or.inr rfl))))
  refine lv_istore (lv' := [(5, .int r5), (4, .int (nI i)), (3, .ref (b + 510)), (2, .ref (b + 501)), (1, .ref b), (0, .ref sb)]) hx hb d_Law_law_539 hl (by decide) rfl (fun ls hl => ?_)
  refine lv_aload_n hx hb d_Law_law_541 rfl (lv_at hl 3 rfl) ?_
  refine lv_aload_n hx hb d_Law_law_542 rfl (lv_at hl 5 rfl) ?_
  refine lv_iload hx hb d_Law_law_543 (lv_at hl 1 rfl) ?_
  refine lv_iconst (v := nI 1) hx hb d_Law_law_545 (by decide) ?_
  refine lv_iadd hx hb d_Law_law_546 ?_
  refine lv_topi (fun t9 e9 => ?_)
  obtain rfl : t9 = nI (i + 1) := e9.trans (nI_add _ _)
  refine q_xld E hX (i + 1) rfl (by omega) (by omega) d_Law_law_547 ?_
  obtain ⟨w9, n9, hob⟩ := hM.ob
  refine q_cV (rest := []) E ((W_Model_point l g (nMT (b + 501)) (b + 501) th pn tn wn A (xs (i + 1)) m0 t0 ht0 (fun j hj => (hj0 j hj).2)).frI (nMT_up hb0)) w_1148 w_15 w_1145 w_1146 w_1147 hd_Model_point rfl ⟨by decide, by decide⟩ (OB.recv E.2.2.2.2.2 (by rfl) hob) (⟨hM, hm0⟩) hF hl.1 rfl (Nat.le_of_ble_eq_true rfl) d_Law_law_548 hc (qi (fun r6 H2 locs hq6 hF => ?_))
  obtain ⟨hq6, hfr6⟩ := hq6
  have hX := hX.kept (hfr6.2 sb hX.lt (nMT_n (nM_lt hb0 hsb)))
  clear hob hM
  have hm7 := ai_T7 hm7 hfr6
  have hm0 := ai_T6 hm0 hfr6
  rcases hq with ⟨hok, rfl, hG, k1, n9, T, e1, b1, hpa, hA, hcw1⟩ | ⟨hok, rfl, hG, hcw1⟩
  · skip
    obtain ⟨T', h69, hM⟩ : ∃ T', r6 = nI n9 ∧ ((n9 = 0 ∧ PE T T' ∧ MVP g (nMT (b + 501)) H2 (b + 501) 0 pn 0 wn (updP A (32 + 3 * k1) T')) ∨ (n9 ≠ 0 ∧ MVP g (nMT (b + 501)) H2 (b + 501) 0 pn 0 wn A)) := by
      rcases hq6 with ⟨-, j1, n8, T', f1, b2, hr6, hpb, h⟩ | ⟨h, -⟩
      · obtain rfl := ni_un e1 f1 (by omega) (by omega)
        obtain ⟨e9, hPT⟩ := hpa.un hpb
        subst e9
        exact ⟨T', hr6, h.imp (fun h => ⟨h.1, hPT h.1, h.2⟩) id⟩
      · exact absurd hok h
    subst h69
    rcases hcw1 with ⟨z9, hcw1⟩ | ⟨z9, hcw1⟩
    · skip
      obtain ⟨-, hPT, hM⟩ := hM.resolve_right (fun h => h.1 z9)
      refine lv_istore (lv' := [(6, .int (nI n9)), (5, .int (nI 0)), (4, .int (nI i)), (3, .ref (b + 510)), (2, .ref (b + 501)), (1, .ref b), (0, .ref sb)]) hx hb d_Law_law_551 hl (by decide) rfl (fun ls hl => ?_)
      refine lv_goto (tgt := 1252) hx hb d_Law_law_553 (by decide) ?_
      have hl : lv_has ls 8 [(4, .int (nI i)), (3, .ref (b + 510)), (2, .ref (b + 501)), (1, .ref b), (0, .ref sb)] := lv_sub hl [2, 3, 4, 5, 6] rfl
      exact hN _ _ ls _ _ _ _ _ _ (hG.frq hb0 (nMT_fr hfr6)) hM (TW.mk hmr hmq hG.2.1 hfr6 (fun q h => nMT_ge h) (hcw1.upd (upP_lo (by omega))) hbd.1 (hrl.set b1 hbd.1 hPT) hc0 hm0 ht0 (fun j hj => absurd hj (Nat.not_lt_zero _)) hc7 hm7 hj7) hX hF hl
    · skip
      have hM := (hM.resolve_left (fun h => z9 h.1)).2
      refine lv_istore (lv' := [(6, .int (nI n9)), (5, .int (nI 0)), (4, .int (nI i)), (3, .ref (b + 510)), (2, .ref (b + 501)), (1, .ref b), (0, .ref sb)]) hx hb d_Law_law_551 hl (by decide) rfl (fun ls hl => ?_)
      refine lv_goto (tgt := 1252) hx hb d_Law_law_553 (by decide) ?_
      have hl : lv_has ls 8 [(4, .int (nI i)), (3, .ref (b + 510)), (2, .ref (b + 501)), (1, .ref b), (0, .ref sb)] := lv_sub hl [2, 3, 4, 5, 6] rfl
      exact hN _ _ ls _ _ _ _ _ _ (hG.frq hb0 (nMT_fr hfr6)) hM (TW.mk hmr hmq hG.2.1 hfr6 (fun q h => nMT_ge h) hcw1 hbd.1 hrl hc0 hm0 ht0 (fun j hj => absurd hj (Nat.not_lt_zero _)) hc7 hm7 hj7) hX hF hl
  · skip
    have hM : MVP g (nMT (b + 501)) H2 (b + 501) 1 pn tn wn A := by
      rcases hq6 with ⟨h, -⟩ | ⟨-, h⟩
      · exact absurd h hok
      · exact h
    refine lv_istore (lv' := [(6, .int r6), (5, .int (nI 1)), (4, .int (nI i)), (3, .ref (b + 510)), (2, .ref (b + 501)), (1, .ref b), (0, .ref sb)]) hx hb d_Law_law_551 hl (by decide) rfl (fun ls hl => ?_)
    refine lv_goto (tgt := 1252) hx hb d_Law_law_553 (by decide) ?_
    have hl : lv_has ls 8 [(4, .int (nI i)), (3, .ref (b + 510)), (2, .ref (b + 501)), (1, .ref b), (0, .ref sb)] := lv_sub hl [2, 3, 4, 5, 6] rfl
    exact hN _ _ ls _ _ _ _ _ _ (hG.frq hb0 (nMT_fr hfr6)) hM (TW.mk hmr hmq hG.2.1 hfr6 (fun q h => nMT_ge h) hcw1 hbd.1 hrl hc0 hm0 ht0 hj0 hc7 hm7 hj7) hX hF hl
set_option maxHeartbeats 4000000 in
set_option maxRecDepth 100000 in
theorem k_bytes {p : Program} {l : Launch} {e : Env} {s : State} {m : MethodId} {below : List Frame} {meth : Method} {c : Code} {g : WG} {sb L : Nat} {xs : Nat → Int32} {b : Nat} {mr mq : Int64} {H : Heap} {locs : List Loc} {ls : Array Slot} {th : Int32} {pn tn wn wm i cells slots : Nat} {A : Nat → Int} (E : EV p m c code 8 s #[Value.ref sb] "KateDeskLaw" g) (hr : meth.sig.returnType = ret) (hlk : meth.locks = false) (hb0 : s.heap.size ≤ b) (hsb : sb < s.heap.size) (hxs : XS l s) (hL : L ≤ 3072) (hi : i + 6 ≤ L) (hc : cells + 1 ≤ room_1.cells ∧ slots + 6 ≤ room_1.slots) (hN : LNX p l e s m below meth c g sb L xs b mr mq i (cells + 1) (slots + 6)) (hG : LG g s H b pn tn wn mr mq) (hM : MVP g (nMT (b + 501)) H (b + 501) th pn tn wm A) (hT : TW g H b pn tn wn wm A mr mq) (hX : va_X sb L xs s H) (hF : ∀ q ∈ locs, HXA s q.base) (hl : lv_has ls 8 [(4, .int (nI i)), (3, .ref (b + 510)), (2, .ref (b + 501)), (1, .ref b), (0, .ref sb)]) : W p l e room_1 s m #[Value.ref sb] below meth c H locs cells slots (lw_Z below #[Value.ref sb] s) (F0 m 556 ls []) := by
  have hx := E.1
  have hb := E.2.1
  have hK := E.2.2.2.2.2
  have hw0 := State.WarmedH.refl s
  obtain ⟨⟨hmr, hmq, rfl⟩, ⟨hR0, c0, m0, t0, hc0, hm0, ht0, hj0⟩, ⟨c7, m7, t7, hc7, hm7, hj7⟩, P, V, hcw, hrl⟩ := id hT
  clear hT
  have hbd := hM.2.2.2.2.2.1
  by_cases hzb : xs (i + 2) = 0
  · skip
    refine lv_aload_n hx hb d_Law_law_556 rfl (lv_at hl 3 rfl) ?_
    refine lv_aload_n hx hb d_Law_law_557 rfl (lv_at hl 4 rfl) ?_
    refine lv_iload hx hb d_Law_law_558 (lv_at hl 0 rfl) ?_
    refine lv_iconst (v := nI 1) hx hb d_Law_law_560 (by decide) ?_
    refine lv_iadd hx hb d_Law_law_561 ?_
    refine lv_topi (fun t9 e9 => ?_)
    obtain rfl : t9 = nI (i + 1) := e9.trans (nI_add _ _)
    refine q_xld E hX (i + 1) rfl (by omega) (by omega) d_Law_law_562 ?_
    refine lv_aload_n hx hb d_Law_law_563 rfl (lv_at hl 4 rfl) ?_
    refine lv_iload hx hb d_Law_law_564 (lv_at hl 0 rfl) ?_
    refine lv_iconst (v := nI 2) hx hb d_Law_law_566 (by decide) ?_
    refine lv_iadd hx hb d_Law_law_567 ?_
    refine lv_topi (fun t9 e9 => ?_)
    obtain rfl : t9 = nI (i + 2) := e9.trans (nI_add _ _)
    refine q_xld E hX (i + 2) rfl (by omega) (by omega) d_Law_law_568 ?_
    refine lv_if_eq (tgt := 576) hx hb d_Law_law_569 (by decide) (fun _ => ?_) (fun h9 => absurd (hzb) h9)
    refine lv_iconst (v := nI 0) hx hb d_Law_law_576 (by decide) ?_
    refine q_cSH (rest := []) E hw0 (XH_bytes l g s hxs b pn tn wn mr mq hb0 (xs (i + 1)) (nI 0) hmr hmq A P V) w_733 w_0 w_731 w_732 hd_Law_bytes rfl ⟨by decide, by decide⟩ ⟨hG, hcw⟩ hF hl.1 rfl (Nat.le_of_ble_eq_true rfl) d_Law_law_577 hc (qi (fun r5 H1 locs hq hF => ?_))
    obtain ⟨hq, hfr⟩ := hq
    have hX := hX.kept (hfr sb (Or.inl (Nat.lt_of_lt_of_le hsb hb0)))
    have hM := hM.on (fun q h1 h2 => hfr q (Or.inr (Or.inl ⟨h1, h2⟩)))
    have hm0 : AI g H1 (b + 501 + 6) 96 m0 := AI.eq hm0 (hfr _ (Or.inr (Or.inl ⟨by omega, by omega⟩)))
    have hm7 : AI g H1 (b + 501 + 7) 96 m7 := AI.eq hm7 (hfr _ (Or.inr (Or.inl ⟨by omega, by omega⟩)))
    have hc0 : AB g H1 (b + 149) 96 c0 := hc0.eq (hfr _ (Or.inr (Or.inr rfl)))
    refine lv_istore (lv' := [(5, .int r5), (4, .int (nI i)), (3, .ref (b + 510)), (2, .ref (b + 501)), (1, .ref b), (0, .ref sb)]) hx hb d_Law_law_580 hl (by decide) rfl (fun ls hl => ?_)
    refine lv_aload_n hx hb d_Law_law_582 rfl (lv_at hl 3 rfl) ?_
    refine lv_aload_n hx hb d_Law_law_583 rfl (lv_at hl 5 rfl) ?_
    refine lv_iload hx hb d_Law_law_584 (lv_at hl 1 rfl) ?_
    refine lv_iconst (v := nI 1) hx hb d_Law_law_586 (by decide) ?_
    refine lv_iadd hx hb d_Law_law_587 ?_
    refine lv_topi (fun t9 e9 => ?_)
    obtain rfl : t9 = nI (i + 1) := e9.trans (nI_add _ _)
    refine q_xld E hX (i + 1) rfl (by omega) (by omega) d_Law_law_588 ?_
    refine lv_aload_n hx hb d_Law_law_589 rfl (lv_at hl 5 rfl) ?_
    refine lv_iload hx hb d_Law_law_590 (lv_at hl 1 rfl) ?_
    refine lv_iconst (v := nI 2) hx hb d_Law_law_592 (by decide) ?_
    refine lv_iadd hx hb d_Law_law_593 ?_
    refine lv_topi (fun t9 e9 => ?_)
    obtain rfl : t9 = nI (i + 2) := e9.trans (nI_add _ _)
    refine q_xld E hX (i + 2) rfl (by omega) (by omega) d_Law_law_594 ?_
    refine lv_if_eq (tgt := 602) hx hb d_Law_law_595 (by decide) (fun _ => ?_) (fun h9 => absurd (hzb) h9)
    refine lv_iconst (v := nI 0) hx hb d_Law_law_602 (by decide) ?_
    obtain ⟨w9, n9, hob⟩ := hM.ob
    refine q_cV (rest := []) E ((W_Model_bytes l g (nMB (b + 501)) (b + 501) th pn tn wn A (xs (i + 1)) (nI 0) (nMB_c (by decide)) m7).frV (nMB_up hb0)) w_1183 w_15 w_1180 w_1181 w_1182 hd_Model_bytes rfl ⟨by decide, by decide⟩ (OB.recv E.2.2.2.2.2 (by rfl) hob) (⟨hM.toB, hm7⟩) hF hl.1 rfl (Nat.le_of_ble_eq_true rfl) d_Law_law_603 hc (qv (fun H2 locs hq6 hF => ?_))
    obtain ⟨hq6, hfr6⟩ := hq6
    have hX := hX.kept (hfr6.2 sb hX.lt (nMB_n (nM_lt hb0 hsb)))
    clear hob hM
    have hm0 := ai_B6 hm0 hfr6
    rcases hq with ⟨hok, rfl, k1, n9, tb9, c9, e1, b1, hG, hAB, hTX, hcj, hcw1⟩ | ⟨hok, rfl, hG, hcw1, hfs⟩
    · skip
      obtain ⟨hM, tb8, ft, hft, hj9⟩ : MVP g (nMB (b + 501)) H2 (b + 501) 0 pn tn n9 A ∧ ∃ (tb8 : Nat → Nat) (ft : Nat → Int32), AI g H2 (b + 501 + 7) 96 ft ∧ ∀ j, j < n9 → c9 j &&& 255 = nI (tb8 j) ∧ ft j = nI (tb8 j) := by
        rcases hq6 with ⟨-, j1, f1, b2, n8, tb8, ft, hft, hTX8, hft8, h⟩ | ⟨h, -⟩
        · obtain rfl := ni_un e1 f1 (by omega) (by omega)
          obtain ⟨e9, htb⟩ := hTX.un (hrl.1 k1 b1) hTX8
          subst e9
          exact ⟨h, tb8, ft, hft, fun j hj => ⟨by rw [hcj j hj, htb j hj], hft8 j hj⟩⟩
        · exact absurd hok h
      have hM := hM.toT
      refine lv_goto (tgt := 1252) hx hb d_Law_law_606 (by decide) ?_
      have hl : lv_has ls 8 [(4, .int (nI i)), (3, .ref (b + 510)), (2, .ref (b + 501)), (1, .ref b), (0, .ref sb)] := lv_sub hl [1, 2, 3, 4, 5] rfl
      exact hN _ _ ls _ _ _ _ _ _ (hG.frq hb0 (nMB_fr hfr6)) hM (TW.mk hmr hmq hG.2.1 hfr6 (fun q h => nMB_ge h) hcw1 hbd.1 hrl hc0 hm0 ht0 hj0 hAB hft hj9) hX hF hl
    · skip
      obtain ⟨hM, hm7⟩ : MVP g (nMB (b + 501)) H2 (b + 501) 1 pn tn wn A ∧ AI g H2 (b + 501 + 7) 96 m7 := by
        rcases hq6 with ⟨h, -⟩ | ⟨-, h, h7⟩
        · exact absurd h hok
        · exact ⟨h, h7⟩
      have hM := hM.toT
      refine lv_goto (tgt := 1252) hx hb d_Law_law_606 (by decide) ?_
      have hl : lv_has ls 8 [(4, .int (nI i)), (3, .ref (b + 510)), (2, .ref (b + 501)), (1, .ref b), (0, .ref sb)] := lv_sub hl [1, 2, 3, 4, 5] rfl
      exact hN _ _ ls _ _ _ _ _ _ (hG.frq hb0 (nMB_fr hfr6)) hM (TW.mk hmr hmq hG.2.1 hfr6 (fun q h => nMB_ge h) hcw1 hbd.1 hrl hc0 hm0 ht0 hj0 (hc7.eq (hfs _ (Or.inr (Or.inr (Or.inr rfl))))) hm7 hj7) hX hF hl
  · skip
    refine lv_aload_n hx hb d_Law_law_556 rfl (lv_at hl 3 rfl) ?_
    refine lv_aload_n hx hb d_Law_law_557 rfl (lv_at hl 4 rfl) ?_
    refine lv_iload hx hb d_Law_law_558 (lv_at hl 0 rfl) ?_
    refine lv_iconst (v := nI 1) hx hb d_Law_law_560 (by decide) ?_
    refine lv_iadd hx hb d_Law_law_561 ?_
    refine lv_topi (fun t9 e9 => ?_)
    obtain rfl : t9 = nI (i + 1) := e9.trans (nI_add _ _)
    refine q_xld E hX (i + 1) rfl (by omega) (by omega) d_Law_law_562 ?_
    refine lv_aload_n hx hb d_Law_law_563 rfl (lv_at hl 4 rfl) ?_
    refine lv_iload hx hb d_Law_law_564 (lv_at hl 0 rfl) ?_
    refine lv_iconst (v := nI 2) hx hb d_Law_law_566 (by decide) ?_
    refine lv_iadd hx hb d_Law_law_567 ?_
    refine lv_topi (fun t9 e9 => ?_)
    obtain rfl : t9 = nI (i + 2) := e9.trans (nI_add _ _)
    refine q_xld E hX (i + 2) rfl (by omega) (by omega) d_Law_law_568 ?_
    refine lv_if_eq (tgt := 576) hx hb d_Law_law_569 (by decide) (fun h9 => absurd h9 (hzb)) (fun _ => ?_)
    refine lv_iconst (v := nI 1) hx hb d_Law_law_572 (by decide) ?_
    refine lv_goto (tgt := 577) hx hb d_Law_law_573 (by decide) ?_
    refine q_cSH (rest := []) E hw0 (XH_bytes l g s hxs b pn tn wn mr mq hb0 (xs (i + 1)) (nI 1) hmr hmq A P V) w_733 w_0 w_731 w_732 hd_Law_bytes rfl ⟨by decide, by decide⟩ ⟨hG, hcw⟩ hF hl.1 rfl (Nat.le_of_ble_eq_true rfl) d_Law_law_577 hc (qi (fun r5 H1 locs hq hF => ?_))
    obtain ⟨hq, hfr⟩ := hq
    have hX := hX.kept (hfr sb (Or.inl (Nat.lt_of_lt_of_le hsb hb0)))
    have hM := hM.on (fun q h1 h2 => hfr q (Or.inr (Or.inl ⟨h1, h2⟩)))
    have hm0 : AI g H1 (b + 501 + 6) 96 m0 := AI.eq hm0 (hfr _ (Or.inr (Or.inl ⟨by omega, by omega⟩)))
    have hm7 : AI g H1 (b + 501 + 7) 96 m7 := AI.eq hm7 (hfr _ (Or.inr (Or.inl ⟨by omega, by omega⟩)))
    have hc0 : AB g H1 (b + 149) 96 c0 := hc0.eq (hfr _ (Or.inr (Or.inr rfl)))
    refine lv_istore (lv' := [(5, .int r5), (4, .int (nI i)), (3, .ref (b + 510)), (2, .ref (b + 501)), (1, .ref b), (0, .ref sb)]) hx hb d_Law_law_580 hl (by decide) rfl (fun ls hl => ?_)
    refine lv_aload_n hx hb d_Law_law_582 rfl (lv_at hl 3 rfl) ?_
    refine lv_aload_n hx hb d_Law_law_583 rfl (lv_at hl 5 rfl) ?_
    refine lv_iload hx hb d_Law_law_584 (lv_at hl 1 rfl) ?_
    refine lv_iconst (v := nI 1) hx hb d_Law_law_586 (by decide) ?_
    refine lv_iadd hx hb d_Law_law_587 ?_
    refine lv_topi (fun t9 e9 => ?_)
    obtain rfl : t9 = nI (i + 1) := e9.trans (nI_add _ _)
    refine q_xld E hX (i + 1) rfl (by omega) (by omega) d_Law_law_588 ?_
    refine lv_aload_n hx hb d_Law_law_589 rfl (lv_at hl 5 rfl) ?_
    refine lv_iload hx hb d_Law_law_590 (lv_at hl 1 rfl) ?_
    refine lv_iconst (v := nI 2) hx hb d_Law_law_592 (by decide) ?_
    refine lv_iadd hx hb d_Law_law_593 ?_
    refine lv_topi (fun t9 e9 => ?_)
    obtain rfl : t9 = nI (i + 2) := e9.trans (nI_add _ _)
    refine q_xld E hX (i + 2) rfl (by omega) (by omega) d_Law_law_594 ?_
    refine lv_if_eq (tgt := 602) hx hb d_Law_law_595 (by decide) (fun h9 => absurd h9 (hzb)) (fun _ => ?_)
    refine lv_iconst (v := nI 1) hx hb d_Law_law_598 (by decide) ?_
    refine lv_goto (tgt := 603) hx hb d_Law_law_599 (by decide) ?_
    obtain ⟨w9, n9, hob⟩ := hM.ob
    refine q_cV (rest := []) E ((W_Model_bytes l g (nMB (b + 501)) (b + 501) th pn tn wn A (xs (i + 1)) (nI 1) (nMB_c (by decide)) m7).frV (nMB_up hb0)) w_1183 w_15 w_1180 w_1181 w_1182 hd_Model_bytes rfl ⟨by decide, by decide⟩ (OB.recv E.2.2.2.2.2 (by rfl) hob) (⟨hM.toB, hm7⟩) hF hl.1 rfl (Nat.le_of_ble_eq_true rfl) d_Law_law_603 hc (qv (fun H2 locs hq6 hF => ?_))
    obtain ⟨hq6, hfr6⟩ := hq6
    have hX := hX.kept (hfr6.2 sb hX.lt (nMB_n (nM_lt hb0 hsb)))
    clear hob hM
    have hm0 := ai_B6 hm0 hfr6
    rcases hq with ⟨hok, rfl, k1, n9, tb9, c9, e1, b1, hG, hAB, hTX, hcj, hcw1⟩ | ⟨hok, rfl, hG, hcw1, hfs⟩
    · skip
      obtain ⟨hM, tb8, ft, hft, hj9⟩ : MVP g (nMB (b + 501)) H2 (b + 501) 0 pn tn n9 A ∧ ∃ (tb8 : Nat → Nat) (ft : Nat → Int32), AI g H2 (b + 501 + 7) 96 ft ∧ ∀ j, j < n9 → c9 j &&& 255 = nI (tb8 j) ∧ ft j = nI (tb8 j) := by
        rcases hq6 with ⟨-, j1, f1, b2, n8, tb8, ft, hft, hTX8, hft8, h⟩ | ⟨h, -⟩
        · obtain rfl := ni_un e1 f1 (by omega) (by omega)
          obtain ⟨e9, htb⟩ := hTX.un (hrl.1 k1 b1) hTX8
          subst e9
          exact ⟨h, tb8, ft, hft, fun j hj => ⟨by rw [hcj j hj, htb j hj], hft8 j hj⟩⟩
        · exact absurd hok h
      have hM := hM.toT
      refine lv_goto (tgt := 1252) hx hb d_Law_law_606 (by decide) ?_
      have hl : lv_has ls 8 [(4, .int (nI i)), (3, .ref (b + 510)), (2, .ref (b + 501)), (1, .ref b), (0, .ref sb)] := lv_sub hl [1, 2, 3, 4, 5] rfl
      exact hN _ _ ls _ _ _ _ _ _ (hG.frq hb0 (nMB_fr hfr6)) hM (TW.mk hmr hmq hG.2.1 hfr6 (fun q h => nMB_ge h) hcw1 hbd.1 hrl hc0 hm0 ht0 hj0 hAB hft hj9) hX hF hl
    · skip
      obtain ⟨hM, hm7⟩ : MVP g (nMB (b + 501)) H2 (b + 501) 1 pn tn wn A ∧ AI g H2 (b + 501 + 7) 96 m7 := by
        rcases hq6 with ⟨h, -⟩ | ⟨-, h, h7⟩
        · exact absurd h hok
        · exact ⟨h, h7⟩
      have hM := hM.toT
      refine lv_goto (tgt := 1252) hx hb d_Law_law_606 (by decide) ?_
      have hl : lv_has ls 8 [(4, .int (nI i)), (3, .ref (b + 510)), (2, .ref (b + 501)), (1, .ref b), (0, .ref sb)] := lv_sub hl [1, 2, 3, 4, 5] rfl
      exact hN _ _ ls _ _ _ _ _ _ (hG.frq hb0 (nMB_fr hfr6)) hM (TW.mk hmr hmq hG.2.1 hfr6 (fun q h => nMB_ge h) hcw1 hbd.1 hrl hc0 hm0 ht0 hj0 (hc7.eq (hfs _ (Or.inr (Or.inr (Or.inr rfl))))) hm7 hj7) hX hF hl
set_option maxHeartbeats 4000000 in
set_option maxRecDepth 100000 in
theorem k_out {p : Program} {l : Launch} {e : Env} {s : State} {m : MethodId} {below : List Frame} {meth : Method} {c : Code} {g : WG} {sb L : Nat} {xs : Nat → Int32} {b : Nat} {mr mq : Int64} {H : Heap} {locs : List Loc} {ls : Array Slot} {th : Int32} {pn tn wn wm i cells slots : Nat} {A : Nat → Int} (E : EV p m c code 8 s #[Value.ref sb] "KateDeskLaw" g) (hr : meth.sig.returnType = ret) (hlk : meth.locks = false) (hb0 : s.heap.size ≤ b) (hsb : sb < s.heap.size) (hxs : XS l s) (hL : L ≤ 3072) (hi : i + 6 ≤ L) (hc : cells + 1 ≤ room_1.cells ∧ slots + 6 ≤ room_1.slots) (hN : LNX p l e s m below meth c g sb L xs b mr mq i (cells + 1) (slots + 6)) (hG : LG g s H b pn tn wn mr mq) (hM : MVP g (nMT (b + 501)) H (b + 501) th pn tn wm A) (hT : TW g H b pn tn wn wm A mr mq) (hX : va_X sb L xs s H) (hF : ∀ q ∈ locs, HXA s q.base) (hl : lv_has ls 8 [(4, .int (nI i)), (3, .ref (b + 510)), (2, .ref (b + 501)), (1, .ref b), (0, .ref sb)]) : W p l e room_1 s m #[Value.ref sb] below meth c H locs cells slots (lw_Z below #[Value.ref sb] s) (F0 m 609 ls []) := by
  have hx := E.1
  have hb := E.2.1
  have hK := E.2.2.2.2.2
  have hw0 := State.WarmedH.refl s
  obtain ⟨⟨hmr, hmq, rfl⟩, ⟨hR0, c0, m0, t0, hc0, hm0, ht0, hj0⟩, ⟨c7, m7, t7, hc7, hm7, hj7⟩, P, V, hcw, hrl⟩ := id hT
  clear hT
  have hbd := hM.2.2.2.2.2.1
  refine lv_aload_n hx hb d_Law_law_609 rfl (lv_at hl 3 rfl) ?_
  refine lv_aload_n hx hb d_Law_law_610 rfl (lv_at hl 4 rfl) ?_
  refine lv_iload hx hb d_Law_law_611 (lv_at hl 0 rfl) ?_
  refine lv_iconst (v := nI 1) hx hb d_Law_law_613 (by decide) ?_
  refine lv_iadd hx hb d_Law_law_614 ?_
  refine lv_topi (fun t9 e9 => ?_)
  obtain rfl : t9 = nI (i + 1) := e9.trans (nI_add _ _)
  refine q_xld E hX (i + 1) rfl (by omega) (by omega) d_Law_law_615 ?_
  refine lv_aload_n hx hb d_Law_law_616 rfl (lv_at hl 1 rfl) ?_
  refine q_cSH (rest := []) E hw0 (XH_out l g s hxs b pn tn wn mr mq hb0 (xs (i + 1)) hmr hmq A P V c7 t7 (fun j hj => (hj7 j hj).1)) w_751 w_0 w_749 w_750 hd_Law_out rfl ⟨by decide, by decide⟩ ⟨hG, hcw, hc7⟩ hF hl.1 rfl (Nat.le_of_ble_eq_true rfl) d_Law_law_617 hc (qi (fun r5 H1 locs hq hF => ?_))
  obtain ⟨hq, hfr⟩ := hq
  have hX := hX.kept (hfr sb (Or.inl (Nat.lt_of_lt_of_le hsb hb0)))
  have hM := hM.on (fun q h1 h2 => hfr q (Or.inr (Or.inl ⟨h1, h2⟩)))
  have hm0 : AI g H1 (b + 501 + 6) 96 m0 := AI.eq hm0 (hfr _ (Or.inr (Or.inl ⟨by omega, by omega⟩)))
  have hm7 : AI g H1 (b + 501 + 7) 96 m7 := AI.eq hm7 (hfr _ (Or.inr (Or.inl ⟨by omega, by omega⟩)))
  have hc0 : AB g H1 (b + 149) 96 c0 := hc0.eq (hfr _ (Or.inr (Or.inr (Or.inl rfl))))
  have hc7 : AB g H1 (b + 151) 96 c7 := hc7.eq (hfr _ (Or.inr (Or.inr (Or.inr rfl))))
  refine lv_istore (lv' := [(5, .int r5), (4, .int (nI i)), (3, .ref (b + 510)), (2, .ref (b + 501)), (1, .ref b), (0, .ref sb)]) hx hb d_Law_law_620 hl (by decide) rfl (fun ls hl => ?_)
  refine lv_aload_n hx hb d_Law_law_622 rfl (lv_at hl 3 rfl) ?_
  refine lv_aload_n hx hb d_Law_law_623 rfl (lv_at hl 5 rfl) ?_
  refine lv_iload hx hb d_Law_law_624 (lv_at hl 1 rfl) ?_
  refine lv_iconst (v := nI 1) hx hb d_Law_law_626 (by decide) ?_
  refine lv_iadd hx hb d_Law_law_627 ?_
  refine lv_topi (fun t9 e9 => ?_)
  obtain rfl : t9 = nI (i + 1) := e9.trans (nI_add _ _)
  refine q_xld E hX (i + 1) rfl (by omega) (by omega) d_Law_law_628 ?_
  obtain ⟨w9, n9, hob⟩ := hM.ob
  refine q_cV (rest := []) E ((W_Model_out l g (nMT (b + 501)) (b + 501) th pn tn wn A (xs (i + 1)) m7 t7 (fun j hj => (hj7 j hj).2)).frL (nMT_up hb0)) w_1191 w_15 w_1188 w_1189 w_1190 hd_Model_out rfl ⟨by decide, by decide⟩ (OB.recv E.2.2.2.2.2 (by rfl) hob) (⟨hM, hm7⟩) hF hl.1 rfl (Nat.le_of_ble_eq_true rfl) d_Law_law_629 hc (ql (fun r6 H2 locs hq6 hF => ?_))
  obtain ⟨hq6, hfr6⟩ := hq6
  have hX := hX.kept (hfr6.2 sb hX.lt (nMT_n (nM_lt hb0 hsb)))
  clear hob hM
  have hm7 := ai_T7 hm7 hfr6
  have hm0 := ai_T6 hm0 hfr6
  rcases hq with ⟨hok, rfl, hG, hcw1, k1, e1, b1, hA⟩ | ⟨hok, rfl, hG, hcw1⟩
  · skip
    obtain ⟨hM, h69⟩ : MVP g (nMT (b + 501)) H2 (b + 501) 0 pn tn wn A ∧ r6 = OU9 t7 k1 wn 8 := by
      rcases hq6 with ⟨-, j1, f1, b2, hr8, h⟩ | ⟨h, -⟩
      · obtain rfl := ni_un e1 f1 (by omega) (by omega)
        exact ⟨h, hr8⟩
      · exact absurd (out_ok hbd.2.2 e1 b1) h
    subst h69
    refine lv_lstore (lv' := [(6, .long (OU9 t7 k1 wn 8)), (5, .int (nI 0)), (4, .int (nI i)), (3, .ref (b + 510)), (2, .ref (b + 501)), (1, .ref b), (0, .ref sb)]) hx hb d_Law_law_632 hl (by decide) rfl (fun ls hl => ?_)
    refine lv_aload_n hx hb d_Law_law_634 rfl (lv_at hl 4 rfl) ?_
    obtain ⟨w9, n9, hob⟩ := hM.ob
    refine q_cV (rest := []) E ((c_Model_thrown l g (nMT (b + 501)) (b + 501) 0).up (nMT_up hb0)) w_1048 w_15 w_1045 w_1046 w_1047 hd_Model_thrown rfl ⟨by decide, by decide⟩ (OB.recv E.2.2.2.2.2 (by rfl) hob) hM.th hF hl.1 rfl (Nat.le_of_ble_eq_true rfl) d_Law_law_635 hc (qi (fun r7 H3 locs hq7 hF => ?_))
    obtain ⟨rfl, hH7⟩ := hq7
    have hH7 := hH7.symm
    subst hH7
    refine lv_iload hx hb d_Law_law_638 (lv_at hl 1 rfl) ?_
    refine lv_icmp_eq (tgt := 645) hx hb d_Law_law_640 (by decide) (fun _ => ?_) (fun h9 => absurd (rfl) h9)
    refine lv_iload hx hb d_Law_law_645 (lv_at hl 1 rfl) ?_
    refine lv_if_ne (tgt := 661) hx hb d_Law_law_647 (by decide) (fun h9 => absurd (rfl) h9) (fun _ => ?_)
    refine lv_aload_n hx hb d_Law_law_650 rfl (lv_at hl 3 rfl) ?_
    refine lv_iconst (v := nI 0) hx hb d_Law_law_651 (by decide) ?_
    refine q_lald (N := 1) (f := (fun _ => (OU9 t7 k1 wn 8))) E (hA.eq (hfr6.2 (b + 510) hA.lt (nMT_n nM_510))) 0 rfl (by decide) (by decide) d_Law_law_652 ?_
    refine lv_lload hx hb d_Law_law_653 (lv_at hl 0 rfl) ?_
    refine W.lcmp hx hb d_Law_law_655 ?_
    refine lv_if_eq (tgt := 661) hx hb d_Law_law_656 (by decide) (fun _ => ?_) (fun h9 => absurd (l2i_eq rfl) h9)
    refine lv_goto (tgt := 1252) hx hb d_Law_law_661 (by decide) ?_
    have hl : lv_has ls 8 [(4, .int (nI i)), (3, .ref (b + 510)), (2, .ref (b + 501)), (1, .ref b), (0, .ref sb)] := lv_sub hl [2, 3, 4, 5, 6] rfl
    exact hN _ _ ls _ _ _ _ _ _ (hG.frq hb0 (nMT_fr hfr6)) hM (TW.mk hmr hmq hG.2.1 hfr6 (fun q h => nMT_ge h) hcw1 hbd.1 hrl hc0 hm0 ht0 hj0 hc7 hm7 hj7) hX hF hl
  · skip
    have hM : MVP g (nMT (b + 501)) H2 (b + 501) 1 pn tn wn A := by
      rcases hq6 with ⟨-, j1, f1, b2, -, -⟩ | ⟨-, h⟩
      · exact absurd (out_no f1 b2 hbd.2.2) hok
      · exact h
    refine lv_lstore (lv' := [(6, .long r6), (5, .int (nI 1)), (4, .int (nI i)), (3, .ref (b + 510)), (2, .ref (b + 501)), (1, .ref b), (0, .ref sb)]) hx hb d_Law_law_632 hl (by decide) rfl (fun ls hl => ?_)
    refine lv_aload_n hx hb d_Law_law_634 rfl (lv_at hl 4 rfl) ?_
    obtain ⟨w9, n9, hob⟩ := hM.ob
    refine q_cV (rest := []) E ((c_Model_thrown l g (nMT (b + 501)) (b + 501) 1).up (nMT_up hb0)) w_1048 w_15 w_1045 w_1046 w_1047 hd_Model_thrown rfl ⟨by decide, by decide⟩ (OB.recv E.2.2.2.2.2 (by rfl) hob) hM.th hF hl.1 rfl (Nat.le_of_ble_eq_true rfl) d_Law_law_635 hc (qi (fun r7 H3 locs hq7 hF => ?_))
    obtain ⟨rfl, hH7⟩ := hq7
    have hH7 := hH7.symm
    subst hH7
    refine lv_iload hx hb d_Law_law_638 (lv_at hl 1 rfl) ?_
    refine lv_icmp_eq (tgt := 645) hx hb d_Law_law_640 (by decide) (fun _ => ?_) (fun h9 => absurd (rfl) h9)
    refine lv_iload hx hb d_Law_law_645 (lv_at hl 1 rfl) ?_
    refine lv_if_ne (tgt := 661) hx hb d_Law_law_647 (by decide) (fun _ => ?_) (fun h9 => absurd h9 (by decide))
    refine lv_goto (tgt := 1252) hx hb d_Law_law_661 (by decide) ?_
    have hl : lv_has ls 8 [(4, .int (nI i)), (3, .ref (b + 510)), (2, .ref (b + 501)), (1, .ref b), (0, .ref sb)] := lv_sub hl [2, 3, 4, 5, 6] rfl
    exact hN _ _ ls _ _ _ _ _ _ (hG.frq hb0 (nMT_fr hfr6)) hM (TW.mk hmr hmq hG.2.1 hfr6 (fun q h => nMT_ge h) hcw1 hbd.1 hrl hc0 hm0 ht0 hj0 hc7 hm7 hj7) hX hF hl
set_option maxHeartbeats 4000000 in
set_option maxRecDepth 100000 in
theorem k_join {p : Program} {l : Launch} {e : Env} {s : State} {m : MethodId} {below : List Frame} {meth : Method} {c : Code} {g : WG} {sb L : Nat} {xs : Nat → Int32} {b : Nat} {mr mq : Int64} {H : Heap} {locs : List Loc} {ls : Array Slot} {th : Int32} {pn tn wn wm i cells slots : Nat} {A : Nat → Int} (E : EV p m c code 8 s #[Value.ref sb] "KateDeskLaw" g) (hr : meth.sig.returnType = ret) (hlk : meth.locks = false) (hb0 : s.heap.size ≤ b) (hsb : sb < s.heap.size) (hxs : XS l s) (hL : L ≤ 3072) (hi : i + 6 ≤ L) (hc : cells + 1 ≤ room_1.cells ∧ slots + 6 ≤ room_1.slots) (hN : LNX p l e s m below meth c g sb L xs b mr mq i (cells + 1) (slots + 6)) (hG : LG g s H b pn tn wn mr mq) (hM : MVP g (nMT (b + 501)) H (b + 501) th pn tn wm A) (hT : TW g H b pn tn wn wm A mr mq) (hX : va_X sb L xs s H) (hF : ∀ q ∈ locs, HXA s q.base) (hl : lv_has ls 8 [(4, .int (nI i)), (3, .ref (b + 510)), (2, .ref (b + 501)), (1, .ref b), (0, .ref sb)]) : W p l e room_1 s m #[Value.ref sb] below meth c H locs cells slots (lw_Z below #[Value.ref sb] s) (F0 m 664 ls []) := by
  have hx := E.1
  have hb := E.2.1
  have hK := E.2.2.2.2.2
  have hw0 := State.WarmedH.refl s
  obtain ⟨⟨hmr, hmq, rfl⟩, ⟨hR0, c0, m0, t0, hc0, hm0, ht0, hj0⟩, ⟨c7, m7, t7, hc7, hm7, hj7⟩, P, V, hcw, hrl⟩ := id hT
  clear hT
  have hbd := hM.2.2.2.2.2.1
  refine lv_aload_n hx hb d_Law_law_664 rfl (lv_at hl 3 rfl) ?_
  refine lv_aload_n hx hb d_Law_law_665 rfl (lv_at hl 4 rfl) ?_
  refine lv_iload hx hb d_Law_law_666 (lv_at hl 0 rfl) ?_
  refine lv_iconst (v := nI 1) hx hb d_Law_law_668 (by decide) ?_
  refine lv_iadd hx hb d_Law_law_669 ?_
  refine lv_topi (fun t9 e9 => ?_)
  obtain rfl : t9 = nI (i + 1) := e9.trans (nI_add _ _)
  refine q_xld E hX (i + 1) rfl (by omega) (by omega) d_Law_law_670 ?_
  refine lv_aload_n hx hb d_Law_law_671 rfl (lv_at hl 4 rfl) ?_
  refine lv_iload hx hb d_Law_law_672 (lv_at hl 0 rfl) ?_
  refine lv_iconst (v := nI 2) hx hb d_Law_law_674 (by decide) ?_
  refine lv_iadd hx hb d_Law_law_675 ?_
  refine lv_topi (fun t9 e9 => ?_)
  obtain rfl : t9 = nI (i + 2) := e9.trans (nI_add _ _)
  refine q_xld E hX (i + 2) rfl (by omega) (by omega) d_Law_law_676 ?_
  refine lv_aload_n hx hb d_Law_law_677 rfl (lv_at hl 4 rfl) ?_
  refine lv_iload hx hb d_Law_law_678 (lv_at hl 0 rfl) ?_
  refine lv_iconst (v := nI 3) hx hb d_Law_law_680 (by decide) ?_
  refine lv_iadd hx hb d_Law_law_681 ?_
  refine lv_topi (fun t9 e9 => ?_)
  obtain rfl : t9 = nI (i + 3) := e9.trans (nI_add _ _)
  refine q_xld E hX (i + 3) rfl (by omega) (by omega) d_Law_law_682 ?_
  refine lv_aload_n hx hb d_Law_law_683 rfl (lv_at hl 4 rfl) ?_
  refine lv_iload hx hb d_Law_law_684 (lv_at hl 0 rfl) ?_
  refine lv_iconst (v := nI 4) hx hb d_Law_law_686 (by decide) ?_
  refine lv_iadd hx hb d_Law_law_687 ?_
  refine lv_topi (fun t9 e9 => ?_)
  obtain rfl : t9 = nI (i + 4) := e9.trans (nI_add _ _)
  refine q_xld E hX (i + 4) rfl (by omega) (by omega) d_Law_law_688 ?_
  refine q_cSH (rest := []) E hw0 (XH_join l g s hxs b pn tn wn mr mq hb0 (xs (i + 1)) (xs (i + 2)) (xs (i + 3)) (xs (i + 4)) hmr hmq A P V) w_775 w_0 w_773 w_774 hd_Law_join rfl ⟨by decide, by decide⟩ ⟨hG, hcw⟩ hF hl.1 rfl (Nat.le_of_ble_eq_true rfl) d_Law_law_689 hc (qi (fun r5 H1 locs hq hF => ?_))
  obtain ⟨hq, hfr⟩ := hq
  have hX := hX.kept (hfr sb (Or.inl (Nat.lt_of_lt_of_le hsb hb0)))
  have hM := hM.on (fun q h1 h2 => hfr q (Or.inr (Or.inl ⟨h1, h2⟩)))
  have hm0 : AI g H1 (b + 501 + 6) 96 m0 := AI.eq hm0 (hfr _ (Or.inr (Or.inl ⟨by omega, by omega⟩)))
  have hm7 : AI g H1 (b + 501 + 7) 96 m7 := AI.eq hm7 (hfr _ (Or.inr (Or.inl ⟨by omega, by omega⟩)))
  have hA9 := hrl.hon hcw
  have hc0 : AB g H1 (b + 149) 96 c0 := hc0.eq (hfr _ (Or.inr (Or.inr (Or.inl rfl))))
  have hc7 : AB g H1 (b + 151) 96 c7 := hc7.eq (hfr _ (Or.inr (Or.inr (Or.inr rfl))))
  refine lv_istore (lv' := [(5, .int r5), (4, .int (nI i)), (3, .ref (b + 510)), (2, .ref (b + 501)), (1, .ref b), (0, .ref sb)]) hx hb d_Law_law_692 hl (by decide) rfl (fun ls hl => ?_)
  refine lv_aload_n hx hb d_Law_law_694 rfl (lv_at hl 3 rfl) ?_
  refine lv_aload_n hx hb d_Law_law_695 rfl (lv_at hl 5 rfl) ?_
  refine lv_iload hx hb d_Law_law_696 (lv_at hl 1 rfl) ?_
  refine lv_iconst (v := nI 1) hx hb d_Law_law_698 (by decide) ?_
  refine lv_iadd hx hb d_Law_law_699 ?_
  refine lv_topi (fun t9 e9 => ?_)
  obtain rfl : t9 = nI (i + 1) := e9.trans (nI_add _ _)
  refine q_xld E hX (i + 1) rfl (by omega) (by omega) d_Law_law_700 ?_
  refine lv_aload_n hx hb d_Law_law_701 rfl (lv_at hl 5 rfl) ?_
  refine lv_iload hx hb d_Law_law_702 (lv_at hl 1 rfl) ?_
  refine lv_iconst (v := nI 2) hx hb d_Law_law_704 (by decide) ?_
  refine lv_iadd hx hb d_Law_law_705 ?_
  refine lv_topi (fun t9 e9 => ?_)
  obtain rfl : t9 = nI (i + 2) := e9.trans (nI_add _ _)
  refine q_xld E hX (i + 2) rfl (by omega) (by omega) d_Law_law_706 ?_
  refine lv_aload_n hx hb d_Law_law_707 rfl (lv_at hl 5 rfl) ?_
  refine lv_iload hx hb d_Law_law_708 (lv_at hl 1 rfl) ?_
  refine lv_iconst (v := nI 3) hx hb d_Law_law_710 (by decide) ?_
  refine lv_iadd hx hb d_Law_law_711 ?_
  refine lv_topi (fun t9 e9 => ?_)
  obtain rfl : t9 = nI (i + 3) := e9.trans (nI_add _ _)
  refine q_xld E hX (i + 3) rfl (by omega) (by omega) d_Law_law_712 ?_
  refine lv_aload_n hx hb d_Law_law_713 rfl (lv_at hl 5 rfl) ?_
  refine lv_iload hx hb d_Law_law_714 (lv_at hl 1 rfl) ?_
  refine lv_iconst (v := nI 4) hx hb d_Law_law_716 (by decide) ?_
  refine lv_iadd hx hb d_Law_law_717 ?_
  refine lv_topi (fun t9 e9 => ?_)
  obtain rfl : t9 = nI (i + 4) := e9.trans (nI_add _ _)
  refine q_xld E hX (i + 4) rfl (by omega) (by omega) d_Law_law_718 ?_
  obtain ⟨w9, n9, hob⟩ := hM.ob
  refine q_cV (rest := []) E ((W_Model_join l g (nMT (b + 501)) (b + 501) th pn tn wn A (xs (i + 1)) (xs (i + 2)) (xs (i + 3)) (xs (i + 4)) hA9).frV (nMT_up hb0)) w_1195 w_15 w_1192 w_1193 w_1194 hd_Model_join rfl ⟨by decide, by decide⟩ (OB.recv E.2.2.2.2.2 (by rfl) hob) hM hF hl.1 rfl (Nat.le_of_ble_eq_true rfl) d_Law_law_719 hc (qv (fun H2 locs hq6 hF => ?_))
  obtain ⟨hq6, hfr6⟩ := hq6
  have hX := hX.kept (hfr6.2 sb hX.lt (nMT_n (nM_lt hb0 hsb)))
  clear hob hM
  have hm7 := ai_T7 hm7 hfr6
  have hm0 := ai_T6 hm0 hfr6
  rcases hq with ⟨hok, rfl, hG, k1, k2, k3, k4, T, e1, e2, e3, e4, hbn, hT9, hcw1⟩ | ⟨hok, rfl, hG, hcw1⟩
  · skip
    obtain ⟨T', hM, hPT⟩ : ∃ T', MVP g (nMT (b + 501)) H2 (b + 501) 0 pn tn wn (updP A (32 + 3 * k2) T') ∧ PE T T' := by
      rcases hq6 with ⟨-, j1, j2, j3, j4, f1, f2, f3, f4, b1, b2, b3, b4, T', hT8, h⟩ | ⟨h, -⟩
      · obtain rfl := ni_un e1 f1 (by omega) (by omega)
        obtain rfl := ni_un e2 f2 (by omega) (by omega)
        obtain rfl := ni_un e3 f3 (by omega) (by omega)
        obtain rfl := ni_un e4 f4 (by omega) (by omega)
        exact ⟨T', h, jn_un hrl.2.2 hT9 hT8 (hrl.1 k3 b3) (hrl.1 k4 b4)⟩
      · exact absurd hok h
    refine lv_goto (tgt := 1252) hx hb d_Law_law_722 (by decide) ?_
    have hl : lv_has ls 8 [(4, .int (nI i)), (3, .ref (b + 510)), (2, .ref (b + 501)), (1, .ref b), (0, .ref sb)] := lv_sub hl [1, 2, 3, 4, 5] rfl
    exact hN _ _ ls _ _ _ _ _ _ (hG.frq hb0 (nMT_fr hfr6)) hM (TW.mk hmr hmq hG.2.1 hfr6 (fun q h => nMT_ge h) (hcw1.upd (upP_lo (by omega))) hbd.1 (hrl.set hbn.2.1 hbd.1 hPT) hc0 hm0 ht0 hj0 hc7 hm7 hj7) hX hF hl
  · skip
    have hM : MVP g (nMT (b + 501)) H2 (b + 501) 1 pn tn wn A := by
      rcases hq6 with ⟨h, -⟩ | ⟨-, h⟩
      · exact absurd h hok
      · exact h
    refine lv_goto (tgt := 1252) hx hb d_Law_law_722 (by decide) ?_
    have hl : lv_has ls 8 [(4, .int (nI i)), (3, .ref (b + 510)), (2, .ref (b + 501)), (1, .ref b), (0, .ref sb)] := lv_sub hl [1, 2, 3, 4, 5] rfl
    exact hN _ _ ls _ _ _ _ _ _ (hG.frq hb0 (nMT_fr hfr6)) hM (TW.mk hmr hmq hG.2.1 hfr6 (fun q h => nMT_ge h) hcw1 hbd.1 hrl hc0 hm0 ht0 hj0 hc7 hm7 hj7) hX hF hl
set_option maxHeartbeats 4000000 in
set_option maxRecDepth 100000 in
theorem k_times {p : Program} {l : Launch} {e : Env} {s : State} {m : MethodId} {below : List Frame} {meth : Method} {c : Code} {g : WG} {sb L : Nat} {xs : Nat → Int32} {b : Nat} {mr mq : Int64} {H : Heap} {locs : List Loc} {ls : Array Slot} {th : Int32} {pn tn wn wm i cells slots : Nat} {A : Nat → Int} (E : EV p m c code 8 s #[Value.ref sb] "KateDeskLaw" g) (hr : meth.sig.returnType = ret) (hlk : meth.locks = false) (hb0 : s.heap.size ≤ b) (hsb : sb < s.heap.size) (hxs : XS l s) (hL : L ≤ 3072) (hi : i + 6 ≤ L) (hc : cells + 1 ≤ room_1.cells ∧ slots + 6 ≤ room_1.slots) (hN : LNX p l e s m below meth c g sb L xs b mr mq i (cells + 1) (slots + 6)) (hG : LG g s H b pn tn wn mr mq) (hM : MVP g (nMT (b + 501)) H (b + 501) th pn tn wm A) (hT : TW g H b pn tn wn wm A mr mq) (hX : va_X sb L xs s H) (hF : ∀ q ∈ locs, HXA s q.base) (hl : lv_has ls 8 [(4, .int (nI i)), (3, .ref (b + 510)), (2, .ref (b + 501)), (1, .ref b), (0, .ref sb)]) : W p l e room_1 s m #[Value.ref sb] below meth c H locs cells slots (lw_Z below #[Value.ref sb] s) (F0 m 725 ls []) := by
  have hx := E.1
  have hb := E.2.1
  have hK := E.2.2.2.2.2
  have hw0 := State.WarmedH.refl s
  obtain ⟨⟨hmr, hmq, rfl⟩, ⟨hR0, c0, m0, t0, hc0, hm0, ht0, hj0⟩, ⟨c7, m7, t7, hc7, hm7, hj7⟩, P, V, hcw, hrl⟩ := id hT
  clear hT
  have hbd := hM.2.2.2.2.2.1
  refine lv_aload_n hx hb d_Law_law_725 rfl (lv_at hl 3 rfl) ?_
  refine lv_aload_n hx hb d_Law_law_726 rfl (lv_at hl 4 rfl) ?_
  refine lv_iload hx hb d_Law_law_727 (lv_at hl 0 rfl) ?_
  refine lv_iconst (v := nI 1) hx hb d_Law_law_729 (by decide) ?_
  refine lv_iadd hx hb d_Law_law_730 ?_
  refine lv_topi (fun t9 e9 => ?_)
  obtain rfl : t9 = nI (i + 1) := e9.trans (nI_add _ _)
  refine q_xld E hX (i + 1) rfl (by omega) (by omega) d_Law_law_731 ?_
  refine lv_aload_n hx hb d_Law_law_732 rfl (lv_at hl 4 rfl) ?_
  refine lv_iload hx hb d_Law_law_733 (lv_at hl 0 rfl) ?_
  refine lv_iconst (v := nI 2) hx hb d_Law_law_735 (by decide) ?_
  refine lv_iadd hx hb d_Law_law_736 ?_
  refine lv_topi (fun t9 e9 => ?_)
  obtain rfl : t9 = nI (i + 2) := e9.trans (nI_add _ _)
  refine q_xld E hX (i + 2) rfl (by omega) (by omega) d_Law_law_737 ?_
  refine lv_aload_n hx hb d_Law_law_738 rfl (lv_at hl 4 rfl) ?_
  refine lv_iload hx hb d_Law_law_739 (lv_at hl 0 rfl) ?_
  refine lv_iconst (v := nI 3) hx hb d_Law_law_741 (by decide) ?_
  refine lv_iadd hx hb d_Law_law_742 ?_
  refine lv_topi (fun t9 e9 => ?_)
  obtain rfl : t9 = nI (i + 3) := e9.trans (nI_add _ _)
  refine q_xld E hX (i + 3) rfl (by omega) (by omega) d_Law_law_743 ?_
  refine q_cSH (rest := []) E hw0 (XH_times l g s hxs b pn tn wn mr mq hb0 (xs (i + 1)) (xs (i + 2)) (xs (i + 3)) hmr hmq A P V) w_784 w_0 w_782 w_783 hd_Law_times rfl ⟨by decide, by decide⟩ ⟨hG, hcw⟩ hF hl.1 rfl (Nat.le_of_ble_eq_true rfl) d_Law_law_744 hc (qi (fun r5 H1 locs hq hF => ?_))
  obtain ⟨hq, hfr⟩ := hq
  have hX := hX.kept (hfr sb (Or.inl (Nat.lt_of_lt_of_le hsb hb0)))
  have hM := hM.on (fun q h1 h2 => hfr q (Or.inr (Or.inl ⟨h1, h2⟩)))
  have hm0 : AI g H1 (b + 501 + 6) 96 m0 := AI.eq hm0 (hfr _ (Or.inr (Or.inl ⟨by omega, by omega⟩)))
  have hm7 : AI g H1 (b + 501 + 7) 96 m7 := AI.eq hm7 (hfr _ (Or.inr (Or.inl ⟨by omega, by omega⟩)))
  have hA9 := hrl.hon hcw
  have hc0 : AB g H1 (b + 149) 96 c0 := hc0.eq (hfr _ (Or.inr (Or.inr (Or.inl rfl))))
  have hc7 : AB g H1 (b + 151) 96 c7 := hc7.eq (hfr _ (Or.inr (Or.inr (Or.inr rfl))))
  refine lv_istore (lv' := [(5, .int r5), (4, .int (nI i)), (3, .ref (b + 510)), (2, .ref (b + 501)), (1, .ref b), (0, .ref sb)]) hx hb d_Law_law_747 hl (by decide) rfl (fun ls hl => ?_)
  refine lv_aload_n hx hb d_Law_law_749 rfl (lv_at hl 3 rfl) ?_
  refine lv_aload_n hx hb d_Law_law_750 rfl (lv_at hl 5 rfl) ?_
  refine lv_iload hx hb d_Law_law_751 (lv_at hl 1 rfl) ?_
  refine lv_iconst (v := nI 1) hx hb d_Law_law_753 (by decide) ?_
  refine lv_iadd hx hb d_Law_law_754 ?_
  refine lv_topi (fun t9 e9 => ?_)
  obtain rfl : t9 = nI (i + 1) := e9.trans (nI_add _ _)
  refine q_xld E hX (i + 1) rfl (by omega) (by omega) d_Law_law_755 ?_
  refine lv_aload_n hx hb d_Law_law_756 rfl (lv_at hl 5 rfl) ?_
  refine lv_iload hx hb d_Law_law_757 (lv_at hl 1 rfl) ?_
  refine lv_iconst (v := nI 2) hx hb d_Law_law_759 (by decide) ?_
  refine lv_iadd hx hb d_Law_law_760 ?_
  refine lv_topi (fun t9 e9 => ?_)
  obtain rfl : t9 = nI (i + 2) := e9.trans (nI_add _ _)
  refine q_xld E hX (i + 2) rfl (by omega) (by omega) d_Law_law_761 ?_
  refine lv_aload_n hx hb d_Law_law_762 rfl (lv_at hl 5 rfl) ?_
  refine lv_iload hx hb d_Law_law_763 (lv_at hl 1 rfl) ?_
  refine lv_iconst (v := nI 3) hx hb d_Law_law_765 (by decide) ?_
  refine lv_iadd hx hb d_Law_law_766 ?_
  refine lv_topi (fun t9 e9 => ?_)
  obtain rfl : t9 = nI (i + 3) := e9.trans (nI_add _ _)
  refine q_xld E hX (i + 3) rfl (by omega) (by omega) d_Law_law_767 ?_
  obtain ⟨w9, n9, hob⟩ := hM.ob
  refine q_cV (rest := []) E ((W_Model_times l g (nMT (b + 501)) (b + 501) th pn tn wn A (xs (i + 1)) (xs (i + 2)) (xs (i + 3)) hA9).frV (nMT_up hb0)) w_1199 w_15 w_1196 w_1197 w_1198 hd_Model_times rfl ⟨by decide, by decide⟩ (OB.recv E.2.2.2.2.2 (by rfl) hob) hM hF hl.1 rfl (Nat.le_of_ble_eq_true rfl) d_Law_law_768 hc (qv (fun H2 locs hq6 hF => ?_))
  obtain ⟨hq6, hfr6⟩ := hq6
  have hX := hX.kept (hfr6.2 sb hX.lt (nMT_n (nM_lt hb0 hsb)))
  clear hob hM
  have hm7 := ai_T7 hm7 hfr6
  have hm0 := ai_T6 hm0 hfr6
  rcases hq with ⟨hok, rfl, hG, k1, k2, k3, T, e1, e2, e3, hbn, hT9, hcw1⟩ | ⟨hok, rfl, hG, hcw1⟩
  · skip
    obtain ⟨T', hM, hPT⟩ : ∃ T', MVP g (nMT (b + 501)) H2 (b + 501) 0 pn tn wn (updP A (32 + 3 * k1) T') ∧ PE T T' := by
      rcases hq6 with ⟨-, j1, j2, j3, f1, f2, f3, b1, b2, b3, T', hT8, h⟩ | ⟨h, -⟩
      · obtain rfl := ni_un e1 f1 (by omega) (by omega)
        obtain rfl := ni_un e2 f2 (by omega) (by omega)
        obtain rfl := ni_un e3 f3 (by omega) (by omega)
        exact ⟨T', h, RP.un2 (hA9 k3 b3) hT9 hT8 (hrl.1 k3 b3)⟩
      · exact absurd hok h
    refine lv_goto (tgt := 1252) hx hb d_Law_law_771 (by decide) ?_
    have hl : lv_has ls 8 [(4, .int (nI i)), (3, .ref (b + 510)), (2, .ref (b + 501)), (1, .ref b), (0, .ref sb)] := lv_sub hl [1, 2, 3, 4, 5] rfl
    exact hN _ _ ls _ _ _ _ _ _ (hG.frq hb0 (nMT_fr hfr6)) hM (TW.mk hmr hmq hG.2.1 hfr6 (fun q h => nMT_ge h) (hcw1.upd (upP_lo (by omega))) hbd.1 (hrl.set hbn.1 hbd.1 hPT) hc0 hm0 ht0 hj0 hc7 hm7 hj7) hX hF hl
  · skip
    have hM : MVP g (nMT (b + 501)) H2 (b + 501) 1 pn tn wn A := by
      rcases hq6 with ⟨h, -⟩ | ⟨-, h⟩
      · exact absurd h hok
      · exact h
    refine lv_goto (tgt := 1252) hx hb d_Law_law_771 (by decide) ?_
    have hl : lv_has ls 8 [(4, .int (nI i)), (3, .ref (b + 510)), (2, .ref (b + 501)), (1, .ref b), (0, .ref sb)] := lv_sub hl [1, 2, 3, 4, 5] rfl
    exact hN _ _ ls _ _ _ _ _ _ (hG.frq hb0 (nMT_fr hfr6)) hM (TW.mk hmr hmq hG.2.1 hfr6 (fun q h => nMT_ge h) hcw1 hbd.1 hrl hc0 hm0 ht0 hj0 hc7 hm7 hj7) hX hF hl
set_option maxHeartbeats 4000000 in
set_option maxRecDepth 100000 in
theorem k_combine {p : Program} {l : Launch} {e : Env} {s : State} {m : MethodId} {below : List Frame} {meth : Method} {c : Code} {g : WG} {sb L : Nat} {xs : Nat → Int32} {b : Nat} {mr mq : Int64} {H : Heap} {locs : List Loc} {ls : Array Slot} {th : Int32} {pn tn wn wm i cells slots : Nat} {A : Nat → Int} (E : EV p m c code 8 s #[Value.ref sb] "KateDeskLaw" g) (hr : meth.sig.returnType = ret) (hlk : meth.locks = false) (hb0 : s.heap.size ≤ b) (hsb : sb < s.heap.size) (hxs : XS l s) (hL : L ≤ 3072) (hi : i + 6 ≤ L) (hc : cells + 1 ≤ room_1.cells ∧ slots + 6 ≤ room_1.slots) (hN : LNX p l e s m below meth c g sb L xs b mr mq i (cells + 1) (slots + 6)) (hG : LG g s H b pn tn wn mr mq) (hM : MVP g (nMT (b + 501)) H (b + 501) th pn tn wm A) (hT : TW g H b pn tn wn wm A mr mq) (hX : va_X sb L xs s H) (hF : ∀ q ∈ locs, HXA s q.base) (hl : lv_has ls 8 [(4, .int (nI i)), (3, .ref (b + 510)), (2, .ref (b + 501)), (1, .ref b), (0, .ref sb)]) : W p l e room_1 s m #[Value.ref sb] below meth c H locs cells slots (lw_Z below #[Value.ref sb] s) (F0 m 774 ls []) := by
  have hx := E.1
  have hb := E.2.1
  have hK := E.2.2.2.2.2
  have hw0 := State.WarmedH.refl s
  obtain ⟨⟨hmr, hmq, rfl⟩, ⟨hR0, c0, m0, t0, hc0, hm0, ht0, hj0⟩, ⟨c7, m7, t7, hc7, hm7, hj7⟩, P, V, hcw, hrl⟩ := id hT
  clear hT
  have hbd := hM.2.2.2.2.2.1
  refine lv_aload_n hx hb d_Law_law_774 rfl (lv_at hl 3 rfl) ?_
  refine lv_aload_n hx hb d_Law_law_775 rfl (lv_at hl 4 rfl) ?_
  refine lv_iload hx hb d_Law_law_776 (lv_at hl 0 rfl) ?_
  refine lv_iconst (v := nI 1) hx hb d_Law_law_778 (by decide) ?_
  refine lv_iadd hx hb d_Law_law_779 ?_
  refine lv_topi (fun t9 e9 => ?_)
  obtain rfl : t9 = nI (i + 1) := e9.trans (nI_add _ _)
  refine q_xld E hX (i + 1) rfl (by omega) (by omega) d_Law_law_780 ?_
  refine lv_aload_n hx hb d_Law_law_781 rfl (lv_at hl 4 rfl) ?_
  refine lv_iload hx hb d_Law_law_782 (lv_at hl 0 rfl) ?_
  refine lv_iconst (v := nI 2) hx hb d_Law_law_784 (by decide) ?_
  refine lv_iadd hx hb d_Law_law_785 ?_
  refine lv_topi (fun t9 e9 => ?_)
  obtain rfl : t9 = nI (i + 2) := e9.trans (nI_add _ _)
  refine q_xld E hX (i + 2) rfl (by omega) (by omega) d_Law_law_786 ?_
  refine lv_aload_n hx hb d_Law_law_787 rfl (lv_at hl 4 rfl) ?_
  refine lv_iload hx hb d_Law_law_788 (lv_at hl 0 rfl) ?_
  refine lv_iconst (v := nI 3) hx hb d_Law_law_790 (by decide) ?_
  refine lv_iadd hx hb d_Law_law_791 ?_
  refine lv_topi (fun t9 e9 => ?_)
  obtain rfl : t9 = nI (i + 3) := e9.trans (nI_add _ _)
  refine q_xld E hX (i + 3) rfl (by omega) (by omega) d_Law_law_792 ?_
  refine lv_aload_n hx hb d_Law_law_793 rfl (lv_at hl 4 rfl) ?_
  refine lv_iload hx hb d_Law_law_794 (lv_at hl 0 rfl) ?_
  refine lv_iconst (v := nI 4) hx hb d_Law_law_796 (by decide) ?_
  refine lv_iadd hx hb d_Law_law_797 ?_
  refine lv_topi (fun t9 e9 => ?_)
  obtain rfl : t9 = nI (i + 4) := e9.trans (nI_add _ _)
  refine q_xld E hX (i + 4) rfl (by omega) (by omega) d_Law_law_798 ?_
  refine q_cSH (rest := []) E hw0 (XH_combine l g s hxs b pn tn wn mr mq hb0 (xs (i + 1)) (xs (i + 2)) (xs (i + 3)) (xs (i + 4)) hmr hmq A P V) w_791 w_0 w_789 w_790 hd_Law_combine rfl ⟨by decide, by decide⟩ ⟨hG, hcw⟩ hF hl.1 rfl (Nat.le_of_ble_eq_true rfl) d_Law_law_799 hc (qi (fun r5 H1 locs hq hF => ?_))
  obtain ⟨hq, hfr⟩ := hq
  have hX := hX.kept (hfr sb (Or.inl (Nat.lt_of_lt_of_le hsb hb0)))
  have hM := hM.on (fun q h1 h2 => hfr q (Or.inr (Or.inl ⟨h1, h2⟩)))
  have hm0 : AI g H1 (b + 501 + 6) 96 m0 := AI.eq hm0 (hfr _ (Or.inr (Or.inl ⟨by omega, by omega⟩)))
  have hm7 : AI g H1 (b + 501 + 7) 96 m7 := AI.eq hm7 (hfr _ (Or.inr (Or.inl ⟨by omega, by omega⟩)))
  have hA9 := hrl.hon hcw
  have hc0 : AB g H1 (b + 149) 96 c0 := hc0.eq (hfr _ (Or.inr (Or.inr (Or.inl rfl))))
  have hc7 : AB g H1 (b + 151) 96 c7 := hc7.eq (hfr _ (Or.inr (Or.inr (Or.inr rfl))))
  refine lv_istore (lv' := [(5, .int r5), (4, .int (nI i)), (3, .ref (b + 510)), (2, .ref (b + 501)), (1, .ref b), (0, .ref sb)]) hx hb d_Law_law_802 hl (by decide) rfl (fun ls hl => ?_)
  refine lv_aload_n hx hb d_Law_law_804 rfl (lv_at hl 3 rfl) ?_
  refine lv_aload_n hx hb d_Law_law_805 rfl (lv_at hl 5 rfl) ?_
  refine lv_iload hx hb d_Law_law_806 (lv_at hl 1 rfl) ?_
  refine lv_iconst (v := nI 1) hx hb d_Law_law_808 (by decide) ?_
  refine lv_iadd hx hb d_Law_law_809 ?_
  refine lv_topi (fun t9 e9 => ?_)
  obtain rfl : t9 = nI (i + 1) := e9.trans (nI_add _ _)
  refine q_xld E hX (i + 1) rfl (by omega) (by omega) d_Law_law_810 ?_
  refine lv_aload_n hx hb d_Law_law_811 rfl (lv_at hl 5 rfl) ?_
  refine lv_iload hx hb d_Law_law_812 (lv_at hl 1 rfl) ?_
  refine lv_iconst (v := nI 2) hx hb d_Law_law_814 (by decide) ?_
  refine lv_iadd hx hb d_Law_law_815 ?_
  refine lv_topi (fun t9 e9 => ?_)
  obtain rfl : t9 = nI (i + 2) := e9.trans (nI_add _ _)
  refine q_xld E hX (i + 2) rfl (by omega) (by omega) d_Law_law_816 ?_
  refine lv_aload_n hx hb d_Law_law_817 rfl (lv_at hl 5 rfl) ?_
  refine lv_iload hx hb d_Law_law_818 (lv_at hl 1 rfl) ?_
  refine lv_iconst (v := nI 3) hx hb d_Law_law_820 (by decide) ?_
  refine lv_iadd hx hb d_Law_law_821 ?_
  refine lv_topi (fun t9 e9 => ?_)
  obtain rfl : t9 = nI (i + 3) := e9.trans (nI_add _ _)
  refine q_xld E hX (i + 3) rfl (by omega) (by omega) d_Law_law_822 ?_
  refine lv_aload_n hx hb d_Law_law_823 rfl (lv_at hl 5 rfl) ?_
  refine lv_iload hx hb d_Law_law_824 (lv_at hl 1 rfl) ?_
  refine lv_iconst (v := nI 4) hx hb d_Law_law_826 (by decide) ?_
  refine lv_iadd hx hb d_Law_law_827 ?_
  refine lv_topi (fun t9 e9 => ?_)
  obtain rfl : t9 = nI (i + 4) := e9.trans (nI_add _ _)
  refine q_xld E hX (i + 4) rfl (by omega) (by omega) d_Law_law_828 ?_
  obtain ⟨w9, n9, hob⟩ := hM.ob
  refine q_cV (rest := []) E ((W_Model_combine l g (nMT (b + 501)) (b + 501) th pn tn wn A (xs (i + 1)) (xs (i + 2)) (xs (i + 3)) (xs (i + 4)) hA9).frV (nMT_up hb0)) w_1203 w_15 w_1200 w_1201 w_1202 hd_Model_combine rfl ⟨by decide, by decide⟩ (OB.recv E.2.2.2.2.2 (by rfl) hob) hM hF hl.1 rfl (Nat.le_of_ble_eq_true rfl) d_Law_law_829 hc (qv (fun H2 locs hq6 hF => ?_))
  obtain ⟨hq6, hfr6⟩ := hq6
  have hX := hX.kept (hfr6.2 sb hX.lt (nMT_n (nM_lt hb0 hsb)))
  clear hob hM
  have hm7 := ai_T7 hm7 hfr6
  have hm0 := ai_T6 hm0 hfr6
  rcases hq with ⟨hok, rfl, hG, k1, k2, k3, k4, T, e1, e2, e3, e4, hbn, hT9, hcw1⟩ | ⟨hok, rfl, hG, hcw1⟩
  · skip
    obtain ⟨T', hM, hPT⟩ : ∃ T', MVP g (nMT (b + 501)) H2 (b + 501) 0 pn tn wn (updP A (32 + 3 * k1) T') ∧ PE T T' := by
      rcases hq6 with ⟨-, j1, j4, f1, f4, b1, b4, T', hT8, h⟩ | ⟨h, -⟩
      · obtain rfl := ni_un e1 f1 (by omega) (by omega)
        obtain rfl := ni_un e4 f4 (by omega) (by omega)
        refine ⟨T', h, ?_⟩
        rcases hT8 with ⟨e0, e9⟩ | ⟨h0, j2, j3, f2, f3, b2, b3, hT8⟩
        · subst e0
          rw [e9]
          exact RSm_0 hT9
        · have hb2 := hbn.2.2.1 h0
          have hb3 := hbn.2.2.2 h0
          obtain rfl := ni_un e2 f2 (by omega) (by omega)
          obtain rfl := ni_un e3 f3 (by omega) (by omega)
          have hx9 : ∀ t, 32 + 3 * (k3 + t) = 32 + 3 * k3 + 3 * t := fun t => by omega
          exact RSm.un2 (fun t ht => by show onC (ptB A (32 + 3 * k3 + 3 * t)); rw [← hx9]; exact hA9 (k3 + t) (by omega)) hT9 hT8 (fun t ht => by show PE (P (k3 + t)) (ptB A (32 + 3 * k3 + 3 * t)); rw [← hx9]; exact hrl.1 (k3 + t) (by omega))
      · exact absurd hok h
    refine lv_goto (tgt := 1252) hx hb d_Law_law_832 (by decide) ?_
    have hl : lv_has ls 8 [(4, .int (nI i)), (3, .ref (b + 510)), (2, .ref (b + 501)), (1, .ref b), (0, .ref sb)] := lv_sub hl [1, 2, 3, 4, 5] rfl
    exact hN _ _ ls _ _ _ _ _ _ (hG.frq hb0 (nMT_fr hfr6)) hM (TW.mk hmr hmq hG.2.1 hfr6 (fun q h => nMT_ge h) (hcw1.upd (upP_lo (by omega))) hbd.1 (hrl.set hbn.1 hbd.1 hPT) hc0 hm0 ht0 hj0 hc7 hm7 hj7) hX hF hl
  · skip
    have hM : MVP g (nMT (b + 501)) H2 (b + 501) 1 pn tn wn A := by
      rcases hq6 with ⟨h, -⟩ | ⟨-, h⟩
      · exact absurd h hok
      · exact h
    refine lv_goto (tgt := 1252) hx hb d_Law_law_832 (by decide) ?_
    have hl : lv_has ls 8 [(4, .int (nI i)), (3, .ref (b + 510)), (2, .ref (b + 501)), (1, .ref b), (0, .ref sb)] := lv_sub hl [1, 2, 3, 4, 5] rfl
    exact hN _ _ ls _ _ _ _ _ _ (hG.frq hb0 (nMT_fr hfr6)) hM (TW.mk hmr hmq hG.2.1 hfr6 (fun q h => nMT_ge h) hcw1 hbd.1 hrl hc0 hm0 ht0 hj0 hc7 hm7 hj7) hX hF hl
set_option maxHeartbeats 4000000 in
set_option maxRecDepth 100000 in
theorem k_same {p : Program} {l : Launch} {e : Env} {s : State} {m : MethodId} {below : List Frame} {meth : Method} {c : Code} {g : WG} {sb L : Nat} {xs : Nat → Int32} {b : Nat} {mr mq : Int64} {H : Heap} {locs : List Loc} {ls : Array Slot} {th : Int32} {pn tn wn wm i cells slots : Nat} {A : Nat → Int} (E : EV p m c code 8 s #[Value.ref sb] "KateDeskLaw" g) (hr : meth.sig.returnType = ret) (hlk : meth.locks = false) (hb0 : s.heap.size ≤ b) (hsb : sb < s.heap.size) (hxs : XS l s) (hL : L ≤ 3072) (hi : i + 6 ≤ L) (hc : cells + 1 ≤ room_1.cells ∧ slots + 6 ≤ room_1.slots) (hN : LNX p l e s m below meth c g sb L xs b mr mq i (cells + 1) (slots + 6)) (hG : LG g s H b pn tn wn mr mq) (hM : MVP g (nMT (b + 501)) H (b + 501) th pn tn wm A) (hT : TW g H b pn tn wn wm A mr mq) (hX : va_X sb L xs s H) (hF : ∀ q ∈ locs, HXA s q.base) (hl : lv_has ls 8 [(4, .int (nI i)), (3, .ref (b + 510)), (2, .ref (b + 501)), (1, .ref b), (0, .ref sb)]) : W p l e room_1 s m #[Value.ref sb] below meth c H locs cells slots (lw_Z below #[Value.ref sb] s) (F0 m 835 ls []) := by
  have hx := E.1
  have hb := E.2.1
  have hK := E.2.2.2.2.2
  have hw0 := State.WarmedH.refl s
  obtain ⟨⟨hmr, hmq, rfl⟩, ⟨hR0, c0, m0, t0, hc0, hm0, ht0, hj0⟩, ⟨c7, m7, t7, hc7, hm7, hj7⟩, P, V, hcw, hrl⟩ := id hT
  clear hT
  have hbd := hM.2.2.2.2.2.1
  refine lv_aload_n hx hb d_Law_law_835 rfl (lv_at hl 3 rfl) ?_
  refine lv_aload_n hx hb d_Law_law_836 rfl (lv_at hl 4 rfl) ?_
  refine lv_iload hx hb d_Law_law_837 (lv_at hl 0 rfl) ?_
  refine lv_iconst (v := nI 1) hx hb d_Law_law_839 (by decide) ?_
  refine lv_iadd hx hb d_Law_law_840 ?_
  refine lv_topi (fun t9 e9 => ?_)
  obtain rfl : t9 = nI (i + 1) := e9.trans (nI_add _ _)
  refine q_xld E hX (i + 1) rfl (by omega) (by omega) d_Law_law_841 ?_
  refine lv_aload_n hx hb d_Law_law_842 rfl (lv_at hl 4 rfl) ?_
  refine lv_iload hx hb d_Law_law_843 (lv_at hl 0 rfl) ?_
  refine lv_iconst (v := nI 2) hx hb d_Law_law_845 (by decide) ?_
  refine lv_iadd hx hb d_Law_law_846 ?_
  refine lv_topi (fun t9 e9 => ?_)
  obtain rfl : t9 = nI (i + 2) := e9.trans (nI_add _ _)
  refine q_xld E hX (i + 2) rfl (by omega) (by omega) d_Law_law_847 ?_
  refine lv_aload_n hx hb d_Law_law_848 rfl (lv_at hl 1 rfl) ?_
  refine q_cSH (rest := []) E hw0 (XH_same l g s hxs b pn tn wn mr mq hb0 (xs (i + 1)) (xs (i + 2)) hmr hmq A P V) w_802 w_0 w_800 w_801 hd_Law_same rfl ⟨by decide, by decide⟩ ⟨hG, hcw⟩ hF hl.1 rfl (Nat.le_of_ble_eq_true rfl) d_Law_law_849 hc (qi (fun r5 H1 locs hq hF => ?_))
  obtain ⟨hq, hfr⟩ := hq
  have hX := hX.kept (hfr sb (Or.inl (Nat.lt_of_lt_of_le hsb hb0)))
  have hM := hM.on (fun q h1 h2 => hfr q (Or.inr (Or.inl ⟨h1, h2⟩)))
  have hm0 : AI g H1 (b + 501 + 6) 96 m0 := AI.eq hm0 (hfr _ (Or.inr (Or.inl ⟨by omega, by omega⟩)))
  have hm7 : AI g H1 (b + 501 + 7) 96 m7 := AI.eq hm7 (hfr _ (Or.inr (Or.inl ⟨by omega, by omega⟩)))
  have hA9 := hrl.hon hcw
  have hc0 : AB g H1 (b + 149) 96 c0 := hc0.eq (hfr _ (Or.inr (Or.inr (Or.inl rfl))))
  have hc7 : AB g H1 (b + 151) 96 c7 := hc7.eq (hfr _ (Or.inr (Or.inr (Or.inr rfl))))
  refine lv_istore (lv' := [(5, .int r5), (4, .int (nI i)), (3, .ref (b + 510)), (2, .ref (b + 501)), (1, .ref b), (0, .ref sb)]) hx hb d_Law_law_852 hl (by decide) rfl (fun ls hl => ?_)
  refine lv_aload_n hx hb d_Law_law_854 rfl (lv_at hl 3 rfl) ?_
  refine lv_aload_n hx hb d_Law_law_855 rfl (lv_at hl 5 rfl) ?_
  refine lv_iload hx hb d_Law_law_856 (lv_at hl 1 rfl) ?_
  refine lv_iconst (v := nI 1) hx hb d_Law_law_858 (by decide) ?_
  refine lv_iadd hx hb d_Law_law_859 ?_
  refine lv_topi (fun t9 e9 => ?_)
  obtain rfl : t9 = nI (i + 1) := e9.trans (nI_add _ _)
  refine q_xld E hX (i + 1) rfl (by omega) (by omega) d_Law_law_860 ?_
  refine lv_aload_n hx hb d_Law_law_861 rfl (lv_at hl 5 rfl) ?_
  refine lv_iload hx hb d_Law_law_862 (lv_at hl 1 rfl) ?_
  refine lv_iconst (v := nI 2) hx hb d_Law_law_864 (by decide) ?_
  refine lv_iadd hx hb d_Law_law_865 ?_
  refine lv_topi (fun t9 e9 => ?_)
  obtain rfl : t9 = nI (i + 2) := e9.trans (nI_add _ _)
  refine q_xld E hX (i + 2) rfl (by omega) (by omega) d_Law_law_866 ?_
  obtain ⟨w9, n9, hob⟩ := hM.ob
  refine q_cV (rest := []) E ((W_Model_same l g (nMT (b + 501)) (b + 501) th pn tn wn A (xs (i + 1)) (xs (i + 2)) hA9).frI (nMT_up hb0)) w_1214 w_15 w_1211 w_1212 w_1213 hd_Model_same rfl ⟨by decide, by decide⟩ (OB.recv E.2.2.2.2.2 (by rfl) hob) hM hF hl.1 rfl (Nat.le_of_ble_eq_true rfl) d_Law_law_867 hc (qi (fun r6 H2 locs hq6 hF => ?_))
  obtain ⟨hq6, hfr6⟩ := hq6
  have hX := hX.kept (hfr6.2 sb hX.lt (nMT_n (nM_lt hb0 hsb)))
  clear hob hM
  have hm7 := ai_T7 hm7 hfr6
  have hm0 := ai_T6 hm0 hfr6
  rcases hq with ⟨hok, rfl, hG, k1, k2, rb, e1, e2, hbn, hr9, hA, hcw1⟩ | ⟨hok, rfl, hG, hcw1⟩
  · skip
    obtain ⟨hM, h69⟩ : MVP g (nMT (b + 501)) H2 (b + 501) 0 pn tn wn A ∧ r6 = rb := by
      rcases hq6 with ⟨-, j1, j2, f1, f2, b1, b2, hr8, h⟩ | ⟨h, -⟩
      · obtain rfl := ni_un e1 f1 (by omega) (by omega)
        obtain rfl := ni_un e2 f2 (by omega) (by omega)
        exact ⟨h, (bl_un hr9 hr8 (pe_if (hrl.1 k1 b1) (hrl.1 k2 b2))).symm⟩
      · exact absurd hok h
    subst h69
    refine lv_istore (lv' := [(6, .int r6), (5, .int (nI 0)), (4, .int (nI i)), (3, .ref (b + 510)), (2, .ref (b + 501)), (1, .ref b), (0, .ref sb)]) hx hb d_Law_law_870 hl (by decide) rfl (fun ls hl => ?_)
    refine lv_goto (tgt := 1252) hx hb d_Law_law_872 (by decide) ?_
    have hl : lv_has ls 8 [(4, .int (nI i)), (3, .ref (b + 510)), (2, .ref (b + 501)), (1, .ref b), (0, .ref sb)] := lv_sub hl [2, 3, 4, 5, 6] rfl
    exact hN _ _ ls _ _ _ _ _ _ (hG.frq hb0 (nMT_fr hfr6)) hM (TW.mk hmr hmq hG.2.1 hfr6 (fun q h => nMT_ge h) hcw1 hbd.1 hrl hc0 hm0 ht0 hj0 hc7 hm7 hj7) hX hF hl
  · skip
    have hM : MVP g (nMT (b + 501)) H2 (b + 501) 1 pn tn wn A := by
      rcases hq6 with ⟨h, -⟩ | ⟨-, h⟩
      · exact absurd h hok
      · exact h
    refine lv_istore (lv' := [(6, .int r6), (5, .int (nI 1)), (4, .int (nI i)), (3, .ref (b + 510)), (2, .ref (b + 501)), (1, .ref b), (0, .ref sb)]) hx hb d_Law_law_870 hl (by decide) rfl (fun ls hl => ?_)
    refine lv_goto (tgt := 1252) hx hb d_Law_law_872 (by decide) ?_
    have hl : lv_has ls 8 [(4, .int (nI i)), (3, .ref (b + 510)), (2, .ref (b + 501)), (1, .ref b), (0, .ref sb)] := lv_sub hl [2, 3, 4, 5, 6] rfl
    exact hN _ _ ls _ _ _ _ _ _ (hG.frq hb0 (nMT_fr hfr6)) hM (TW.mk hmr hmq hG.2.1 hfr6 (fun q h => nMT_ge h) hcw1 hbd.1 hrl hc0 hm0 ht0 hj0 hc7 hm7 hj7) hX hF hl
set_option maxHeartbeats 4000000 in
set_option maxRecDepth 100000 in
theorem k_setup {p : Program} {l : Launch} {e : Env} {s : State} {m : MethodId} {below : List Frame} {meth : Method} {c : Code} {g : WG} {sb L : Nat} {xs : Nat → Int32} {b : Nat} {mr mq : Int64} {H : Heap} {locs : List Loc} {ls : Array Slot} {th : Int32} {pn tn wn wm i cells slots : Nat} {A : Nat → Int} (E : EV p m c code 8 s #[Value.ref sb] "KateDeskLaw" g) (hr : meth.sig.returnType = ret) (hlk : meth.locks = false) (hb0 : s.heap.size ≤ b) (hsb : sb < s.heap.size) (hxs : XS l s) (hL : L ≤ 3072) (hi : i + 6 ≤ L) (hc : cells + 1 ≤ room_1.cells ∧ slots + 6 ≤ room_1.slots) (hN : LNX p l e s m below meth c g sb L xs b mr mq i (cells + 1) (slots + 6)) (hG : LG g s H b pn tn wn mr mq) (hM : MVP g (nMT (b + 501)) H (b + 501) th pn tn wm A) (hT : TW g H b pn tn wn wm A mr mq) (hX : va_X sb L xs s H) (hF : ∀ q ∈ locs, HXA s q.base) (hl : lv_has ls 8 [(4, .int (nI i)), (3, .ref (b + 510)), (2, .ref (b + 501)), (1, .ref b), (0, .ref sb)]) : W p l e room_1 s m #[Value.ref sb] below meth c H locs cells slots (lw_Z below #[Value.ref sb] s) (F0 m 875 ls []) := by
  have hx := E.1
  have hb := E.2.1
  have hK := E.2.2.2.2.2
  have hw0 := State.WarmedH.refl s
  obtain ⟨⟨hmr, hmq, rfl⟩, ⟨hR0, c0, m0, t0, hc0, hm0, ht0, hj0⟩, ⟨c7, m7, t7, hc7, hm7, hj7⟩, P, V, hcw, hrl⟩ := id hT
  clear hT
  have hbd := hM.2.2.2.2.2.1
  refine lv_aload_n hx hb d_Law_law_875 rfl (lv_at hl 3 rfl) ?_
  refine lv_aload_n hx hb d_Law_law_876 rfl (lv_at hl 4 rfl) ?_
  refine lv_iload hx hb d_Law_law_877 (lv_at hl 0 rfl) ?_
  refine lv_iconst (v := nI 1) hx hb d_Law_law_879 (by decide) ?_
  refine lv_iadd hx hb d_Law_law_880 ?_
  refine lv_topi (fun t9 e9 => ?_)
  obtain rfl : t9 = nI (i + 1) := e9.trans (nI_add _ _)
  refine q_xld E hX (i + 1) rfl (by omega) (by omega) d_Law_law_881 ?_
  refine lv_aload_n hx hb d_Law_law_882 rfl (lv_at hl 4 rfl) ?_
  refine lv_iload hx hb d_Law_law_883 (lv_at hl 0 rfl) ?_
  refine lv_iconst (v := nI 2) hx hb d_Law_law_885 (by decide) ?_
  refine lv_iadd hx hb d_Law_law_886 ?_
  refine lv_topi (fun t9 e9 => ?_)
  obtain rfl : t9 = nI (i + 2) := e9.trans (nI_add _ _)
  refine q_xld E hX (i + 2) rfl (by omega) (by omega) d_Law_law_887 ?_
  refine q_cSH (rest := []) E hw0 (XH_setup l g s hxs b pn tn wn mr mq hb0 (xs (i + 1)) (xs (i + 2)) hmr hmq A P V) w_818 w_0 w_816 w_817 hd_Law_setup rfl ⟨by decide, by decide⟩ ⟨hG, hcw⟩ hF hl.1 rfl (Nat.le_of_ble_eq_true rfl) d_Law_law_888 hc (qi (fun r5 H1 locs hq hF => ?_))
  obtain ⟨hq, hfr⟩ := hq
  have hX := hX.kept (hfr sb (Or.inl (Nat.lt_of_lt_of_le hsb hb0)))
  have hM := hM.on (fun q h1 h2 => hfr q (Or.inr (Or.inl ⟨h1, h2⟩)))
  have hm0 : AI g H1 (b + 501 + 6) 96 m0 := AI.eq hm0 (hfr _ (Or.inr (Or.inl ⟨by omega, by omega⟩)))
  have hm7 : AI g H1 (b + 501 + 7) 96 m7 := AI.eq hm7 (hfr _ (Or.inr (Or.inl ⟨by omega, by omega⟩)))
  have hA9 := hrl.hoG
  have hc0 : AB g H1 (b + 149) 96 c0 := hc0.eq (hfr _ (Or.inr (Or.inr (Or.inl rfl))))
  have hc7 : AB g H1 (b + 151) 96 c7 := hc7.eq (hfr _ (Or.inr (Or.inr (Or.inr rfl))))
  refine lv_istore (lv' := [(5, .int r5), (4, .int (nI i)), (3, .ref (b + 510)), (2, .ref (b + 501)), (1, .ref b), (0, .ref sb)]) hx hb d_Law_law_891 hl (by decide) rfl (fun ls hl => ?_)
  refine lv_aload_n hx hb d_Law_law_893 rfl (lv_at hl 3 rfl) ?_
  refine lv_aload_n hx hb d_Law_law_894 rfl (lv_at hl 5 rfl) ?_
  refine lv_iload hx hb d_Law_law_895 (lv_at hl 1 rfl) ?_
  refine lv_iconst (v := nI 1) hx hb d_Law_law_897 (by decide) ?_
  refine lv_iadd hx hb d_Law_law_898 ?_
  refine lv_topi (fun t9 e9 => ?_)
  obtain rfl : t9 = nI (i + 1) := e9.trans (nI_add _ _)
  refine q_xld E hX (i + 1) rfl (by omega) (by omega) d_Law_law_899 ?_
  refine lv_aload_n hx hb d_Law_law_900 rfl (lv_at hl 5 rfl) ?_
  refine lv_iload hx hb d_Law_law_901 (lv_at hl 1 rfl) ?_
  refine lv_iconst (v := nI 2) hx hb d_Law_law_903 (by decide) ?_
  refine lv_iadd hx hb d_Law_law_904 ?_
  refine lv_topi (fun t9 e9 => ?_)
  obtain rfl : t9 = nI (i + 2) := e9.trans (nI_add _ _)
  refine q_xld E hX (i + 2) rfl (by omega) (by omega) d_Law_law_905 ?_
  obtain ⟨w9, n9, hob⟩ := hM.ob
  refine q_cV (rest := []) E ((W_Model_setup l g (nMT (b + 501)) (b + 501) th pn tn wn A (xs (i + 1)) (xs (i + 2)) hA9).frV (nMT_up hb0)) w_1222 w_15 w_1219 w_1220 w_1221 hd_Model_setup rfl ⟨by decide, by decide⟩ (OB.recv E.2.2.2.2.2 (by rfl) hob) hM hF hl.1 rfl (Nat.le_of_ble_eq_true rfl) d_Law_law_906 hc (qv (fun H2 locs hq6 hF => ?_))
  obtain ⟨hq6, hfr6⟩ := hq6
  have hX := hX.kept (hfr6.2 sb hX.lt (nMT_n (nM_lt hb0 hsb)))
  clear hob hM
  have hm7 := ai_T7 hm7 hfr6
  have hm0 := ai_T6 hm0 hfr6
  rcases hq with ⟨hok, rfl, k1, k2, V', e1, e2, b1, b2, hG, hV, hcw1⟩ | ⟨hok, rfl, hG, hcw1⟩
  · skip
    obtain ⟨B1, hB1, hB2, hM⟩ : ∃ B1, (∀ k, k < 68 ∨ 116 ≤ k → B1 k = A k) ∧ (∀ j, j < k2 → RP (ptB A 116) (A k1 ^ j % RI) (ptB B1 (68 + 3 * j))) ∧ MVP g (nMT (b + 501)) H2 (b + 501) 0 k2 tn wn B1 := by
      rcases hq6 with ⟨-, j1, j2, f1, f2, c1, c2, B1, h1, h2, h⟩ | ⟨h, -⟩
      · obtain rfl := ni_un e1 f1 (by omega) (by omega)
        obtain rfl := ni_un e2 f2 (by omega) (by omega)
        exact ⟨B1, h1, h2, h⟩
      · exact absurd hok h
    refine lv_goto (tgt := 1252) hx hb d_Law_law_909 (by decide) ?_
    have hl : lv_has ls 8 [(4, .int (nI i)), (3, .ref (b + 510)), (2, .ref (b + 501)), (1, .ref b), (0, .ref sb)] := lv_sub hl [1, 2, 3, 4, 5] rfl
    exact hN _ _ ls _ _ _ _ _ _ (hG.frq hb0 (nMT_fr hfr6)) hM (TW.mk hmr hmq hG.2.1 hfr6 (fun q h => nMT_ge h) (hcw1.upd (fun k hk => hB1 k (Or.inl (by omega)))) b2 (hrl.su hB1 hV hB2) hc0 hm0 ht0 hj0 hc7 hm7 hj7) hX hF hl
  · skip
    have hM : MVP g (nMT (b + 501)) H2 (b + 501) 1 pn tn wn A := by
      rcases hq6 with ⟨h, -⟩ | ⟨-, h⟩
      · exact absurd h hok
      · exact h
    refine lv_goto (tgt := 1252) hx hb d_Law_law_909 (by decide) ?_
    have hl : lv_has ls 8 [(4, .int (nI i)), (3, .ref (b + 510)), (2, .ref (b + 501)), (1, .ref b), (0, .ref sb)] := lv_sub hl [1, 2, 3, 4, 5] rfl
    exact hN _ _ ls _ _ _ _ _ _ (hG.frq hb0 (nMT_fr hfr6)) hM (TW.mk hmr hmq hG.2.1 hfr6 (fun q h => nMT_ge h) hcw1 hbd.1 hrl hc0 hm0 ht0 hj0 hc7 hm7 hj7) hX hF hl
set_option maxHeartbeats 4000000 in
set_option maxRecDepth 100000 in
theorem k_commit {p : Program} {l : Launch} {e : Env} {s : State} {m : MethodId} {below : List Frame} {meth : Method} {c : Code} {g : WG} {sb L : Nat} {xs : Nat → Int32} {b : Nat} {mr mq : Int64} {H : Heap} {locs : List Loc} {ls : Array Slot} {th : Int32} {pn tn wn wm i cells slots : Nat} {A : Nat → Int} (E : EV p m c code 8 s #[Value.ref sb] "KateDeskLaw" g) (hr : meth.sig.returnType = ret) (hlk : meth.locks = false) (hb0 : s.heap.size ≤ b) (hsb : sb < s.heap.size) (hxs : XS l s) (hno : va_Nc "java/lang/IllegalStateException" "java/lang/IllegalArgumentException" s) (hL : L ≤ 3072) (hi : i + 6 ≤ L) (hc : cells + 1 ≤ room_1.cells ∧ slots + 6 ≤ room_1.slots) (hN : LNX p l e s m below meth c g sb L xs b mr mq i (cells + 1) (slots + 6)) (hG : LG g s H b pn tn wn mr mq) (hM : MVP g (nMT (b + 501)) H (b + 501) th pn tn wm A) (hT : TW g H b pn tn wn wm A mr mq) (hX : va_X sb L xs s H) (hF : ∀ q ∈ locs, HXA s q.base) (hl : lv_has ls 8 [(4, .int (nI i)), (3, .ref (b + 510)), (2, .ref (b + 501)), (1, .ref b), (0, .ref sb)]) : W p l e room_1 s m #[Value.ref sb] below meth c H locs cells slots (lw_Z below #[Value.ref sb] s) (F0 m 912 ls []) := by
  have hx := E.1
  have hb := E.2.1
  have hK := E.2.2.2.2.2
  have hw0 := State.WarmedH.refl s
  obtain ⟨⟨hmr, hmq, rfl⟩, ⟨hR0, c0, m0, t0, hc0, hm0, ht0, hj0⟩, ⟨c7, m7, t7, hc7, hm7, hj7⟩, P, V, hcw, hrl⟩ := id hT
  clear hT
  have hbd := hM.2.2.2.2.2.1
  refine lv_aload_n hx hb d_Law_law_912 rfl (lv_at hl 3 rfl) ?_
  refine lv_aload_n hx hb d_Law_law_913 rfl (lv_at hl 4 rfl) ?_
  refine lv_iload hx hb d_Law_law_914 (lv_at hl 0 rfl) ?_
  refine lv_iconst (v := nI 1) hx hb d_Law_law_916 (by decide) ?_
  refine lv_iadd hx hb d_Law_law_917 ?_
  refine lv_topi (fun t9 e9 => ?_)
  obtain rfl : t9 = nI (i + 1) := e9.trans (nI_add _ _)
  refine q_xld E hX (i + 1) rfl (by omega) (by omega) d_Law_law_918 ?_
  refine lv_aload_n hx hb d_Law_law_919 rfl (lv_at hl 4 rfl) ?_
  refine lv_iload hx hb d_Law_law_920 (lv_at hl 0 rfl) ?_
  refine lv_iconst (v := nI 2) hx hb d_Law_law_922 (by decide) ?_
  refine lv_iadd hx hb d_Law_law_923 ?_
  refine lv_topi (fun t9 e9 => ?_)
  obtain rfl : t9 = nI (i + 2) := e9.trans (nI_add _ _)
  refine q_xld E hX (i + 2) rfl (by omega) (by omega) d_Law_law_924 ?_
  refine lv_aload_n hx hb d_Law_law_925 rfl (lv_at hl 4 rfl) ?_
  refine lv_iload hx hb d_Law_law_926 (lv_at hl 0 rfl) ?_
  refine lv_iconst (v := nI 3) hx hb d_Law_law_928 (by decide) ?_
  refine lv_iadd hx hb d_Law_law_929 ?_
  refine lv_topi (fun t9 e9 => ?_)
  obtain rfl : t9 = nI (i + 3) := e9.trans (nI_add _ _)
  refine q_xld E hX (i + 3) rfl (by omega) (by omega) d_Law_law_930 ?_
  refine q_cSH (rest := []) E hw0 (XH_commit l g s hxs b pn tn wn mr mq hb0 (xs (i + 1)) (xs (i + 2)) (xs (i + 3)) hmr hmq A P V hno) w_836 w_0 w_834 w_835 hd_Law_commit rfl ⟨by decide, by decide⟩ ⟨hG, hcw⟩ hF hl.1 rfl (Nat.le_of_ble_eq_true rfl) d_Law_law_931 hc (qi (fun r5 H1 locs hq hF => ?_))
  obtain ⟨hq, hfr⟩ := hq
  have hX := hX.kept (hfr sb (Or.inl (Nat.lt_of_lt_of_le hsb hb0)))
  have hM := hM.on (fun q h1 h2 => hfr q (Or.inr (Or.inl ⟨h1, h2⟩)))
  have hm0 : AI g H1 (b + 501 + 6) 96 m0 := AI.eq hm0 (hfr _ (Or.inr (Or.inl ⟨by omega, by omega⟩)))
  have hm7 : AI g H1 (b + 501 + 7) 96 m7 := AI.eq hm7 (hfr _ (Or.inr (Or.inl ⟨by omega, by omega⟩)))
  have hA9 := hrl.hop hcw
  have hc0 : AB g H1 (b + 149) 96 c0 := hc0.eq (hfr _ (Or.inr (Or.inr (Or.inl rfl))))
  have hc7 : AB g H1 (b + 151) 96 c7 := hc7.eq (hfr _ (Or.inr (Or.inr (Or.inr rfl))))
  refine lv_istore (lv' := [(5, .int r5), (4, .int (nI i)), (3, .ref (b + 510)), (2, .ref (b + 501)), (1, .ref b), (0, .ref sb)]) hx hb d_Law_law_934 hl (by decide) rfl (fun ls hl => ?_)
  refine lv_aload_n hx hb d_Law_law_936 rfl (lv_at hl 3 rfl) ?_
  refine lv_aload_n hx hb d_Law_law_937 rfl (lv_at hl 5 rfl) ?_
  refine lv_iload hx hb d_Law_law_938 (lv_at hl 1 rfl) ?_
  refine lv_iconst (v := nI 1) hx hb d_Law_law_940 (by decide) ?_
  refine lv_iadd hx hb d_Law_law_941 ?_
  refine lv_topi (fun t9 e9 => ?_)
  obtain rfl : t9 = nI (i + 1) := e9.trans (nI_add _ _)
  refine q_xld E hX (i + 1) rfl (by omega) (by omega) d_Law_law_942 ?_
  refine lv_aload_n hx hb d_Law_law_943 rfl (lv_at hl 5 rfl) ?_
  refine lv_iload hx hb d_Law_law_944 (lv_at hl 1 rfl) ?_
  refine lv_iconst (v := nI 2) hx hb d_Law_law_946 (by decide) ?_
  refine lv_iadd hx hb d_Law_law_947 ?_
  refine lv_topi (fun t9 e9 => ?_)
  obtain rfl : t9 = nI (i + 2) := e9.trans (nI_add _ _)
  refine q_xld E hX (i + 2) rfl (by omega) (by omega) d_Law_law_948 ?_
  refine lv_aload_n hx hb d_Law_law_949 rfl (lv_at hl 5 rfl) ?_
  refine lv_iload hx hb d_Law_law_950 (lv_at hl 1 rfl) ?_
  refine lv_iconst (v := nI 3) hx hb d_Law_law_952 (by decide) ?_
  refine lv_iadd hx hb d_Law_law_953 ?_
  refine lv_topi (fun t9 e9 => ?_)
  obtain rfl : t9 = nI (i + 3) := e9.trans (nI_add _ _)
  refine q_xld E hX (i + 3) rfl (by omega) (by omega) d_Law_law_954 ?_
  obtain ⟨w9, n9, hob⟩ := hM.ob
  refine q_cV (rest := []) E ((W_Model_commit l g (nMT (b + 501)) (b + 501) th pn tn wn A (xs (i + 1)) (xs (i + 2)) (xs (i + 3)) hA9).frV (nMT_up hb0)) w_1227 w_15 w_1224 w_1225 w_1226 hd_Model_commit rfl ⟨by decide, by decide⟩ (OB.recv E.2.2.2.2.2 (by rfl) hob) hM hF hl.1 rfl (Nat.le_of_ble_eq_true rfl) d_Law_law_955 hc (qv (fun H2 locs hq6 hF => ?_))
  obtain ⟨hq6, hfr6⟩ := hq6
  have hX := hX.kept (hfr6.2 sb hX.lt (nMT_n (nM_lt hb0 hsb)))
  clear hob hM
  have hm7 := ai_T7 hm7 hfr6
  have hm0 := ai_T6 hm0 hfr6
  rcases hq with ⟨hok, ⟨hpn, rfl, hG, k1, k2, k3, T, e1, e2, e3, hbn, hT9, hcw1⟩ | ⟨hpn, rfl, hG, hcw1⟩⟩ | ⟨hok, rfl, hG, hcw1⟩
  · skip
    obtain ⟨T', hM, hPT⟩ : ∃ T', MVP g (nMT (b + 501)) H2 (b + 501) 0 pn tn wn (updP A (32 + 3 * k1) T') ∧ PE T T' := by
      rcases hq6 with ⟨-, ⟨j1, j3, f1, f3, b1, b3, -, T', hT8, h⟩ | ⟨h, -⟩⟩ | ⟨h, -⟩
      · obtain rfl := ni_un e1 f1 (by omega) (by omega)
        obtain rfl := ni_un e3 f3 (by omega) (by omega)
        refine ⟨T', h, ?_⟩
        rcases hT8 with ⟨e0, e9⟩ | ⟨h0, j2, f2, b2, hT8⟩
        · subst e0
          rw [e9]
          exact RSm_0 hT9
        · have hb2 := hbn.2.2.2 h0
          obtain rfl := ni_un e2 f2 (by omega) (by omega)
          exact RSm.un2 (fun t ht => hA9 t (by omega)) hT9 hT8 (fun t ht => hrl.2.1 t (by omega))
      · exact absurd hpn h
      · exact absurd hok h
    refine lv_goto (tgt := 1252) hx hb d_Law_law_958 (by decide) ?_
    have hl : lv_has ls 8 [(4, .int (nI i)), (3, .ref (b + 510)), (2, .ref (b + 501)), (1, .ref b), (0, .ref sb)] := lv_sub hl [1, 2, 3, 4, 5] rfl
    exact hN _ _ ls _ _ _ _ _ _ (hG.frq hb0 (nMT_fr hfr6)) hM (TW.mk hmr hmq hG.2.1 hfr6 (fun q h => nMT_ge h) (hcw1.upd (upP_lo (by omega))) hbd.1 (hrl.set hbn.1 hbd.1 hPT) hc0 hm0 ht0 hj0 hc7 hm7 hj7) hX hF hl
  · skip
    have hM : MVP g (nMT (b + 501)) H2 (b + 501) (nI 2) pn tn wn A := by
      rcases hq6 with ⟨-, ⟨j1, j3, f1, f3, b1, b3, h, -⟩ | ⟨-, h⟩⟩ | ⟨h, -⟩
      · exact absurd h hpn
      · exact h
      · exact absurd hok h
    refine lv_goto (tgt := 1252) hx hb d_Law_law_958 (by decide) ?_
    have hl : lv_has ls 8 [(4, .int (nI i)), (3, .ref (b + 510)), (2, .ref (b + 501)), (1, .ref b), (0, .ref sb)] := lv_sub hl [1, 2, 3, 4, 5] rfl
    exact hN _ _ ls _ _ _ _ _ _ (hG.frq hb0 (nMT_fr hfr6)) hM (TW.mk hmr hmq hG.2.1 hfr6 (fun q h => nMT_ge h) hcw1 hbd.1 hrl hc0 hm0 ht0 hj0 hc7 hm7 hj7) hX hF hl
  · skip
    have hM : MVP g (nMT (b + 501)) H2 (b + 501) 1 pn tn wn A := by
      rcases hq6 with ⟨h, -⟩ | ⟨-, h⟩
      · exact absurd h hok
      · exact h
    refine lv_goto (tgt := 1252) hx hb d_Law_law_958 (by decide) ?_
    have hl : lv_has ls 8 [(4, .int (nI i)), (3, .ref (b + 510)), (2, .ref (b + 501)), (1, .ref b), (0, .ref sb)] := lv_sub hl [1, 2, 3, 4, 5] rfl
    exact hN _ _ ls _ _ _ _ _ _ (hG.frq hb0 (nMT_fr hfr6)) hM (TW.mk hmr hmq hG.2.1 hfr6 (fun q h => nMT_ge h) hcw1 hbd.1 hrl hc0 hm0 ht0 hj0 hc7 hm7 hj7) hX hF hl
set_option maxHeartbeats 4000000 in
set_option maxRecDepth 100000 in
theorem k_open {p : Program} {l : Launch} {e : Env} {s : State} {m : MethodId} {below : List Frame} {meth : Method} {c : Code} {g : WG} {sb L : Nat} {xs : Nat → Int32} {b : Nat} {mr mq : Int64} {H : Heap} {locs : List Loc} {ls : Array Slot} {th : Int32} {pn tn wn wm i cells slots : Nat} {A : Nat → Int} (E : EV p m c code 8 s #[Value.ref sb] "KateDeskLaw" g) (hr : meth.sig.returnType = ret) (hlk : meth.locks = false) (hb0 : s.heap.size ≤ b) (hsb : sb < s.heap.size) (hxs : XS l s) (hL : L ≤ 3072) (hi : i + 6 ≤ L) (hc : cells + 1 ≤ room_1.cells ∧ slots + 6 ≤ room_1.slots) (hN : LNX p l e s m below meth c g sb L xs b mr mq i (cells + 1) (slots + 6)) (hG : LG g s H b pn tn wn mr mq) (hM : MVP g (nMT (b + 501)) H (b + 501) th pn tn wm A) (hT : TW g H b pn tn wn wm A mr mq) (hX : va_X sb L xs s H) (hF : ∀ q ∈ locs, HXA s q.base) (hl : lv_has ls 8 [(4, .int (nI i)), (3, .ref (b + 510)), (2, .ref (b + 501)), (1, .ref b), (0, .ref sb)]) : W p l e room_1 s m #[Value.ref sb] below meth c H locs cells slots (lw_Z below #[Value.ref sb] s) (F0 m 961 ls []) := by
  have hx := E.1
  have hb := E.2.1
  have hK := E.2.2.2.2.2
  have hw0 := State.WarmedH.refl s
  obtain ⟨⟨hmr, hmq, rfl⟩, ⟨hR0, c0, m0, t0, hc0, hm0, ht0, hj0⟩, ⟨c7, m7, t7, hc7, hm7, hj7⟩, P, V, hcw, hrl⟩ := id hT
  clear hT
  have hbd := hM.2.2.2.2.2.1
  refine lv_aload_n hx hb d_Law_law_961 rfl (lv_at hl 3 rfl) ?_
  refine lv_aload_n hx hb d_Law_law_962 rfl (lv_at hl 4 rfl) ?_
  refine lv_iload hx hb d_Law_law_963 (lv_at hl 0 rfl) ?_
  refine lv_iconst (v := nI 1) hx hb d_Law_law_965 (by decide) ?_
  refine lv_iadd hx hb d_Law_law_966 ?_
  refine lv_topi (fun t9 e9 => ?_)
  obtain rfl : t9 = nI (i + 1) := e9.trans (nI_add _ _)
  refine q_xld E hX (i + 1) rfl (by omega) (by omega) d_Law_law_967 ?_
  refine lv_aload_n hx hb d_Law_law_968 rfl (lv_at hl 4 rfl) ?_
  refine lv_iload hx hb d_Law_law_969 (lv_at hl 0 rfl) ?_
  refine lv_iconst (v := nI 2) hx hb d_Law_law_971 (by decide) ?_
  refine lv_iadd hx hb d_Law_law_972 ?_
  refine lv_topi (fun t9 e9 => ?_)
  obtain rfl : t9 = nI (i + 2) := e9.trans (nI_add _ _)
  refine q_xld E hX (i + 2) rfl (by omega) (by omega) d_Law_law_973 ?_
  refine lv_aload_n hx hb d_Law_law_974 rfl (lv_at hl 4 rfl) ?_
  refine lv_iload hx hb d_Law_law_975 (lv_at hl 0 rfl) ?_
  refine lv_iconst (v := nI 3) hx hb d_Law_law_977 (by decide) ?_
  refine lv_iadd hx hb d_Law_law_978 ?_
  refine lv_topi (fun t9 e9 => ?_)
  obtain rfl : t9 = nI (i + 3) := e9.trans (nI_add _ _)
  refine q_xld E hX (i + 3) rfl (by omega) (by omega) d_Law_law_979 ?_
  refine lv_aload_n hx hb d_Law_law_980 rfl (lv_at hl 4 rfl) ?_
  refine lv_iload hx hb d_Law_law_981 (lv_at hl 0 rfl) ?_
  refine lv_iconst (v := nI 4) hx hb d_Law_law_983 (by decide) ?_
  refine lv_iadd hx hb d_Law_law_984 ?_
  refine lv_topi (fun t9 e9 => ?_)
  obtain rfl : t9 = nI (i + 4) := e9.trans (nI_add _ _)
  refine q_xld E hX (i + 4) rfl (by omega) (by omega) d_Law_law_985 ?_
  refine q_cSH (rest := []) E hw0 (XH_open l g s hxs b pn tn wn mr mq hb0 (xs (i + 1)) (xs (i + 2)) (xs (i + 3)) (xs (i + 4)) hmr A P V) w_844 w_0 w_842 w_843 hd_Law_open rfl ⟨by decide, by decide⟩ ⟨hG, hcw⟩ hF hl.1 rfl (Nat.le_of_ble_eq_true rfl) d_Law_law_986 hc (qi (fun r5 H1 locs hq hF => ?_))
  obtain ⟨hq, hfr⟩ := hq
  have hX := hX.kept (hfr sb (Or.inl (Nat.lt_of_lt_of_le hsb hb0)))
  have hM := hM.on (fun q h1 h2 => hfr q (Or.inr (Or.inl ⟨h1, h2⟩)))
  have hm0 : AI g H1 (b + 501 + 6) 96 m0 := AI.eq hm0 (hfr _ (Or.inr (Or.inl ⟨by omega, by omega⟩)))
  have hm7 : AI g H1 (b + 501 + 7) 96 m7 := AI.eq hm7 (hfr _ (Or.inr (Or.inl ⟨by omega, by omega⟩)))
  have hc0 : AB g H1 (b + 149) 96 c0 := hc0.eq (hfr _ (Or.inr (Or.inr (Or.inl rfl))))
  have hc7 : AB g H1 (b + 151) 96 c7 := hc7.eq (hfr _ (Or.inr (Or.inr (Or.inr rfl))))
  refine lv_istore (lv' := [(5, .int r5), (4, .int (nI i)), (3, .ref (b + 510)), (2, .ref (b + 501)), (1, .ref b), (0, .ref sb)]) hx hb d_Law_law_989 hl (by decide) rfl (fun ls hl => ?_)
  refine lv_aload_n hx hb d_Law_law_991 rfl (lv_at hl 3 rfl) ?_
  refine lv_aload_n hx hb d_Law_law_992 rfl (lv_at hl 5 rfl) ?_
  refine lv_iload hx hb d_Law_law_993 (lv_at hl 1 rfl) ?_
  refine lv_iconst (v := nI 1) hx hb d_Law_law_995 (by decide) ?_
  refine lv_iadd hx hb d_Law_law_996 ?_
  refine lv_topi (fun t9 e9 => ?_)
  obtain rfl : t9 = nI (i + 1) := e9.trans (nI_add _ _)
  refine q_xld E hX (i + 1) rfl (by omega) (by omega) d_Law_law_997 ?_
  refine lv_aload_n hx hb d_Law_law_998 rfl (lv_at hl 5 rfl) ?_
  refine lv_iload hx hb d_Law_law_999 (lv_at hl 1 rfl) ?_
  refine lv_iconst (v := nI 2) hx hb d_Law_law_1001 (by decide) ?_
  refine lv_iadd hx hb d_Law_law_1002 ?_
  refine lv_topi (fun t9 e9 => ?_)
  obtain rfl : t9 = nI (i + 2) := e9.trans (nI_add _ _)
  refine q_xld E hX (i + 2) rfl (by omega) (by omega) d_Law_law_1003 ?_
  refine lv_aload_n hx hb d_Law_law_1004 rfl (lv_at hl 5 rfl) ?_
  refine lv_iload hx hb d_Law_law_1005 (lv_at hl 1 rfl) ?_
  refine lv_iconst (v := nI 3) hx hb d_Law_law_1007 (by decide) ?_
  refine lv_iadd hx hb d_Law_law_1008 ?_
  refine lv_topi (fun t9 e9 => ?_)
  obtain rfl : t9 = nI (i + 3) := e9.trans (nI_add _ _)
  refine q_xld E hX (i + 3) rfl (by omega) (by omega) d_Law_law_1009 ?_
  refine lv_aload_n hx hb d_Law_law_1010 rfl (lv_at hl 5 rfl) ?_
  refine lv_iload hx hb d_Law_law_1011 (lv_at hl 1 rfl) ?_
  refine lv_iconst (v := nI 4) hx hb d_Law_law_1013 (by decide) ?_
  refine lv_iadd hx hb d_Law_law_1014 ?_
  refine lv_topi (fun t9 e9 => ?_)
  obtain rfl : t9 = nI (i + 4) := e9.trans (nI_add _ _)
  refine q_xld E hX (i + 4) rfl (by omega) (by omega) d_Law_law_1015 ?_
  obtain ⟨w9, n9, hob⟩ := hM.ob
  refine q_cV (rest := []) E ((YF_Model_open l g (nMT (b + 501)) (b + 501) th pn tn wn A (xs (i + 1)) (xs (i + 2)) (xs (i + 3)) (xs (i + 4))).frV (nMT_up hb0)) w_1231 w_15 w_1228 w_1229 w_1230 hd_Model_open rfl ⟨by decide, by decide⟩ (OB.recv E.2.2.2.2.2 (by rfl) hob) hM hF hl.1 rfl (Nat.le_of_ble_eq_true rfl) d_Law_law_1016 hc (qv (fun H2 locs hq6 hF => ?_))
  obtain ⟨hq6, hfr6⟩ := hq6
  have hX := hX.kept (hfr6.2 sb hX.lt (nMT_n (nM_lt hb0 hsb)))
  clear hob hM
  have hm7 := ai_T7 hm7 hfr6
  have hm0 := ai_T6 hm0 hfr6
  rcases hq with ⟨hok, rfl, hG, hcw1⟩ | ⟨hok, rfl, hG, hcw1⟩
  · skip
    have hM : MVP g (nMT (b + 501)) H2 (b + 501) 0 pn tn wn (fOpen (xs (i + 1)) (xs (i + 2)) (xs (i + 3)) (xs (i + 4)) A) := by
      rcases hq6 with ⟨-, h⟩ | ⟨h, -⟩
      · exact h
      · exact absurd hok h
    refine lv_goto (tgt := 1252) hx hb d_Law_law_1019 (by decide) ?_
    have hl : lv_has ls 8 [(4, .int (nI i)), (3, .ref (b + 510)), (2, .ref (b + 501)), (1, .ref b), (0, .ref sb)] := lv_sub hl [1, 2, 3, 4, 5] rfl
    exact hN _ _ ls _ _ _ _ _ _ (hG.frq hb0 (nMT_fr hfr6)) hM (TW.mk hmr hmq hG.2.1 hfr6 (fun q h => nMT_ge h) hcw1 hbd.1 (hrl.sc (op_hi hok)) hc0 hm0 ht0 hj0 hc7 hm7 hj7) hX hF hl
  · skip
    have hM : MVP g (nMT (b + 501)) H2 (b + 501) 1 pn tn wn A := by
      rcases hq6 with ⟨h, -⟩ | ⟨-, h⟩
      · exact absurd h hok
      · exact h
    refine lv_goto (tgt := 1252) hx hb d_Law_law_1019 (by decide) ?_
    have hl : lv_has ls 8 [(4, .int (nI i)), (3, .ref (b + 510)), (2, .ref (b + 501)), (1, .ref b), (0, .ref sb)] := lv_sub hl [1, 2, 3, 4, 5] rfl
    exact hN _ _ ls _ _ _ _ _ _ (hG.frq hb0 (nMT_fr hfr6)) hM (TW.mk hmr hmq hG.2.1 hfr6 (fun q h => nMT_ge h) hcw1 hbd.1 hrl hc0 hm0 ht0 hj0 hc7 hm7 hj7) hX hF hl
set_option maxHeartbeats 4000000 in
set_option maxRecDepth 100000 in
theorem k_checks {p : Program} {l : Launch} {e : Env} {s : State} {m : MethodId} {below : List Frame} {meth : Method} {c : Code} {g : WG} {sb L : Nat} {xs : Nat → Int32} {b : Nat} {mr mq : Int64} {H : Heap} {locs : List Loc} {ls : Array Slot} {th : Int32} {pn tn wn wm i cells slots : Nat} {A : Nat → Int} (E : EV p m c code 8 s #[Value.ref sb] "KateDeskLaw" g) (hr : meth.sig.returnType = ret) (hlk : meth.locks = false) (hb0 : s.heap.size ≤ b) (hsb : sb < s.heap.size) (hxs : XS l s) (hL : L ≤ 3072) (hi : i + 6 ≤ L) (hc : cells + 1 ≤ room_1.cells ∧ slots + 6 ≤ room_1.slots) (hN : LNX p l e s m below meth c g sb L xs b mr mq i (cells + 1) (slots + 6)) (hG : LG g s H b pn tn wn mr mq) (hM : MVP g (nMT (b + 501)) H (b + 501) th pn tn wm A) (hT : TW g H b pn tn wn wm A mr mq) (hX : va_X sb L xs s H) (hF : ∀ q ∈ locs, HXA s q.base) (hl : lv_has ls 8 [(4, .int (nI i)), (3, .ref (b + 510)), (2, .ref (b + 501)), (1, .ref b), (0, .ref sb)]) : W p l e room_1 s m #[Value.ref sb] below meth c H locs cells slots (lw_Z below #[Value.ref sb] s) (F0 m 1022 ls []) := by
  have hx := E.1
  have hb := E.2.1
  have hK := E.2.2.2.2.2
  have hw0 := State.WarmedH.refl s
  obtain ⟨⟨hmr, hmq, rfl⟩, ⟨hR0, c0, m0, t0, hc0, hm0, ht0, hj0⟩, ⟨c7, m7, t7, hc7, hm7, hj7⟩, P, V, hcw, hrl⟩ := id hT
  clear hT
  have hbd := hM.2.2.2.2.2.1
  refine lv_aload_n hx hb d_Law_law_1022 rfl (lv_at hl 3 rfl) ?_
  refine lv_aload_n hx hb d_Law_law_1023 rfl (lv_at hl 4 rfl) ?_
  refine lv_iload hx hb d_Law_law_1024 (lv_at hl 0 rfl) ?_
  refine lv_iconst (v := nI 1) hx hb d_Law_law_1026 (by decide) ?_
  refine lv_iadd hx hb d_Law_law_1027 ?_
  refine lv_topi (fun t9 e9 => ?_)
  obtain rfl : t9 = nI (i + 1) := e9.trans (nI_add _ _)
  refine q_xld E hX (i + 1) rfl (by omega) (by omega) d_Law_law_1028 ?_
  refine lv_aload_n hx hb d_Law_law_1029 rfl (lv_at hl 4 rfl) ?_
  refine lv_iload hx hb d_Law_law_1030 (lv_at hl 0 rfl) ?_
  refine lv_iconst (v := nI 2) hx hb d_Law_law_1032 (by decide) ?_
  refine lv_iadd hx hb d_Law_law_1033 ?_
  refine lv_topi (fun t9 e9 => ?_)
  obtain rfl : t9 = nI (i + 2) := e9.trans (nI_add _ _)
  refine q_xld E hX (i + 2) rfl (by omega) (by omega) d_Law_law_1034 ?_
  refine lv_aload_n hx hb d_Law_law_1035 rfl (lv_at hl 4 rfl) ?_
  refine lv_iload hx hb d_Law_law_1036 (lv_at hl 0 rfl) ?_
  refine lv_iconst (v := nI 3) hx hb d_Law_law_1038 (by decide) ?_
  refine lv_iadd hx hb d_Law_law_1039 ?_
  refine lv_topi (fun t9 e9 => ?_)
  obtain rfl : t9 = nI (i + 3) := e9.trans (nI_add _ _)
  refine q_xld E hX (i + 3) rfl (by omega) (by omega) d_Law_law_1040 ?_
  refine lv_aload_n hx hb d_Law_law_1041 rfl (lv_at hl 4 rfl) ?_
  refine lv_iload hx hb d_Law_law_1042 (lv_at hl 0 rfl) ?_
  refine lv_iconst (v := nI 4) hx hb d_Law_law_1044 (by decide) ?_
  refine lv_iadd hx hb d_Law_law_1045 ?_
  refine lv_topi (fun t9 e9 => ?_)
  obtain rfl : t9 = nI (i + 4) := e9.trans (nI_add _ _)
  refine q_xld E hX (i + 4) rfl (by omega) (by omega) d_Law_law_1046 ?_
  refine lv_aload_n hx hb d_Law_law_1047 rfl (lv_at hl 4 rfl) ?_
  refine lv_iload hx hb d_Law_law_1048 (lv_at hl 0 rfl) ?_
  refine lv_iconst (v := nI 5) hx hb d_Law_law_1050 (by decide) ?_
  refine lv_iadd hx hb d_Law_law_1051 ?_
  refine lv_topi (fun t9 e9 => ?_)
  obtain rfl : t9 = nI (i + 5) := e9.trans (nI_add _ _)
  refine q_xld E hX (i + 5) rfl (by omega) (by omega) d_Law_law_1052 ?_
  refine lv_aload_n hx hb d_Law_law_1053 rfl (lv_at hl 1 rfl) ?_
  refine q_cSH (rest := []) E hw0 (XH_checks l g s hxs b pn tn wn mr mq hb0 (xs (i + 1)) (xs (i + 2)) (xs (i + 3)) (xs (i + 4)) (xs (i + 5)) hmr hmq A P V) w_859 w_0 w_857 w_858 hd_Law_checks rfl ⟨by decide, by decide⟩ ⟨hG, hcw⟩ hF hl.1 rfl (Nat.le_of_ble_eq_true rfl) d_Law_law_1054 hc (qi (fun r5 H1 locs hq hF => ?_))
  obtain ⟨hq, hfr⟩ := hq
  have hX := hX.kept (hfr sb (Or.inl (Nat.lt_of_lt_of_le hsb hb0)))
  have hM := hM.on (fun q h1 h2 => hfr q (Or.inr (Or.inl ⟨h1, h2⟩)))
  have hm0 : AI g H1 (b + 501 + 6) 96 m0 := AI.eq hm0 (hfr _ (Or.inr (Or.inl ⟨by omega, by omega⟩)))
  have hm7 : AI g H1 (b + 501 + 7) 96 m7 := AI.eq hm7 (hfr _ (Or.inr (Or.inl ⟨by omega, by omega⟩)))
  have hA9 := hrl.hon hcw
  have hc0 : AB g H1 (b + 149) 96 c0 := hc0.eq (hfr _ (Or.inr (Or.inr (Or.inl rfl))))
  have hc7 : AB g H1 (b + 151) 96 c7 := hc7.eq (hfr _ (Or.inr (Or.inr (Or.inr rfl))))
  refine lv_istore (lv' := [(5, .int r5), (4, .int (nI i)), (3, .ref (b + 510)), (2, .ref (b + 501)), (1, .ref b), (0, .ref sb)]) hx hb d_Law_law_1057 hl (by decide) rfl (fun ls hl => ?_)
  refine lv_aload_n hx hb d_Law_law_1059 rfl (lv_at hl 3 rfl) ?_
  refine lv_aload_n hx hb d_Law_law_1060 rfl (lv_at hl 5 rfl) ?_
  refine lv_iload hx hb d_Law_law_1061 (lv_at hl 1 rfl) ?_
  refine lv_iconst (v := nI 1) hx hb d_Law_law_1063 (by decide) ?_
  refine lv_iadd hx hb d_Law_law_1064 ?_
  refine lv_topi (fun t9 e9 => ?_)
  obtain rfl : t9 = nI (i + 1) := e9.trans (nI_add _ _)
  refine q_xld E hX (i + 1) rfl (by omega) (by omega) d_Law_law_1065 ?_
  refine lv_aload_n hx hb d_Law_law_1066 rfl (lv_at hl 5 rfl) ?_
  refine lv_iload hx hb d_Law_law_1067 (lv_at hl 1 rfl) ?_
  refine lv_iconst (v := nI 2) hx hb d_Law_law_1069 (by decide) ?_
  refine lv_iadd hx hb d_Law_law_1070 ?_
  refine lv_topi (fun t9 e9 => ?_)
  obtain rfl : t9 = nI (i + 2) := e9.trans (nI_add _ _)
  refine q_xld E hX (i + 2) rfl (by omega) (by omega) d_Law_law_1071 ?_
  refine lv_aload_n hx hb d_Law_law_1072 rfl (lv_at hl 5 rfl) ?_
  refine lv_iload hx hb d_Law_law_1073 (lv_at hl 1 rfl) ?_
  refine lv_iconst (v := nI 3) hx hb d_Law_law_1075 (by decide) ?_
  refine lv_iadd hx hb d_Law_law_1076 ?_
  refine lv_topi (fun t9 e9 => ?_)
  obtain rfl : t9 = nI (i + 3) := e9.trans (nI_add _ _)
  refine q_xld E hX (i + 3) rfl (by omega) (by omega) d_Law_law_1077 ?_
  refine lv_aload_n hx hb d_Law_law_1078 rfl (lv_at hl 5 rfl) ?_
  refine lv_iload hx hb d_Law_law_1079 (lv_at hl 1 rfl) ?_
  refine lv_iconst (v := nI 4) hx hb d_Law_law_1081 (by decide) ?_
  refine lv_iadd hx hb d_Law_law_1082 ?_
  refine lv_topi (fun t9 e9 => ?_)
  obtain rfl : t9 = nI (i + 4) := e9.trans (nI_add _ _)
  refine q_xld E hX (i + 4) rfl (by omega) (by omega) d_Law_law_1083 ?_
  refine lv_aload_n hx hb d_Law_law_1084 rfl (lv_at hl 5 rfl) ?_
  refine lv_iload hx hb d_Law_law_1085 (lv_at hl 1 rfl) ?_
  refine lv_iconst (v := nI 5) hx hb d_Law_law_1087 (by decide) ?_
  refine lv_iadd hx hb d_Law_law_1088 ?_
  refine lv_topi (fun t9 e9 => ?_)
  obtain rfl : t9 = nI (i + 5) := e9.trans (nI_add _ _)
  refine q_xld E hX (i + 5) rfl (by omega) (by omega) d_Law_law_1089 ?_
  obtain ⟨w9, n9, hob⟩ := hM.ob
  refine q_cV (rest := []) E ((W_Model_checks l g (nMT (b + 501)) (b + 501) th pn tn wn A (xs (i + 1)) (xs (i + 2)) (xs (i + 3)) (xs (i + 4)) (xs (i + 5)) hA9 hrl.hoG).frI (nMT_up hb0)) w_1239 w_15 w_1236 w_1237 w_1238 hd_Model_checks rfl ⟨by decide, by decide⟩ (OB.recv E.2.2.2.2.2 (by rfl) hob) hM hF hl.1 rfl (Nat.le_of_ble_eq_true rfl) d_Law_law_1090 hc (qi (fun r6 H2 locs hq6 hF => ?_))
  obtain ⟨hq6, hfr6⟩ := hq6
  have hX := hX.kept (hfr6.2 sb hX.lt (nMT_n (nM_lt hb0 hsb)))
  clear hob hM
  have hm7 := ai_T7 hm7 hfr6
  have hm0 := ai_T6 hm0 hfr6
  rcases hq with ⟨hok, rfl, hG, k1, k2, k3, k4, k5, rb, e1, e2, e3, e4, e5, hbn, ⟨T, hT9, hr9⟩, hA, hcw1⟩ | ⟨hok, rfl, hG, hcw1⟩
  · skip
    obtain ⟨hM, h69⟩ : MVP g (nMT (b + 501)) H2 (b + 501) 0 pn tn wn A ∧ r6 = rb := by
      rcases hq6 with ⟨-, j1, j2, j3, j4, j5, f1, f2, f3, f4, f5, b1, b2, b3, b4, b5, ⟨U, Y, hU, hY, hr8⟩, h⟩ | ⟨h, -⟩
      · obtain rfl := ni_un e1 f1 (by omega) (by omega)
        obtain rfl := ni_un e2 f2 (by omega) (by omega)
        obtain rfl := ni_un e3 f3 (by omega) (by omega)
        obtain rfl := ni_un e4 f4 (by omega) (by omega)
        obtain rfl := ni_un e5 f5 (by omega) (by omega)
        rw [hrl.2.2] at hY
        have hTA : PE T (AD Y U) := ck_sum (hA9 k2 b2) (hrl.1 k2 b2) hT9 hY hU
        exact ⟨h, (bl_un hr9 hr8 (((pe_if (hrl.1 k1 b1) hTA)).trans (ck_iff (hA9 k1 b1) (RP_on hY) (RP_on hU)).symm)).symm⟩
      · exact absurd hok h
    subst h69
    refine lv_istore (lv' := [(6, .int r6), (5, .int (nI 0)), (4, .int (nI i)), (3, .ref (b + 510)), (2, .ref (b + 501)), (1, .ref b), (0, .ref sb)]) hx hb d_Law_law_1093 hl (by decide) rfl (fun ls hl => ?_)
    refine lv_goto (tgt := 1252) hx hb d_Law_law_1095 (by decide) ?_
    have hl : lv_has ls 8 [(4, .int (nI i)), (3, .ref (b + 510)), (2, .ref (b + 501)), (1, .ref b), (0, .ref sb)] := lv_sub hl [2, 3, 4, 5, 6] rfl
    exact hN _ _ ls _ _ _ _ _ _ (hG.frq hb0 (nMT_fr hfr6)) hM (TW.mk hmr hmq hG.2.1 hfr6 (fun q h => nMT_ge h) hcw1 hbd.1 hrl hc0 hm0 ht0 hj0 hc7 hm7 hj7) hX hF hl
  · skip
    have hM : MVP g (nMT (b + 501)) H2 (b + 501) 1 pn tn wn A := by
      rcases hq6 with ⟨h, -⟩ | ⟨-, h⟩
      · exact absurd h hok
      · exact h
    refine lv_istore (lv' := [(6, .int r6), (5, .int (nI 1)), (4, .int (nI i)), (3, .ref (b + 510)), (2, .ref (b + 501)), (1, .ref b), (0, .ref sb)]) hx hb d_Law_law_1093 hl (by decide) rfl (fun ls hl => ?_)
    refine lv_goto (tgt := 1252) hx hb d_Law_law_1095 (by decide) ?_
    have hl : lv_has ls 8 [(4, .int (nI i)), (3, .ref (b + 510)), (2, .ref (b + 501)), (1, .ref b), (0, .ref sb)] := lv_sub hl [2, 3, 4, 5, 6] rfl
    exact hN _ _ ls _ _ _ _ _ _ (hG.frq hb0 (nMT_fr hfr6)) hM (TW.mk hmr hmq hG.2.1 hfr6 (fun q h => nMT_ge h) hcw1 hbd.1 hrl hc0 hm0 ht0 hj0 hc7 hm7 hj7) hX hF hl
set_option maxHeartbeats 4000000 in
set_option maxRecDepth 100000 in
theorem k_transform {p : Program} {l : Launch} {e : Env} {s : State} {m : MethodId} {below : List Frame} {meth : Method} {c : Code} {g : WG} {sb L : Nat} {xs : Nat → Int32} {b : Nat} {mr mq : Int64} {H : Heap} {locs : List Loc} {ls : Array Slot} {th : Int32} {pn tn wn wm i cells slots : Nat} {A : Nat → Int} (E : EV p m c code 8 s #[Value.ref sb] "KateDeskLaw" g) (hr : meth.sig.returnType = ret) (hlk : meth.locks = false) (hb0 : s.heap.size ≤ b) (hsb : sb < s.heap.size) (hxs : XS l s) (hL : L ≤ 3072) (hi : i + 6 ≤ L) (hc : cells + 1 ≤ room_1.cells ∧ slots + 6 ≤ room_1.slots) (hN : LNX p l e s m below meth c g sb L xs b mr mq i (cells + 1) (slots + 6)) (hG : LG g s H b pn tn wn mr mq) (hM : MVP g (nMT (b + 501)) H (b + 501) th pn tn wm A) (hT : TW g H b pn tn wn wm A mr mq) (hX : va_X sb L xs s H) (hF : ∀ q ∈ locs, HXA s q.base) (hl : lv_has ls 8 [(4, .int (nI i)), (3, .ref (b + 510)), (2, .ref (b + 501)), (1, .ref b), (0, .ref sb)]) : W p l e room_1 s m #[Value.ref sb] below meth c H locs cells slots (lw_Z below #[Value.ref sb] s) (F0 m 1098 ls []) := by
  have hx := E.1
  have hb := E.2.1
  have hK := E.2.2.2.2.2
  have hw0 := State.WarmedH.refl s
  obtain ⟨⟨hmr, hmq, rfl⟩, ⟨hR0, c0, m0, t0, hc0, hm0, ht0, hj0⟩, ⟨c7, m7, t7, hc7, hm7, hj7⟩, P, V, hcw, hrl⟩ := id hT
  clear hT
  have hbd := hM.2.2.2.2.2.1
  by_cases hzb : xs (i + 3) = 0
  · skip
    refine lv_aload_n hx hb d_Law_law_1098 rfl (lv_at hl 3 rfl) ?_
    refine lv_aload_n hx hb d_Law_law_1099 rfl (lv_at hl 4 rfl) ?_
    refine lv_iload hx hb d_Law_law_1100 (lv_at hl 0 rfl) ?_
    refine lv_iconst (v := nI 1) hx hb d_Law_law_1102 (by decide) ?_
    refine lv_iadd hx hb d_Law_law_1103 ?_
    refine lv_topi (fun t9 e9 => ?_)
    obtain rfl : t9 = nI (i + 1) := e9.trans (nI_add _ _)
    refine q_xld E hX (i + 1) rfl (by omega) (by omega) d_Law_law_1104 ?_
    refine lv_aload_n hx hb d_Law_law_1105 rfl (lv_at hl 4 rfl) ?_
    refine lv_iload hx hb d_Law_law_1106 (lv_at hl 0 rfl) ?_
    refine lv_iconst (v := nI 2) hx hb d_Law_law_1108 (by decide) ?_
    refine lv_iadd hx hb d_Law_law_1109 ?_
    refine lv_topi (fun t9 e9 => ?_)
    obtain rfl : t9 = nI (i + 2) := e9.trans (nI_add _ _)
    refine q_xld E hX (i + 2) rfl (by omega) (by omega) d_Law_law_1110 ?_
    refine lv_aload_n hx hb d_Law_law_1111 rfl (lv_at hl 4 rfl) ?_
    refine lv_iload hx hb d_Law_law_1112 (lv_at hl 0 rfl) ?_
    refine lv_iconst (v := nI 3) hx hb d_Law_law_1114 (by decide) ?_
    refine lv_iadd hx hb d_Law_law_1115 ?_
    refine lv_topi (fun t9 e9 => ?_)
    obtain rfl : t9 = nI (i + 3) := e9.trans (nI_add _ _)
    refine q_xld E hX (i + 3) rfl (by omega) (by omega) d_Law_law_1116 ?_
    refine lv_if_eq (tgt := 1124) hx hb d_Law_law_1117 (by decide) (fun _ => ?_) (fun h9 => absurd (hzb) h9)
    refine lv_iconst (v := nI 0) hx hb d_Law_law_1124 (by decide) ?_
    refine q_cSH (rest := []) E hw0 (XH_transform l g s hxs b pn tn wn mr mq hb0 (xs (i + 1)) (xs (i + 2)) (nI 0) hmr A P V) w_866 w_0 w_864 w_865 hd_Law_transform rfl ⟨by decide, by decide⟩ ⟨hG, hcw⟩ hF hl.1 rfl (Nat.le_of_ble_eq_true rfl) d_Law_law_1125 hc (qi (fun r5 H1 locs hq hF => ?_))
    obtain ⟨hq, hfr⟩ := hq
    have hX := hX.kept (hfr sb (Or.inl (Nat.lt_of_lt_of_le hsb hb0)))
    have hM := hM.on (fun q h1 h2 => hfr q (Or.inr (Or.inl ⟨h1, h2⟩)))
    have hm0 : AI g H1 (b + 501 + 6) 96 m0 := AI.eq hm0 (hfr _ (Or.inr (Or.inl ⟨by omega, by omega⟩)))
    have hm7 : AI g H1 (b + 501 + 7) 96 m7 := AI.eq hm7 (hfr _ (Or.inr (Or.inl ⟨by omega, by omega⟩)))
    have hc0 : AB g H1 (b + 149) 96 c0 := hc0.eq (hfr _ (Or.inr (Or.inr (Or.inl rfl))))
    have hc7 : AB g H1 (b + 151) 96 c7 := hc7.eq (hfr _ (Or.inr (Or.inr (Or.inr rfl))))
    refine lv_istore (lv' := [(5, .int r5), (4, .int (nI i)), (3, .ref (b + 510)), (2, .ref (b + 501)), (1, .ref b), (0, .ref sb)]) hx hb d_Law_law_1128 hl (by decide) rfl (fun ls hl => ?_)
    refine lv_aload_n hx hb d_Law_law_1130 rfl (lv_at hl 3 rfl) ?_
    refine lv_aload_n hx hb d_Law_law_1131 rfl (lv_at hl 5 rfl) ?_
    refine lv_iload hx hb d_Law_law_1132 (lv_at hl 1 rfl) ?_
    refine lv_iconst (v := nI 1) hx hb d_Law_law_1134 (by decide) ?_
    refine lv_iadd hx hb d_Law_law_1135 ?_
    refine lv_topi (fun t9 e9 => ?_)
    obtain rfl : t9 = nI (i + 1) := e9.trans (nI_add _ _)
    refine q_xld E hX (i + 1) rfl (by omega) (by omega) d_Law_law_1136 ?_
    refine lv_aload_n hx hb d_Law_law_1137 rfl (lv_at hl 5 rfl) ?_
    refine lv_iload hx hb d_Law_law_1138 (lv_at hl 1 rfl) ?_
    refine lv_iconst (v := nI 2) hx hb d_Law_law_1140 (by decide) ?_
    refine lv_iadd hx hb d_Law_law_1141 ?_
    refine lv_topi (fun t9 e9 => ?_)
    obtain rfl : t9 = nI (i + 2) := e9.trans (nI_add _ _)
    refine q_xld E hX (i + 2) rfl (by omega) (by omega) d_Law_law_1142 ?_
    refine lv_aload_n hx hb d_Law_law_1143 rfl (lv_at hl 5 rfl) ?_
    refine lv_iload hx hb d_Law_law_1144 (lv_at hl 1 rfl) ?_
    refine lv_iconst (v := nI 3) hx hb d_Law_law_1146 (by decide) ?_
    refine lv_iadd hx hb d_Law_law_1147 ?_
    refine lv_topi (fun t9 e9 => ?_)
    obtain rfl : t9 = nI (i + 3) := e9.trans (nI_add _ _)
    refine q_xld E hX (i + 3) rfl (by omega) (by omega) d_Law_law_1148 ?_
    refine lv_if_eq (tgt := 1156) hx hb d_Law_law_1149 (by decide) (fun _ => ?_) (fun h9 => absurd (hzb) h9)
    refine lv_iconst (v := nI 0) hx hb d_Law_law_1156 (by decide) ?_
    obtain ⟨w9, n9, hob⟩ := hM.ob
    refine q_cV (rest := []) E ((YF_Model_transform l g (nMT (b + 501)) (b + 501) th pn tn wn A (xs (i + 1)) (xs (i + 2)) (nI 0)).frV (nMT_up hb0)) w_1243 w_15 w_1240 w_1241 w_1242 hd_Model_transform rfl ⟨by decide, by decide⟩ (OB.recv E.2.2.2.2.2 (by rfl) hob) hM hF hl.1 rfl (Nat.le_of_ble_eq_true rfl) d_Law_law_1157 hc (qv (fun H2 locs hq6 hF => ?_))
    obtain ⟨hq6, hfr6⟩ := hq6
    have hX := hX.kept (hfr6.2 sb hX.lt (nMT_n (nM_lt hb0 hsb)))
    clear hob hM
    have hm7 := ai_T7 hm7 hfr6
    have hm0 := ai_T6 hm0 hfr6
    rcases hq with ⟨hok, rfl, hG, hcw1⟩ | ⟨hok, rfl, hG, hcw1⟩
    · skip
      have hM : MVP g (nMT (b + 501)) H2 (b + 501) 0 pn tn wn (fTr (xs (i + 1)) (xs (i + 2)) (nI 0) A) := by
        rcases hq6 with ⟨-, h⟩ | ⟨h, -⟩
        · exact h
        · exact absurd hok h
      refine lv_goto (tgt := 1252) hx hb d_Law_law_1160 (by decide) ?_
      have hl : lv_has ls 8 [(4, .int (nI i)), (3, .ref (b + 510)), (2, .ref (b + 501)), (1, .ref b), (0, .ref sb)] := lv_sub hl [1, 2, 3, 4, 5] rfl
      exact hN _ _ ls _ _ _ _ _ _ (hG.frq hb0 (nMT_fr hfr6)) hM (TW.mk hmr hmq hG.2.1 hfr6 (fun q h => nMT_ge h) hcw1 hbd.1 (hrl.sc (tr_hi hok)) hc0 hm0 ht0 hj0 hc7 hm7 hj7) hX hF hl
    · skip
      have hM : MVP g (nMT (b + 501)) H2 (b + 501) 1 pn tn wn A := by
        rcases hq6 with ⟨h, -⟩ | ⟨-, h⟩
        · exact absurd h hok
        · exact h
      refine lv_goto (tgt := 1252) hx hb d_Law_law_1160 (by decide) ?_
      have hl : lv_has ls 8 [(4, .int (nI i)), (3, .ref (b + 510)), (2, .ref (b + 501)), (1, .ref b), (0, .ref sb)] := lv_sub hl [1, 2, 3, 4, 5] rfl
      exact hN _ _ ls _ _ _ _ _ _ (hG.frq hb0 (nMT_fr hfr6)) hM (TW.mk hmr hmq hG.2.1 hfr6 (fun q h => nMT_ge h) hcw1 hbd.1 hrl hc0 hm0 ht0 hj0 hc7 hm7 hj7) hX hF hl
  · skip
    refine lv_aload_n hx hb d_Law_law_1098 rfl (lv_at hl 3 rfl) ?_
    refine lv_aload_n hx hb d_Law_law_1099 rfl (lv_at hl 4 rfl) ?_
    refine lv_iload hx hb d_Law_law_1100 (lv_at hl 0 rfl) ?_
    refine lv_iconst (v := nI 1) hx hb d_Law_law_1102 (by decide) ?_
    refine lv_iadd hx hb d_Law_law_1103 ?_
    refine lv_topi (fun t9 e9 => ?_)
    obtain rfl : t9 = nI (i + 1) := e9.trans (nI_add _ _)
    refine q_xld E hX (i + 1) rfl (by omega) (by omega) d_Law_law_1104 ?_
    refine lv_aload_n hx hb d_Law_law_1105 rfl (lv_at hl 4 rfl) ?_
    refine lv_iload hx hb d_Law_law_1106 (lv_at hl 0 rfl) ?_
    refine lv_iconst (v := nI 2) hx hb d_Law_law_1108 (by decide) ?_
    refine lv_iadd hx hb d_Law_law_1109 ?_
    refine lv_topi (fun t9 e9 => ?_)
    obtain rfl : t9 = nI (i + 2) := e9.trans (nI_add _ _)
    refine q_xld E hX (i + 2) rfl (by omega) (by omega) d_Law_law_1110 ?_
    refine lv_aload_n hx hb d_Law_law_1111 rfl (lv_at hl 4 rfl) ?_
    refine lv_iload hx hb d_Law_law_1112 (lv_at hl 0 rfl) ?_
    refine lv_iconst (v := nI 3) hx hb d_Law_law_1114 (by decide) ?_
    refine lv_iadd hx hb d_Law_law_1115 ?_
    refine lv_topi (fun t9 e9 => ?_)
    obtain rfl : t9 = nI (i + 3) := e9.trans (nI_add _ _)
    refine q_xld E hX (i + 3) rfl (by omega) (by omega) d_Law_law_1116 ?_
    refine lv_if_eq (tgt := 1124) hx hb d_Law_law_1117 (by decide) (fun h9 => absurd h9 (hzb)) (fun _ => ?_)
    refine lv_iconst (v := nI 1) hx hb d_Law_law_1120 (by decide) ?_
    refine lv_goto (tgt := 1125) hx hb d_Law_law_1121 (by decide) ?_
    refine q_cSH (rest := []) E hw0 (XH_transform l g s hxs b pn tn wn mr mq hb0 (xs (i + 1)) (xs (i + 2)) (nI 1) hmr A P V) w_866 w_0 w_864 w_865 hd_Law_transform rfl ⟨by decide, by decide⟩ ⟨hG, hcw⟩ hF hl.1 rfl (Nat.le_of_ble_eq_true rfl) d_Law_law_1125 hc (qi (fun r5 H1 locs hq hF => ?_))
    obtain ⟨hq, hfr⟩ := hq
    have hX := hX.kept (hfr sb (Or.inl (Nat.lt_of_lt_of_le hsb hb0)))
    have hM := hM.on (fun q h1 h2 => hfr q (Or.inr (Or.inl ⟨h1, h2⟩)))
    have hm0 : AI g H1 (b + 501 + 6) 96 m0 := AI.eq hm0 (hfr _ (Or.inr (Or.inl ⟨by omega, by omega⟩)))
    have hm7 : AI g H1 (b + 501 + 7) 96 m7 := AI.eq hm7 (hfr _ (Or.inr (Or.inl ⟨by omega, by omega⟩)))
    have hc0 : AB g H1 (b + 149) 96 c0 := hc0.eq (hfr _ (Or.inr (Or.inr (Or.inl rfl))))
    have hc7 : AB g H1 (b + 151) 96 c7 := hc7.eq (hfr _ (Or.inr (Or.inr (Or.inr rfl))))
    refine lv_istore (lv' := [(5, .int r5), (4, .int (nI i)), (3, .ref (b + 510)), (2, .ref (b + 501)), (1, .ref b), (0, .ref sb)]) hx hb d_Law_law_1128 hl (by decide) rfl (fun ls hl => ?_)
    refine lv_aload_n hx hb d_Law_law_1130 rfl (lv_at hl 3 rfl) ?_
    refine lv_aload_n hx hb d_Law_law_1131 rfl (lv_at hl 5 rfl) ?_
    refine lv_iload hx hb d_Law_law_1132 (lv_at hl 1 rfl) ?_
    refine lv_iconst (v := nI 1) hx hb d_Law_law_1134 (by decide) ?_
    refine lv_iadd hx hb d_Law_law_1135 ?_
    refine lv_topi (fun t9 e9 => ?_)
    obtain rfl : t9 = nI (i + 1) := e9.trans (nI_add _ _)
    refine q_xld E hX (i + 1) rfl (by omega) (by omega) d_Law_law_1136 ?_
    refine lv_aload_n hx hb d_Law_law_1137 rfl (lv_at hl 5 rfl) ?_
    refine lv_iload hx hb d_Law_law_1138 (lv_at hl 1 rfl) ?_
    refine lv_iconst (v := nI 2) hx hb d_Law_law_1140 (by decide) ?_
    refine lv_iadd hx hb d_Law_law_1141 ?_
    refine lv_topi (fun t9 e9 => ?_)
    obtain rfl : t9 = nI (i + 2) := e9.trans (nI_add _ _)
    refine q_xld E hX (i + 2) rfl (by omega) (by omega) d_Law_law_1142 ?_
    refine lv_aload_n hx hb d_Law_law_1143 rfl (lv_at hl 5 rfl) ?_
    refine lv_iload hx hb d_Law_law_1144 (lv_at hl 1 rfl) ?_
    refine lv_iconst (v := nI 3) hx hb d_Law_law_1146 (by decide) ?_
    refine lv_iadd hx hb d_Law_law_1147 ?_
    refine lv_topi (fun t9 e9 => ?_)
    obtain rfl : t9 = nI (i + 3) := e9.trans (nI_add _ _)
    refine q_xld E hX (i + 3) rfl (by omega) (by omega) d_Law_law_1148 ?_
    refine lv_if_eq (tgt := 1156) hx hb d_Law_law_1149 (by decide) (fun h9 => absurd h9 (hzb)) (fun _ => ?_)
    refine lv_iconst (v := nI 1) hx hb d_Law_law_1152 (by decide) ?_
    refine lv_goto (tgt := 1157) hx hb d_Law_law_1153 (by decide) ?_
    obtain ⟨w9, n9, hob⟩ := hM.ob
    refine q_cV (rest := []) E ((YF_Model_transform l g (nMT (b + 501)) (b + 501) th pn tn wn A (xs (i + 1)) (xs (i + 2)) (nI 1)).frV (nMT_up hb0)) w_1243 w_15 w_1240 w_1241 w_1242 hd_Model_transform rfl ⟨by decide, by decide⟩ (OB.recv E.2.2.2.2.2 (by rfl) hob) hM hF hl.1 rfl (Nat.le_of_ble_eq_true rfl) d_Law_law_1157 hc (qv (fun H2 locs hq6 hF => ?_))
    obtain ⟨hq6, hfr6⟩ := hq6
    have hX := hX.kept (hfr6.2 sb hX.lt (nMT_n (nM_lt hb0 hsb)))
    clear hob hM
    have hm7 := ai_T7 hm7 hfr6
    have hm0 := ai_T6 hm0 hfr6
    rcases hq with ⟨hok, rfl, hG, hcw1⟩ | ⟨hok, rfl, hG, hcw1⟩
    · skip
      have hM : MVP g (nMT (b + 501)) H2 (b + 501) 0 pn tn wn (fTr (xs (i + 1)) (xs (i + 2)) (nI 1) A) := by
        rcases hq6 with ⟨-, h⟩ | ⟨h, -⟩
        · exact h
        · exact absurd hok h
      refine lv_goto (tgt := 1252) hx hb d_Law_law_1160 (by decide) ?_
      have hl : lv_has ls 8 [(4, .int (nI i)), (3, .ref (b + 510)), (2, .ref (b + 501)), (1, .ref b), (0, .ref sb)] := lv_sub hl [1, 2, 3, 4, 5] rfl
      exact hN _ _ ls _ _ _ _ _ _ (hG.frq hb0 (nMT_fr hfr6)) hM (TW.mk hmr hmq hG.2.1 hfr6 (fun q h => nMT_ge h) hcw1 hbd.1 (hrl.sc (tr_hi hok)) hc0 hm0 ht0 hj0 hc7 hm7 hj7) hX hF hl
    · skip
      have hM : MVP g (nMT (b + 501)) H2 (b + 501) 1 pn tn wn A := by
        rcases hq6 with ⟨h, -⟩ | ⟨-, h⟩
        · exact absurd h hok
        · exact h
      refine lv_goto (tgt := 1252) hx hb d_Law_law_1160 (by decide) ?_
      have hl : lv_has ls 8 [(4, .int (nI i)), (3, .ref (b + 510)), (2, .ref (b + 501)), (1, .ref b), (0, .ref sb)] := lv_sub hl [1, 2, 3, 4, 5] rfl
      exact hN _ _ ls _ _ _ _ _ _ (hG.frq hb0 (nMT_fr hfr6)) hM (TW.mk hmr hmq hG.2.1 hfr6 (fun q h => nMT_ge h) hcw1 hbd.1 hrl hc0 hm0 ht0 hj0 hc7 hm7 hj7) hX hF hl
set_option maxHeartbeats 4000000 in
set_option maxRecDepth 100000 in
theorem k_lagrange {p : Program} {l : Launch} {e : Env} {s : State} {m : MethodId} {below : List Frame} {meth : Method} {c : Code} {g : WG} {sb L : Nat} {xs : Nat → Int32} {b : Nat} {mr mq : Int64} {H : Heap} {locs : List Loc} {ls : Array Slot} {th : Int32} {pn tn wn wm i cells slots : Nat} {A : Nat → Int} (E : EV p m c code 8 s #[Value.ref sb] "KateDeskLaw" g) (hr : meth.sig.returnType = ret) (hlk : meth.locks = false) (hb0 : s.heap.size ≤ b) (hsb : sb < s.heap.size) (hxs : XS l s) (hL : L ≤ 3072) (hi : i + 6 ≤ L) (hc : cells + 1 ≤ room_1.cells ∧ slots + 6 ≤ room_1.slots) (hN : LNX p l e s m below meth c g sb L xs b mr mq i (cells + 1) (slots + 6)) (hG : LG g s H b pn tn wn mr mq) (hM : MVP g (nMT (b + 501)) H (b + 501) th pn tn wm A) (hT : TW g H b pn tn wn wm A mr mq) (hX : va_X sb L xs s H) (hF : ∀ q ∈ locs, HXA s q.base) (hl : lv_has ls 8 [(4, .int (nI i)), (3, .ref (b + 510)), (2, .ref (b + 501)), (1, .ref b), (0, .ref sb)]) : W p l e room_1 s m #[Value.ref sb] below meth c H locs cells slots (lw_Z below #[Value.ref sb] s) (F0 m 1163 ls []) := by
  have hx := E.1
  have hb := E.2.1
  have hK := E.2.2.2.2.2
  have hw0 := State.WarmedH.refl s
  obtain ⟨⟨hmr, hmq, rfl⟩, ⟨hR0, c0, m0, t0, hc0, hm0, ht0, hj0⟩, ⟨c7, m7, t7, hc7, hm7, hj7⟩, P, V, hcw, hrl⟩ := id hT
  clear hT
  have hbd := hM.2.2.2.2.2.1
  refine lv_aload_n hx hb d_Law_law_1163 rfl (lv_at hl 3 rfl) ?_
  refine lv_aload_n hx hb d_Law_law_1164 rfl (lv_at hl 4 rfl) ?_
  refine lv_iload hx hb d_Law_law_1165 (lv_at hl 0 rfl) ?_
  refine lv_iconst (v := nI 1) hx hb d_Law_law_1167 (by decide) ?_
  refine lv_iadd hx hb d_Law_law_1168 ?_
  refine lv_topi (fun t9 e9 => ?_)
  obtain rfl : t9 = nI (i + 1) := e9.trans (nI_add _ _)
  refine q_xld E hX (i + 1) rfl (by omega) (by omega) d_Law_law_1169 ?_
  refine lv_aload_n hx hb d_Law_law_1170 rfl (lv_at hl 4 rfl) ?_
  refine lv_iload hx hb d_Law_law_1171 (lv_at hl 0 rfl) ?_
  refine lv_iconst (v := nI 2) hx hb d_Law_law_1173 (by decide) ?_
  refine lv_iadd hx hb d_Law_law_1174 ?_
  refine lv_topi (fun t9 e9 => ?_)
  obtain rfl : t9 = nI (i + 2) := e9.trans (nI_add _ _)
  refine q_xld E hX (i + 2) rfl (by omega) (by omega) d_Law_law_1175 ?_
  refine lv_aload_n hx hb d_Law_law_1176 rfl (lv_at hl 4 rfl) ?_
  refine lv_iload hx hb d_Law_law_1177 (lv_at hl 0 rfl) ?_
  refine lv_iconst (v := nI 3) hx hb d_Law_law_1179 (by decide) ?_
  refine lv_iadd hx hb d_Law_law_1180 ?_
  refine lv_topi (fun t9 e9 => ?_)
  obtain rfl : t9 = nI (i + 3) := e9.trans (nI_add _ _)
  refine q_xld E hX (i + 3) rfl (by omega) (by omega) d_Law_law_1181 ?_
  refine lv_aload_n hx hb d_Law_law_1182 rfl (lv_at hl 4 rfl) ?_
  refine lv_iload hx hb d_Law_law_1183 (lv_at hl 0 rfl) ?_
  refine lv_iconst (v := nI 4) hx hb d_Law_law_1185 (by decide) ?_
  refine lv_iadd hx hb d_Law_law_1186 ?_
  refine lv_topi (fun t9 e9 => ?_)
  obtain rfl : t9 = nI (i + 4) := e9.trans (nI_add _ _)
  refine q_xld E hX (i + 4) rfl (by omega) (by omega) d_Law_law_1187 ?_
  refine q_cSH (rest := []) E hw0 (XH_lagrange l g s hxs b pn tn wn mr mq hb0 (xs (i + 1)) (xs (i + 2)) (xs (i + 3)) (xs (i + 4)) hmr A P V) w_890 w_0 w_888 w_889 hd_Law_lagrange rfl ⟨by decide, by decide⟩ ⟨hG, hcw⟩ hF hl.1 rfl (Nat.le_of_ble_eq_true rfl) d_Law_law_1188 hc (qi (fun r5 H1 locs hq hF => ?_))
  obtain ⟨hq, hfr⟩ := hq
  have hX := hX.kept (hfr sb (Or.inl (Nat.lt_of_lt_of_le hsb hb0)))
  have hM := hM.on (fun q h1 h2 => hfr q (Or.inr (Or.inl ⟨h1, h2⟩)))
  have hm0 : AI g H1 (b + 501 + 6) 96 m0 := AI.eq hm0 (hfr _ (Or.inr (Or.inl ⟨by omega, by omega⟩)))
  have hm7 : AI g H1 (b + 501 + 7) 96 m7 := AI.eq hm7 (hfr _ (Or.inr (Or.inl ⟨by omega, by omega⟩)))
  have hc0 : AB g H1 (b + 149) 96 c0 := hc0.eq (hfr _ (Or.inr (Or.inr (Or.inl rfl))))
  have hc7 : AB g H1 (b + 151) 96 c7 := hc7.eq (hfr _ (Or.inr (Or.inr (Or.inr rfl))))
  refine lv_istore (lv' := [(5, .int r5), (4, .int (nI i)), (3, .ref (b + 510)), (2, .ref (b + 501)), (1, .ref b), (0, .ref sb)]) hx hb d_Law_law_1191 hl (by decide) rfl (fun ls hl => ?_)
  refine lv_aload_n hx hb d_Law_law_1193 rfl (lv_at hl 3 rfl) ?_
  refine lv_aload_n hx hb d_Law_law_1194 rfl (lv_at hl 5 rfl) ?_
  refine lv_iload hx hb d_Law_law_1195 (lv_at hl 1 rfl) ?_
  refine lv_iconst (v := nI 1) hx hb d_Law_law_1197 (by decide) ?_
  refine lv_iadd hx hb d_Law_law_1198 ?_
  refine lv_topi (fun t9 e9 => ?_)
  obtain rfl : t9 = nI (i + 1) := e9.trans (nI_add _ _)
  refine q_xld E hX (i + 1) rfl (by omega) (by omega) d_Law_law_1199 ?_
  refine lv_aload_n hx hb d_Law_law_1200 rfl (lv_at hl 5 rfl) ?_
  refine lv_iload hx hb d_Law_law_1201 (lv_at hl 1 rfl) ?_
  refine lv_iconst (v := nI 2) hx hb d_Law_law_1203 (by decide) ?_
  refine lv_iadd hx hb d_Law_law_1204 ?_
  refine lv_topi (fun t9 e9 => ?_)
  obtain rfl : t9 = nI (i + 2) := e9.trans (nI_add _ _)
  refine q_xld E hX (i + 2) rfl (by omega) (by omega) d_Law_law_1205 ?_
  refine lv_aload_n hx hb d_Law_law_1206 rfl (lv_at hl 5 rfl) ?_
  refine lv_iload hx hb d_Law_law_1207 (lv_at hl 1 rfl) ?_
  refine lv_iconst (v := nI 3) hx hb d_Law_law_1209 (by decide) ?_
  refine lv_iadd hx hb d_Law_law_1210 ?_
  refine lv_topi (fun t9 e9 => ?_)
  obtain rfl : t9 = nI (i + 3) := e9.trans (nI_add _ _)
  refine q_xld E hX (i + 3) rfl (by omega) (by omega) d_Law_law_1211 ?_
  refine lv_aload_n hx hb d_Law_law_1212 rfl (lv_at hl 5 rfl) ?_
  refine lv_iload hx hb d_Law_law_1213 (lv_at hl 1 rfl) ?_
  refine lv_iconst (v := nI 4) hx hb d_Law_law_1215 (by decide) ?_
  refine lv_iadd hx hb d_Law_law_1216 ?_
  refine lv_topi (fun t9 e9 => ?_)
  obtain rfl : t9 = nI (i + 4) := e9.trans (nI_add _ _)
  refine q_xld E hX (i + 4) rfl (by omega) (by omega) d_Law_law_1217 ?_
  obtain ⟨w9, n9, hob⟩ := hM.ob
  refine q_cV (rest := []) E ((YF_Model_lagrange l g (nMT (b + 501)) (b + 501) th pn tn wn A (xs (i + 1)) (xs (i + 2)) (xs (i + 3)) (xs (i + 4))).frV (nMT_up hb0)) w_1247 w_15 w_1244 w_1245 w_1246 hd_Model_lagrange rfl ⟨by decide, by decide⟩ (OB.recv E.2.2.2.2.2 (by rfl) hob) hM hF hl.1 rfl (Nat.le_of_ble_eq_true rfl) d_Law_law_1218 hc (qv (fun H2 locs hq6 hF => ?_))
  obtain ⟨hq6, hfr6⟩ := hq6
  have hX := hX.kept (hfr6.2 sb hX.lt (nMT_n (nM_lt hb0 hsb)))
  clear hob hM
  have hm7 := ai_T7 hm7 hfr6
  have hm0 := ai_T6 hm0 hfr6
  rcases hq with ⟨hok, rfl, hG, hcw1⟩ | ⟨hok, rfl, hG, hcw1⟩
  · skip
    have hM : MVP g (nMT (b + 501)) H2 (b + 501) 0 pn tn wn (fLag (xs (i + 1)) (xs (i + 2)) (xs (i + 3)) (xs (i + 4)) A) := by
      rcases hq6 with ⟨-, h⟩ | ⟨h, -⟩
      · exact h
      · exact absurd hok h
    refine lv_goto (tgt := 1252) hx hb d_Law_law_1221 (by decide) ?_
    have hl : lv_has ls 8 [(4, .int (nI i)), (3, .ref (b + 510)), (2, .ref (b + 501)), (1, .ref b), (0, .ref sb)] := lv_sub hl [1, 2, 3, 4, 5] rfl
    exact hN _ _ ls _ _ _ _ _ _ (hG.frq hb0 (nMT_fr hfr6)) hM (TW.mk hmr hmq hG.2.1 hfr6 (fun q h => nMT_ge h) hcw1 hbd.1 (hrl.sc (uI_hi (nt_S hok.1))) hc0 hm0 ht0 hj0 hc7 hm7 hj7) hX hF hl
  · skip
    have hM : MVP g (nMT (b + 501)) H2 (b + 501) 1 pn tn wn A := by
      rcases hq6 with ⟨h, -⟩ | ⟨-, h⟩
      · exact absurd h hok
      · exact h
    refine lv_goto (tgt := 1252) hx hb d_Law_law_1221 (by decide) ?_
    have hl : lv_has ls 8 [(4, .int (nI i)), (3, .ref (b + 510)), (2, .ref (b + 501)), (1, .ref b), (0, .ref sb)] := lv_sub hl [1, 2, 3, 4, 5] rfl
    exact hN _ _ ls _ _ _ _ _ _ (hG.frq hb0 (nMT_fr hfr6)) hM (TW.mk hmr hmq hG.2.1 hfr6 (fun q h => nMT_ge h) hcw1 hbd.1 hrl hc0 hm0 ht0 hj0 hc7 hm7 hj7) hX hF hl
set_option maxHeartbeats 4000000 in
set_option maxRecDepth 100000 in
theorem k_look {p : Program} {l : Launch} {e : Env} {s : State} {m : MethodId} {below : List Frame} {meth : Method} {c : Code} {g : WG} {sb L : Nat} {xs : Nat → Int32} {b : Nat} {mr mq : Int64} {H : Heap} {locs : List Loc} {ls : Array Slot} {th : Int32} {pn tn wn wm i cells slots : Nat} {A : Nat → Int} (E : EV p m c code 8 s #[Value.ref sb] "KateDeskLaw" g) (hr : meth.sig.returnType = ret) (hlk : meth.locks = false) (hb0 : s.heap.size ≤ b) (hsb : sb < s.heap.size) (hxs : XS l s) (hL : L ≤ 3072) (hi : i + 6 ≤ L) (hc : cells + 1 ≤ room_1.cells ∧ slots + 6 ≤ room_1.slots) (hN : LNX p l e s m below meth c g sb L xs b mr mq i (cells + 1) (slots + 6)) (hG : LG g s H b pn tn wn mr mq) (hM : MVP g (nMT (b + 501)) H (b + 501) th pn tn wm A) (hT : TW g H b pn tn wn wm A mr mq) (hX : va_X sb L xs s H) (hF : ∀ q ∈ locs, HXA s q.base) (hl : lv_has ls 8 [(4, .int (nI i)), (3, .ref (b + 510)), (2, .ref (b + 501)), (1, .ref b), (0, .ref sb)]) : W p l e room_1 s m #[Value.ref sb] below meth c H locs cells slots (lw_Z below #[Value.ref sb] s) (F0 m 1224 ls []) := by
  have hx := E.1
  have hb := E.2.1
  have hK := E.2.2.2.2.2
  have hw0 := State.WarmedH.refl s
  obtain ⟨⟨hmr, hmq, rfl⟩, ⟨hR0, c0, m0, t0, hc0, hm0, ht0, hj0⟩, ⟨c7, m7, t7, hc7, hm7, hj7⟩, P, V, hcw, hrl⟩ := id hT
  clear hT
  have hbd := hM.2.2.2.2.2.1
  refine lv_aload_n hx hb d_Law_law_1224 rfl (lv_at hl 3 rfl) ?_
  refine lv_aload_n hx hb d_Law_law_1225 rfl (lv_at hl 4 rfl) ?_
  refine lv_iload hx hb d_Law_law_1226 (lv_at hl 0 rfl) ?_
  refine lv_iconst (v := nI 1) hx hb d_Law_law_1228 (by decide) ?_
  refine lv_iadd hx hb d_Law_law_1229 ?_
  refine lv_topi (fun t9 e9 => ?_)
  obtain rfl : t9 = nI (i + 1) := e9.trans (nI_add _ _)
  refine q_xld E hX (i + 1) rfl (by omega) (by omega) d_Law_law_1230 ?_
  refine lv_aload_n hx hb d_Law_law_1231 rfl (lv_at hl 1 rfl) ?_
  refine q_cSH (rest := []) E hw0 (XH_look l g s hxs b pn tn wn mr mq hb0 (xs (i + 1)) hmr hmq A P V) w_901 w_0 w_899 w_900 hd_Law_look rfl ⟨by decide, by decide⟩ ⟨hG, hcw⟩ hF hl.1 rfl (Nat.le_of_ble_eq_true rfl) d_Law_law_1232 hc (qi (fun r5 H1 locs hq hF => ?_))
  obtain ⟨hq, hfr⟩ := hq
  have hX := hX.kept (hfr sb (Or.inl (Nat.lt_of_lt_of_le hsb hb0)))
  have hM := hM.on (fun q h1 h2 => hfr q (Or.inr (Or.inl ⟨h1, h2⟩)))
  have hm0 : AI g H1 (b + 501 + 6) 96 m0 := AI.eq hm0 (hfr _ (Or.inr (Or.inl ⟨by omega, by omega⟩)))
  have hm7 : AI g H1 (b + 501 + 7) 96 m7 := AI.eq hm7 (hfr _ (Or.inr (Or.inl ⟨by omega, by omega⟩)))
  have hc0 : AB g H1 (b + 149) 96 c0 := hc0.eq (hfr _ (Or.inr (Or.inr (Or.inl rfl))))
  have hc7 : AB g H1 (b + 151) 96 c7 := hc7.eq (hfr _ (Or.inr (Or.inr (Or.inr rfl))))
  refine lv_istore (lv' := [(5, .int r5), (4, .int (nI i)), (3, .ref (b + 510)), (2, .ref (b + 501)), (1, .ref b), (0, .ref sb)]) hx hb d_Law_law_1235 hl (by decide) rfl (fun ls hl => ?_)
  refine lv_aload_n hx hb d_Law_law_1237 rfl (lv_at hl 3 rfl) ?_
  refine lv_aload_n hx hb d_Law_law_1238 rfl (lv_at hl 5 rfl) ?_
  refine lv_iload hx hb d_Law_law_1239 (lv_at hl 1 rfl) ?_
  refine lv_iconst (v := nI 1) hx hb d_Law_law_1241 (by decide) ?_
  refine lv_iadd hx hb d_Law_law_1242 ?_
  refine lv_topi (fun t9 e9 => ?_)
  obtain rfl : t9 = nI (i + 1) := e9.trans (nI_add _ _)
  refine q_xld E hX (i + 1) rfl (by omega) (by omega) d_Law_law_1243 ?_
  obtain ⟨w9, n9, hob⟩ := hM.ob
  refine q_cV (rest := []) E ((Z_Model_look l g (nMT (b + 501)) (b + 501) th pn tn wn A (xs (i + 1))).frI (nMT_up hb0)) w_1251 w_15 w_1248 w_1249 w_1250 hd_Model_look rfl ⟨by decide, by decide⟩ (OB.recv E.2.2.2.2.2 (by rfl) hob) hM hF hl.1 rfl (Nat.le_of_ble_eq_true rfl) d_Law_law_1244 hc (qi (fun r6 H2 locs hq6 hF => ?_))
  obtain ⟨hq6, hfr6⟩ := hq6
  have hX := hX.kept (hfr6.2 sb hX.lt (nMT_n (nM_lt hb0 hsb)))
  clear hob hM
  have hm7 := ai_T7 hm7 hfr6
  have hm0 := ai_T6 hm0 hfr6
  rcases hq with ⟨hok, rfl, hG, hcw1⟩ | ⟨hok, rfl, hG, hcw1⟩
  · skip
    have hM : MVP g (nMT (b + 501)) H2 (b + 501) 0 pn tn wn A := by
      rcases hq6 with ⟨-, h⟩ | ⟨h, -⟩
      · exact h
      · exact absurd hok h
    refine lv_istore (lv' := [(6, .int r6), (5, .int (nI 0)), (4, .int (nI i)), (3, .ref (b + 510)), (2, .ref (b + 501)), (1, .ref b), (0, .ref sb)]) hx hb d_Law_law_1247 hl (by decide) rfl (fun ls hl => ?_)
    refine lv_goto (tgt := 1252) hx hb d_Law_law_1249 (by decide) ?_
    have hl : lv_has ls 8 [(4, .int (nI i)), (3, .ref (b + 510)), (2, .ref (b + 501)), (1, .ref b), (0, .ref sb)] := lv_sub hl [2, 3, 4, 5, 6] rfl
    exact hN _ _ ls _ _ _ _ _ _ (hG.frq hb0 (nMT_fr hfr6)) hM (TW.mk hmr hmq hG.2.1 hfr6 (fun q h => nMT_ge h) hcw1 hbd.1 hrl hc0 hm0 ht0 hj0 hc7 hm7 hj7) hX hF hl
  · skip
    have hM : MVP g (nMT (b + 501)) H2 (b + 501) 1 pn tn wn A := by
      rcases hq6 with ⟨h, -⟩ | ⟨-, h⟩
      · exact absurd h hok
      · exact h
    refine lv_istore (lv' := [(6, .int r6), (5, .int (nI 1)), (4, .int (nI i)), (3, .ref (b + 510)), (2, .ref (b + 501)), (1, .ref b), (0, .ref sb)]) hx hb d_Law_law_1247 hl (by decide) rfl (fun ls hl => ?_)
    refine lv_goto (tgt := 1252) hx hb d_Law_law_1249 (by decide) ?_
    have hl : lv_has ls 8 [(4, .int (nI i)), (3, .ref (b + 510)), (2, .ref (b + 501)), (1, .ref b), (0, .ref sb)] := lv_sub hl [2, 3, 4, 5, 6] rfl
    exact hN _ _ ls _ _ _ _ _ _ (hG.frq hb0 (nMT_fr hfr6)) hM (TW.mk hmr hmq hG.2.1 hfr6 (fun q h => nMT_ge h) hcw1 hbd.1 hrl hc0 hm0 ht0 hj0 hc7 hm7 hj7) hX hF hl
