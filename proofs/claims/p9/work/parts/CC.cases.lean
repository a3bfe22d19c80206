set_option maxHeartbeats 4000000 in
set_option maxRecDepth 100000 in
theorem k_feed {p : Program} {l : Launch} {e : Env} {s : State} {m : MethodId} {below : List Frame} {meth : Method} {c : Code} {g : WG} {sb L : Nat} {xs : Nat → Int32} {b : Nat} {mr mq : Int64} {H : Heap} {locs : List Loc} {ls : Array Slot} {th : Int32} {pn tn wn wm i cells slots : Nat} (E : EV p m c code 8 s #[Value.ref sb] "KateDeskLaw" g) (hr : meth.sig.returnType = ret) (hlk : meth.locks = false) (hb0 : s.heap.size ≤ b) (hsb : sb < s.heap.size) (hxs : XS l s) (hno : va_Nc "java/lang/IllegalStateException" "java/lang/IllegalArgumentException" s) (hL : L ≤ 3072) (hi : i + 6 ≤ L) (hc : cells + 1 ≤ room_1.cells ∧ slots + 6 ≤ room_1.slots) (hN : LNX p l e s m below meth c g sb L xs b mr mq i (cells + 1) (slots + 6)) (hG : LG g s H b pn tn wn mr mq) (hM : MP g (nMT (b + 501)) H (b + 501) th pn tn wm) (hT : TW9 g H b tn mq) (hX : va_X sb L xs s H) (hF : ∀ q ∈ locs, HXA s q.base) (hl : lv_has ls 8 [(4, .int (nI i)), (3, .ref (b + 510)), (2, .ref (b + 501)), (1, .ref b), (0, .ref sb)]) : W p l e room_1 s m #[Value.ref sb] below meth c H locs cells slots (lw_Z below #[Value.ref sb] s) (F0 m 140 ls []) := by
  have hx := E.1
  have hb := E.2.1
  have hK := E.2.2.2.2.2
  have hw0 := State.WarmedH.refl s
  have hbd := hM.2.2.2.2.1
  obtain ⟨hmq, ⟨hR0, c0, m0, t0, hc0, hm0, ht0, hj0⟩, hcq, fa, hfa, hAT⟩ := id hT
  refine lv_aload_n hx hb d_Law_law_140 rfl (lv_at hl 3 rfl) ?_
  refine lv_aload_n hx hb d_Law_law_141 rfl (lv_at hl 4 rfl) ?_
  refine lv_iload hx hb d_Law_law_142 (lv_at hl 0 rfl) ?_
  refine lv_iconst (v := nI 1) hx hb d_Law_law_144 (by decide) ?_
  refine lv_iadd hx hb d_Law_law_145 ?_
  refine lv_topi (fun t9 e9 => ?_)
  obtain rfl : t9 = nI (i + 1) := e9.trans (nI_add _ _)
  refine q_xld E hX (i + 1) rfl (by omega) (by omega) d_Law_law_146 ?_
  refine lv_aload_n hx hb d_Law_law_147 rfl (lv_at hl 4 rfl) ?_
  refine lv_iload hx hb d_Law_law_148 (lv_at hl 0 rfl) ?_
  refine lv_iconst (v := nI 2) hx hb d_Law_law_150 (by decide) ?_
  refine lv_iadd hx hb d_Law_law_151 ?_
  refine lv_topi (fun t9 e9 => ?_)
  obtain rfl : t9 = nI (i + 2) := e9.trans (nI_add _ _)
  refine q_xld E hX (i + 2) rfl (by omega) (by omega) d_Law_law_152 ?_
  refine lv_i2l (v := (xs (i + 2)).toInt64) hx hb d_Law_law_153 rfl ?_
  refine lv_bipush (v := nI 32) hx hb d_Law_law_154 (by decide) ?_
  refine lv_lshl (v := ((xs (i + 2)).toInt64) <<< ((nI 32).toInt64 &&& 63)) hx hb d_Law_law_156 rfl ?_
  refine lv_aload_n hx hb d_Law_law_157 rfl (lv_at hl 4 rfl) ?_
  refine lv_iload hx hb d_Law_law_158 (lv_at hl 0 rfl) ?_
  refine lv_iconst (v := nI 3) hx hb d_Law_law_160 (by decide) ?_
  refine lv_iadd hx hb d_Law_law_161 ?_
  refine lv_topi (fun t9 e9 => ?_)
  obtain rfl : t9 = nI (i + 3) := e9.trans (nI_add _ _)
  refine q_xld E hX (i + 3) rfl (by omega) (by omega) d_Law_law_162 ?_
  refine lv_i2l (v := (xs (i + 3)).toInt64) hx hb d_Law_law_163 rfl ?_
  refine lv_ldc2 (v := 4294967295) hx hb E.2.2.2.1 (E.2.2.2.2.1 _ w_1252) d_Law_law_164 ?_
  refine lv_land hx hb d_Law_law_167 ?_
  refine lv_lor hx hb d_Law_law_168 ?_
  refine lv_aload_n hx hb d_Law_law_169 rfl (lv_at hl 1 rfl) ?_
  refine q_cSH (rest := []) E hw0 (XH_feed l g s hxs b pn tn wn mr mq hb0 (xs (i + 1)) ((((xs (i + 2)).toInt64) <<< ((nI 32).toInt64 &&& 63)) ||| (((xs (i + 3)).toInt64) &&& 4294967295)) c0 hno) w_390 w_0 w_388 w_389 hd_Law_feed rfl ⟨by decide, by decide⟩ ⟨hG, hc0⟩ hF hl.1 rfl (Nat.le_of_ble_eq_true rfl) d_Law_law_170 hc (qi (fun r5 H1 locs hq hF => ?_))
  obtain ⟨hq, hfr⟩ := hq
  have hX := hX.kept (hfr sb (Or.inl (Nat.lt_of_lt_of_le hsb hb0)))
  have hM := hM.on (fun q h1 h2 => hfr q (Or.inr (Or.inl ⟨h1, h2⟩)))
  have hm0 : AI g H1 (b + 501 + 6) 96 m0 := AI.eq hm0 (hfr _ (Or.inr (Or.inl ⟨by omega, by omega⟩)))
  have hfa : AJ g H1 (b + 501 + 4) 420 fa := hfa.eq (hfr _ (Or.inr (Or.inl ⟨by omega, by omega⟩)))
  have hcq := hcq.eqE (fun q h => hfr q (kU_E h))
  clear hT
  refine lv_istore (lv' := [(5, .int r5), (4, .int (nI i)), (3, .ref (b + 510)), (2, .ref (b + 501)), (1, .ref b), (0, .ref sb)]) hx hb d_Law_law_173 hl (by decide) rfl (fun ls hl => ?_)
  refine lv_aload_n hx hb d_Law_law_175 rfl (lv_at hl 3 rfl) ?_
  refine lv_aload_n hx hb d_Law_law_176 rfl (lv_at hl 5 rfl) ?_
  refine lv_iload hx hb d_Law_law_177 (lv_at hl 1 rfl) ?_
  refine lv_iconst (v := nI 1) hx hb d_Law_law_179 (by decide) ?_
  refine lv_iadd hx hb d_Law_law_180 ?_
  refine lv_topi (fun t9 e9 => ?_)
  obtain rfl : t9 = nI (i + 1) := e9.trans (nI_add _ _)
  refine q_xld E hX (i + 1) rfl (by omega) (by omega) d_Law_law_181 ?_
  refine lv_aload_n hx hb d_Law_law_182 rfl (lv_at hl 5 rfl) ?_
  refine lv_iload hx hb d_Law_law_183 (lv_at hl 1 rfl) ?_
  refine lv_iconst (v := nI 2) hx hb d_Law_law_185 (by decide) ?_
  refine lv_iadd hx hb d_Law_law_186 ?_
  refine lv_topi (fun t9 e9 => ?_)
  obtain rfl : t9 = nI (i + 2) := e9.trans (nI_add _ _)
  refine q_xld E hX (i + 2) rfl (by omega) (by omega) d_Law_law_187 ?_
  refine lv_i2l (v := (xs (i + 2)).toInt64) hx hb d_Law_law_188 rfl ?_
  refine lv_bipush (v := nI 32) hx hb d_Law_law_189 (by decide) ?_
  refine lv_lshl (v := ((xs (i + 2)).toInt64) <<< ((nI 32).toInt64 &&& 63)) hx hb d_Law_law_191 rfl ?_
  refine lv_aload_n hx hb d_Law_law_192 rfl (lv_at hl 5 rfl) ?_
  refine lv_iload hx hb d_Law_law_193 (lv_at hl 1 rfl) ?_
  refine lv_iconst (v := nI 3) hx hb d_Law_law_195 (by decide) ?_
  refine lv_iadd hx hb d_Law_law_196 ?_
  refine lv_topi (fun t9 e9 => ?_)
  obtain rfl : t9 = nI (i + 3) := e9.trans (nI_add _ _)
  refine q_xld E hX (i + 3) rfl (by omega) (by omega) d_Law_law_197 ?_
  refine lv_i2l (v := (xs (i + 3)).toInt64) hx hb d_Law_law_198 rfl ?_
  refine lv_ldc2 (v := 4294967295) hx hb E.2.2.2.1 (E.2.2.2.2.1 _ w_1252) d_Law_law_199 ?_
  refine lv_land hx hb d_Law_law_202 ?_
  refine lv_lor hx hb d_Law_law_203 ?_
  obtain ⟨w9, n9, hob⟩ := hM.ob
  refine q_cV (rest := []) E ((X_Model_feed l g (nMG (b + 501)) (b + 501) th pn tn wm (xs (i + 1)) ((((xs (i + 2)).toInt64) <<< ((nI 32).toInt64 &&& 63)) ||| (((xs (i + 3)).toInt64) &&& 4294967295)) m0 (nMG_c (by decide))).frI (nMG_up hb0)) w_1052 w_15 w_1049 w_1050 w_1051 hd_Model_feed rfl ⟨by decide, by decide⟩ (OB.recv E.2.2.2.2.2 (by rfl) hob) (⟨hM.upG, hm0⟩) hF hl.1 rfl (Nat.le_of_ble_eq_true rfl) d_Law_law_204 hc (qi (fun r6 H2 locs hq6 hF => ?_))
  obtain ⟨hq6, hfr6⟩ := hq6
  have hX := hX.kept (hfr6.2 sb hX.lt (nMG_n (nM_lt hb0 hsb)))
  clear hob hM
  have hfe : ∀ q, q = b + 149 ∨ kE b q → H2[q]? = H1[q]? := fun q h => hfr6.2 q (Nat.lt_of_lt_of_le (show q < b + 511 by unfold kE at h; omega) (by rcases hq with ⟨-, ⟨_, -, -, -, h, -⟩ | ⟨-, -, h, -⟩⟩ | ⟨-, -, h, -⟩ <;> exact h.2.1)) (by unfold kE at h; unfold nMG nM; omega)
  have hcq := hcq.eqE (fun q h => hfe q (Or.inr h))
  have hmt : MT9 g H2 (b + 501) := ⟨fa, hfa.eq (hfr6.2 _ hfa.lt (fun k => k.2 rfl)), hAT⟩
  rcases hq with ⟨hok, ⟨k9, e9, hf9, rfl, hG, c1, hc1, hcv⟩ | ⟨hf9, rfl, hG, hc1⟩⟩ | ⟨hok, rfl, hG, hc1⟩
  · skip
    obtain ⟨hM, m1, hm1, hfm⟩ : MP g (nMG (b + 501)) H2 (b + 501) 0 pn (tn + k9) wm ∧ ∃ c', AI g H2 (b + 501 + 6) 96 c' ∧ fdM m0 ((((xs (i + 2)).toInt64) <<< ((nI 32).toInt64 &&& 63)) ||| (((xs (i + 3)).toInt64) &&& 4294967295)) tn k9 c' := by
      rcases hq6 with ⟨-, ⟨k8, e8, f8, h1, h2⟩ | ⟨h, -⟩⟩ | ⟨h, -⟩
      · obtain rfl := eq16 (e8.symm.trans e9) (Nat.le_trans (Nat.le_add_left _ _) f8) (Nat.le_trans (Nat.le_add_left _ _) hf9)
        exact h2
      · exact absurd (by rw [e9, nI_add]; exact nI_le hf9 (by decide)) h
      · exact absurd hok h
    have hM := hM.dnG
    refine lv_istore (lv' := [(6, .int r6), (5, .int (nI 0)), (4, .int (nI i)), (3, .ref (b + 510)), (2, .ref (b + 501)), (1, .ref b), (0, .ref sb)]) hx hb d_Law_law_207 hl (by decide) rfl (fun ls hl => ?_)
    refine lv_goto (tgt := 1253) hx hb d_Law_law_209 (by decide) ?_
    have hl : lv_has ls 8 [(4, .int (nI i)), (3, .ref (b + 510)), (2, .ref (b + 501)), (1, .ref b), (0, .ref sb)] := lv_sub hl [2, 3, 4, 5, 6] rfl
    exact hN _ _ ls _ _ _ _ _ (hG.frq hb0 (nMG_fr hfr6)) hM ⟨hmq, tr_feed hcq.1 (hc1.eq (hfe _ (Or.inl rfl))) hm1 ht0 hj0 hcv hfm, hcq, hmt⟩ hX hF hl
  · skip
    obtain ⟨hM, hm1⟩ : MP g (nMG (b + 501)) H2 (b + 501) (nI 2) pn tn wm ∧ AI g H2 (b + 501 + 6) 96 m0 := by
      rcases hq6 with ⟨-, ⟨k8, e8, f8, -, -⟩ | ⟨-, h⟩⟩ | ⟨h, -⟩
      · exact absurd (by rw [e8, nI_add]; exact nI_le f8 (by decide)) hf9
      · exact h
      · exact absurd hok h
    have hM := hM.dnG
    refine lv_istore (lv' := [(6, .int r6), (5, .int (nI 2)), (4, .int (nI i)), (3, .ref (b + 510)), (2, .ref (b + 501)), (1, .ref b), (0, .ref sb)]) hx hb d_Law_law_207 hl (by decide) rfl (fun ls hl => ?_)
    refine lv_goto (tgt := 1253) hx hb d_Law_law_209 (by decide) ?_
    have hl : lv_has ls 8 [(4, .int (nI i)), (3, .ref (b + 510)), (2, .ref (b + 501)), (1, .ref b), (0, .ref sb)] := lv_sub hl [2, 3, 4, 5, 6] rfl
    exact hN _ _ ls _ _ _ _ _ (hG.frq hb0 (nMG_fr hfr6)) hM ⟨hmq, ⟨hcq.1, c0, m0, t0, hc1.eq (hfe _ (Or.inl rfl)), hm1, ht0, hj0⟩, hcq, hmt⟩ hX hF hl
  · skip
    obtain ⟨hM, hm1⟩ : MP g (nMG (b + 501)) H2 (b + 501) 1 pn tn wm ∧ AI g H2 (b + 501 + 6) 96 m0 := by
      rcases hq6 with ⟨h, -⟩ | ⟨-, h⟩
      · exact absurd h hok
      · exact h
    have hM := hM.dnG
    refine lv_istore (lv' := [(6, .int r6), (5, .int (nI 1)), (4, .int (nI i)), (3, .ref (b + 510)), (2, .ref (b + 501)), (1, .ref b), (0, .ref sb)]) hx hb d_Law_law_207 hl (by decide) rfl (fun ls hl => ?_)
    refine lv_goto (tgt := 1253) hx hb d_Law_law_209 (by decide) ?_
    have hl : lv_has ls 8 [(4, .int (nI i)), (3, .ref (b + 510)), (2, .ref (b + 501)), (1, .ref b), (0, .ref sb)] := lv_sub hl [2, 3, 4, 5, 6] rfl
    exact hN _ _ ls _ _ _ _ _ (hG.frq hb0 (nMG_fr hfr6)) hM ⟨hmq, ⟨hcq.1, c0, m0, t0, hc1.eq (hfe _ (Or.inl rfl)), hm1, ht0, hj0⟩, hcq, hmt⟩ hX hF hl
set_option maxHeartbeats 4000000 in
set_option maxRecDepth 100000 in
theorem k_number {p : Program} {l : Launch} {e : Env} {s : State} {m : MethodId} {below : List Frame} {meth : Method} {c : Code} {g : WG} {sb L : Nat} {xs : Nat → Int32} {b : Nat} {mr mq : Int64} {H : Heap} {locs : List Loc} {ls : Array Slot} {th : Int32} {pn tn wn wm i cells slots : Nat} (E : EV p m c code 8 s #[Value.ref sb] "KateDeskLaw" g) (hr : meth.sig.returnType = ret) (hlk : meth.locks = false) (hb0 : s.heap.size ≤ b) (hsb : sb < s.heap.size) (hxs : XS l s) (hL : L ≤ 3072) (hi : i + 6 ≤ L) (hc : cells + 1 ≤ room_1.cells ∧ slots + 6 ≤ room_1.slots) (hN : LNX p l e s m below meth c g sb L xs b mr mq i (cells + 1) (slots + 6)) (hG : LG g s H b pn tn wn mr mq) (hM : MP g (nMT (b + 501)) H (b + 501) th pn tn wm) (hT : TW9 g H b tn mq) (hX : va_X sb L xs s H) (hF : ∀ q ∈ locs, HXA s q.base) (hl : lv_has ls 8 [(4, .int (nI i)), (3, .ref (b + 510)), (2, .ref (b + 501)), (1, .ref b), (0, .ref sb)]) : W p l e room_1 s m #[Value.ref sb] below meth c H locs cells slots (lw_Z below #[Value.ref sb] s) (F0 m 212 ls []) := by
  have hx := E.1
  have hb := E.2.1
  have hK := E.2.2.2.2.2
  have hw0 := State.WarmedH.refl s
  have hbd := hM.2.2.2.2.1
  refine lv_aload_n hx hb d_Law_law_212 rfl (lv_at hl 3 rfl) ?_
  refine lv_aload_n hx hb d_Law_law_213 rfl (lv_at hl 4 rfl) ?_
  refine lv_iload hx hb d_Law_law_214 (lv_at hl 0 rfl) ?_
  refine lv_iconst (v := nI 1) hx hb d_Law_law_216 (by decide) ?_
  refine lv_iadd hx hb d_Law_law_217 ?_
  refine lv_topi (fun t9 e9 => ?_)
  obtain rfl : t9 = nI (i + 1) := e9.trans (nI_add _ _)
  refine q_xld E hX (i + 1) rfl (by omega) (by omega) d_Law_law_218 ?_
  refine lv_aload_n hx hb d_Law_law_219 rfl (lv_at hl 1 rfl) ?_
  refine q_cSH (rest := []) E hw0 (H_number l g s hxs b pn tn wn mr mq hb0 (xs (i + 1))) w_487 w_0 w_485 w_486 hd_Law_number rfl ⟨by decide, by decide⟩ hG hF hl.1 rfl (Nat.le_of_ble_eq_true rfl) d_Law_law_220 hc (qi (fun r5 H1 locs hq hF => ?_))
  obtain ⟨hq, hfr⟩ := hq
  have hX := hX.kept (hfr sb (Or.inl (Nat.lt_of_lt_of_le hsb hb0)))
  have hM := hM.on (fun q h1 h2 => hfr q (Or.inr (Or.inl ⟨h1, h2⟩)))
  have hT := hT.keep hfr
  refine lv_istore (lv' := [(5, .int r5), (4, .int (nI i)), (3, .ref (b + 510)), (2, .ref (b + 501)), (1, .ref b), (0, .ref sb)]) hx hb d_Law_law_223 hl (by decide) rfl (fun ls hl => ?_)
  refine lv_aload_n hx hb d_Law_law_225 rfl (lv_at hl 3 rfl) ?_
  refine lv_aload_n hx hb d_Law_law_226 rfl (lv_at hl 5 rfl) ?_
  refine lv_iload hx hb d_Law_law_227 (lv_at hl 1 rfl) ?_
  refine lv_iconst (v := nI 1) hx hb d_Law_law_229 (by decide) ?_
  refine lv_iadd hx hb d_Law_law_230 ?_
  refine lv_topi (fun t9 e9 => ?_)
  obtain rfl : t9 = nI (i + 1) := e9.trans (nI_add _ _)
  refine q_xld E hX (i + 1) rfl (by omega) (by omega) d_Law_law_231 ?_
  obtain ⟨w9, n9, hob⟩ := hM.ob
  refine q_cV (rest := []) E ((G_Model_number l g (nMT (b + 501)) (b + 501) th pn tn wm (xs (i + 1))).frI (nMT_up hb0)) w_1061 w_15 w_1058 w_1059 w_1060 hd_Model_number rfl ⟨by decide, by decide⟩ (OB.recv E.2.2.2.2.2 (by rfl) hob) hM hF hl.1 rfl (Nat.le_of_ble_eq_true rfl) d_Law_law_232 hc (qi (fun r6 H2 locs hq6 hF => ?_))
  obtain ⟨hq6, hfr6⟩ := hq6
  have hT := hT.frq hfr6
  have hX := hX.kept (hfr6.2 sb hX.lt (nMT_n (nM_lt hb0 hsb)))
  clear hob hM
  rcases hq with ⟨hok, rfl, hG⟩ | ⟨hok, rfl, hG⟩
  · skip
    have hM : MP g (nMT (b + 501)) H2 (b + 501) 0 pn 0 wm := by
      rcases hq6 with ⟨-, h⟩ | ⟨h, -⟩
      · exact h
      · exact absurd hok h
    refine lv_istore (lv' := [(6, .int r6), (5, .int (nI 0)), (4, .int (nI i)), (3, .ref (b + 510)), (2, .ref (b + 501)), (1, .ref b), (0, .ref sb)]) hx hb d_Law_law_235 hl (by decide) rfl (fun ls hl => ?_)
    refine lv_goto (tgt := 1253) hx hb d_Law_law_237 (by decide) ?_
    have hl : lv_has ls 8 [(4, .int (nI i)), (3, .ref (b + 510)), (2, .ref (b + 501)), (1, .ref b), (0, .ref sb)] := lv_sub hl [2, 3, 4, 5, 6] rfl
    exact hN _ _ ls _ _ _ _ _ (hG.frq hb0 (nMT_fr hfr6)) hM (hT.less (by first | exact Nat.le_refl _ | exact Nat.zero_le _)) hX hF hl
  · skip
    have hM : MP g (nMT (b + 501)) H2 (b + 501) 1 pn tn wm := by
      rcases hq6 with ⟨h, -⟩ | ⟨-, h⟩
      · exact absurd h hok
      · exact h
    refine lv_istore (lv' := [(6, .int r6), (5, .int (nI 1)), (4, .int (nI i)), (3, .ref (b + 510)), (2, .ref (b + 501)), (1, .ref b), (0, .ref sb)]) hx hb d_Law_law_235 hl (by decide) rfl (fun ls hl => ?_)
    refine lv_goto (tgt := 1253) hx hb d_Law_law_237 (by decide) ?_
    have hl : lv_has ls 8 [(4, .int (nI i)), (3, .ref (b + 510)), (2, .ref (b + 501)), (1, .ref b), (0, .ref sb)] := lv_sub hl [2, 3, 4, 5, 6] rfl
    exact hN _ _ ls _ _ _ _ _ (hG.frq hb0 (nMT_fr hfr6)) hM (hT.less (by first | exact Nat.le_refl _ | exact Nat.zero_le _)) hX hF hl
set_option maxHeartbeats 4000000 in
set_option maxRecDepth 100000 in
theorem k_set {p : Program} {l : Launch} {e : Env} {s : State} {m : MethodId} {below : List Frame} {meth : Method} {c : Code} {g : WG} {sb L : Nat} {xs : Nat → Int32} {b : Nat} {mr mq : Int64} {H : Heap} {locs : List Loc} {ls : Array Slot} {th : Int32} {pn tn wn wm i cells slots : Nat} (E : EV p m c code 8 s #[Value.ref sb] "KateDeskLaw" g) (hr : meth.sig.returnType = ret) (hlk : meth.locks = false) (hb0 : s.heap.size ≤ b) (hsb : sb < s.heap.size) (hxs : XS l s) (hL : L ≤ 3072) (hi : i + 6 ≤ L) (hc : cells + 1 ≤ room_1.cells ∧ slots + 6 ≤ room_1.slots) (hN : LNX p l e s m below meth c g sb L xs b mr mq i (cells + 1) (slots + 6)) (hG : LG g s H b pn tn wn mr mq) (hM : MP g (nMT (b + 501)) H (b + 501) th pn tn wm) (hT : TW9 g H b tn mq) (hX : va_X sb L xs s H) (hF : ∀ q ∈ locs, HXA s q.base) (hl : lv_has ls 8 [(4, .int (nI i)), (3, .ref (b + 510)), (2, .ref (b + 501)), (1, .ref b), (0, .ref sb)]) : W p l e room_1 s m #[Value.ref sb] below meth c H locs cells slots (lw_Z below #[Value.ref sb] s) (F0 m 240 ls []) := by
  have hx := E.1
  have hb := E.2.1
  have hK := E.2.2.2.2.2
  have hw0 := State.WarmedH.refl s
  have hbd := hM.2.2.2.2.1
  refine lv_aload_n hx hb d_Law_law_240 rfl (lv_at hl 3 rfl) ?_
  refine lv_aload_n hx hb d_Law_law_241 rfl (lv_at hl 4 rfl) ?_
  refine lv_iload hx hb d_Law_law_242 (lv_at hl 0 rfl) ?_
  refine lv_iconst (v := nI 1) hx hb d_Law_law_244 (by decide) ?_
  refine lv_iadd hx hb d_Law_law_245 ?_
  refine lv_topi (fun t9 e9 => ?_)
  obtain rfl : t9 = nI (i + 1) := e9.trans (nI_add _ _)
  refine q_xld E hX (i + 1) rfl (by omega) (by omega) d_Law_law_246 ?_
  refine lv_aload_n hx hb d_Law_law_247 rfl (lv_at hl 4 rfl) ?_
  refine lv_iload hx hb d_Law_law_248 (lv_at hl 0 rfl) ?_
  refine lv_iconst (v := nI 2) hx hb d_Law_law_250 (by decide) ?_
  refine lv_iadd hx hb d_Law_law_251 ?_
  refine lv_topi (fun t9 e9 => ?_)
  obtain rfl : t9 = nI (i + 2) := e9.trans (nI_add _ _)
  refine q_xld E hX (i + 2) rfl (by omega) (by omega) d_Law_law_252 ?_
  refine lv_i2l (v := (xs (i + 2)).toInt64) hx hb d_Law_law_253 rfl ?_
  refine lv_bipush (v := nI 32) hx hb d_Law_law_254 (by decide) ?_
  refine lv_lshl (v := ((xs (i + 2)).toInt64) <<< ((nI 32).toInt64 &&& 63)) hx hb d_Law_law_256 rfl ?_
  refine lv_aload_n hx hb d_Law_law_257 rfl (lv_at hl 4 rfl) ?_
  refine lv_iload hx hb d_Law_law_258 (lv_at hl 0 rfl) ?_
  refine lv_iconst (v := nI 3) hx hb d_Law_law_260 (by decide) ?_
  refine lv_iadd hx hb d_Law_law_261 ?_
  refine lv_topi (fun t9 e9 => ?_)
  obtain rfl : t9 = nI (i + 3) := e9.trans (nI_add _ _)
  refine q_xld E hX (i + 3) rfl (by omega) (by omega) d_Law_law_262 ?_
  refine lv_i2l (v := (xs (i + 3)).toInt64) hx hb d_Law_law_263 rfl ?_
  refine lv_ldc2 (v := 4294967295) hx hb E.2.2.2.1 (E.2.2.2.2.1 _ w_1252) d_Law_law_264 ?_
  refine lv_land hx hb d_Law_law_267 ?_
  refine lv_lor hx hb d_Law_law_268 ?_
  refine q_cSH (rest := []) E hw0 (H_set l g s hxs b pn tn wn mr mq hb0 (xs (i + 1)) ((((xs (i + 2)).toInt64) <<< ((nI 32).toInt64 &&& 63)) ||| (((xs (i + 3)).toInt64) &&& 4294967295))) w_515 w_0 w_513 w_514 hd_Law_set rfl ⟨by decide, by decide⟩ hG hF hl.1 rfl (Nat.le_of_ble_eq_true rfl) d_Law_law_269 hc (qi (fun r5 H1 locs hq hF => ?_))
  obtain ⟨hq, hfr⟩ := hq
  have hX := hX.kept (hfr sb (Or.inl (Nat.lt_of_lt_of_le hsb hb0)))
  have hM := hM.on (fun q h1 h2 => hfr q (Or.inr (Or.inl ⟨h1, h2⟩)))
  have hT := hT.keep hfr
  refine lv_istore (lv' := [(5, .int r5), (4, .int (nI i)), (3, .ref (b + 510)), (2, .ref (b + 501)), (1, .ref b), (0, .ref sb)]) hx hb d_Law_law_272 hl (by decide) rfl (fun ls hl => ?_)
  refine lv_aload_n hx hb d_Law_law_274 rfl (lv_at hl 3 rfl) ?_
  refine lv_aload_n hx hb d_Law_law_275 rfl (lv_at hl 5 rfl) ?_
  refine lv_iload hx hb d_Law_law_276 (lv_at hl 1 rfl) ?_
  refine lv_iconst (v := nI 1) hx hb d_Law_law_278 (by decide) ?_
  refine lv_iadd hx hb d_Law_law_279 ?_
  refine lv_topi (fun t9 e9 => ?_)
  obtain rfl : t9 = nI (i + 1) := e9.trans (nI_add _ _)
  refine q_xld E hX (i + 1) rfl (by omega) (by omega) d_Law_law_280 ?_
  refine lv_aload_n hx hb d_Law_law_281 rfl (lv_at hl 5 rfl) ?_
  refine lv_iload hx hb d_Law_law_282 (lv_at hl 1 rfl) ?_
  refine lv_iconst (v := nI 2) hx hb d_Law_law_284 (by decide) ?_
  refine lv_iadd hx hb d_Law_law_285 ?_
  refine lv_topi (fun t9 e9 => ?_)
  obtain rfl : t9 = nI (i + 2) := e9.trans (nI_add _ _)
  refine q_xld E hX (i + 2) rfl (by omega) (by omega) d_Law_law_286 ?_
  refine lv_i2l (v := (xs (i + 2)).toInt64) hx hb d_Law_law_287 rfl ?_
  refine lv_bipush (v := nI 32) hx hb d_Law_law_288 (by decide) ?_
  refine lv_lshl (v := ((xs (i + 2)).toInt64) <<< ((nI 32).toInt64 &&& 63)) hx hb d_Law_law_290 rfl ?_
  refine lv_aload_n hx hb d_Law_law_291 rfl (lv_at hl 5 rfl) ?_
  refine lv_iload hx hb d_Law_law_292 (lv_at hl 1 rfl) ?_
  refine lv_iconst (v := nI 3) hx hb d_Law_law_294 (by decide) ?_
  refine lv_iadd hx hb d_Law_law_295 ?_
  refine lv_topi (fun t9 e9 => ?_)
  obtain rfl : t9 = nI (i + 3) := e9.trans (nI_add _ _)
  refine q_xld E hX (i + 3) rfl (by omega) (by omega) d_Law_law_296 ?_
  refine lv_i2l (v := (xs (i + 3)).toInt64) hx hb d_Law_law_297 rfl ?_
  refine lv_ldc2 (v := 4294967295) hx hb E.2.2.2.1 (E.2.2.2.2.1 _ w_1252) d_Law_law_298 ?_
  refine lv_land hx hb d_Law_law_301 ?_
  refine lv_lor hx hb d_Law_law_302 ?_
  obtain ⟨w9, n9, hob⟩ := hM.ob
  refine q_cV (rest := []) E ((G_Model_set l g (nMT (b + 501)) (b + 501) th pn tn wm (xs (i + 1)) ((((xs (i + 2)).toInt64) <<< ((nI 32).toInt64 &&& 63)) ||| (((xs (i + 3)).toInt64) &&& 4294967295))).frV (nMT_up hb0)) w_1080 w_15 w_1077 w_1078 w_1079 hd_Model_set rfl ⟨by decide, by decide⟩ (OB.recv E.2.2.2.2.2 (by rfl) hob) hM hF hl.1 rfl (Nat.le_of_ble_eq_true rfl) d_Law_law_303 hc (qv (fun H2 locs hq6 hF => ?_))
  obtain ⟨hq6, hfr6⟩ := hq6
  have hT := hT.frq hfr6
  have hX := hX.kept (hfr6.2 sb hX.lt (nMT_n (nM_lt hb0 hsb)))
  clear hob hM
  rcases hq with ⟨hok, rfl, hG⟩ | ⟨hok, rfl, hG⟩
  · skip
    have hM : MP g (nMT (b + 501)) H2 (b + 501) 0 pn tn wm := by
      rcases hq6 with ⟨-, h⟩ | ⟨h, -⟩
      · exact h
      · exact absurd hok h
    refine lv_goto (tgt := 1253) hx hb d_Law_law_306 (by decide) ?_
    have hl : lv_has ls 8 [(4, .int (nI i)), (3, .ref (b + 510)), (2, .ref (b + 501)), (1, .ref b), (0, .ref sb)] := lv_sub hl [1, 2, 3, 4, 5] rfl
    exact hN _ _ ls _ _ _ _ _ (hG.frq hb0 (nMT_fr hfr6)) hM hT hX hF hl
  · skip
    have hM : MP g (nMT (b + 501)) H2 (b + 501) 1 pn tn wm := by
      rcases hq6 with ⟨h, -⟩ | ⟨-, h⟩
      · exact absurd h hok
      · exact h
    refine lv_goto (tgt := 1253) hx hb d_Law_law_306 (by decide) ?_
    have hl : lv_has ls 8 [(4, .int (nI i)), (3, .ref (b + 510)), (2, .ref (b + 501)), (1, .ref b), (0, .ref sb)] := lv_sub hl [1, 2, 3, 4, 5] rfl
    exact hN _ _ ls _ _ _ _ _ (hG.frq hb0 (nMT_fr hfr6)) hM hT hX hF hl
set_option maxHeartbeats 4000000 in
set_option maxRecDepth 100000 in
theorem k_word {p : Program} {l : Launch} {e : Env} {s : State} {m : MethodId} {below : List Frame} {meth : Method} {c : Code} {g : WG} {sb L : Nat} {xs : Nat → Int32} {b : Nat} {mr mq : Int64} {H : Heap} {locs : List Loc} {ls : Array Slot} {th : Int32} {pn tn wn wm i cells slots : Nat} (E : EV p m c code 8 s #[Value.ref sb] "KateDeskLaw" g) (hr : meth.sig.returnType = ret) (hlk : meth.locks = false) (hb0 : s.heap.size ≤ b) (hsb : sb < s.heap.size) (hxs : XS l s) (hL : L ≤ 3072) (hi : i + 6 ≤ L) (hc : cells + 1 ≤ room_1.cells ∧ slots + 6 ≤ room_1.slots) (hN : LNX p l e s m below meth c g sb L xs b mr mq i (cells + 1) (slots + 6)) (hG : LG g s H b pn tn wn mr mq) (hM : MP g (nMT (b + 501)) H (b + 501) th pn tn wm) (hT : TW9 g H b tn mq) (hX : va_X sb L xs s H) (hF : ∀ q ∈ locs, HXA s q.base) (hl : lv_has ls 8 [(4, .int (nI i)), (3, .ref (b + 510)), (2, .ref (b + 501)), (1, .ref b), (0, .ref sb)]) : W p l e room_1 s m #[Value.ref sb] below meth c H locs cells slots (lw_Z below #[Value.ref sb] s) (F0 m 309 ls []) := by
  have hx := E.1
  have hb := E.2.1
  have hK := E.2.2.2.2.2
  have hw0 := State.WarmedH.refl s
  have hbd := hM.2.2.2.2.1
  refine lv_aload_n hx hb d_Law_law_309 rfl (lv_at hl 3 rfl) ?_
  refine lv_aload_n hx hb d_Law_law_310 rfl (lv_at hl 4 rfl) ?_
  refine lv_iload hx hb d_Law_law_311 (lv_at hl 0 rfl) ?_
  refine lv_iconst (v := nI 1) hx hb d_Law_law_313 (by decide) ?_
  refine lv_iadd hx hb d_Law_law_314 ?_
  refine lv_topi (fun t9 e9 => ?_)
  obtain rfl : t9 = nI (i + 1) := e9.trans (nI_add _ _)
  refine q_xld E hX (i + 1) rfl (by omega) (by omega) d_Law_law_315 ?_
  refine lv_aload_n hx hb d_Law_law_316 rfl (lv_at hl 4 rfl) ?_
  refine lv_iload hx hb d_Law_law_317 (lv_at hl 0 rfl) ?_
  refine lv_iconst (v := nI 2) hx hb d_Law_law_319 (by decide) ?_
  refine lv_iadd hx hb d_Law_law_320 ?_
  refine lv_topi (fun t9 e9 => ?_)
  obtain rfl : t9 = nI (i + 2) := e9.trans (nI_add _ _)
  refine q_xld E hX (i + 2) rfl (by omega) (by omega) d_Law_law_321 ?_
  refine lv_aload_n hx hb d_Law_law_322 rfl (lv_at hl 1 rfl) ?_
  refine q_cSH (rest := []) E hw0 (H_word l g s hxs b pn tn wn mr mq hb0 (xs (i + 1)) (xs (i + 2))) w_527 w_0 w_525 w_526 hd_Law_word rfl ⟨by decide, by decide⟩ hG hF hl.1 rfl (Nat.le_of_ble_eq_true rfl) d_Law_law_323 hc (qi (fun r5 H1 locs hq hF => ?_))
  obtain ⟨hq, hfr⟩ := hq
  have hX := hX.kept (hfr sb (Or.inl (Nat.lt_of_lt_of_le hsb hb0)))
  have hM := hM.on (fun q h1 h2 => hfr q (Or.inr (Or.inl ⟨h1, h2⟩)))
  have hT := hT.keep hfr
  refine lv_istore (lv' := [(5, .int r5), (4, .int (nI i)), (3, .ref (b + 510)), (2, .ref (b + 501)), (1, .ref b), (0, .ref sb)]) hx hb d_Law_law_326 hl (by decide) rfl (fun ls hl => ?_)
  refine lv_aload_n hx hb d_Law_law_328 rfl (lv_at hl 3 rfl) ?_
  refine lv_aload_n hx hb d_Law_law_329 rfl (lv_at hl 5 rfl) ?_
  refine lv_iload hx hb d_Law_law_330 (lv_at hl 1 rfl) ?_
  refine lv_iconst (v := nI 1) hx hb d_Law_law_332 (by decide) ?_
  refine lv_iadd hx hb d_Law_law_333 ?_
  refine lv_topi (fun t9 e9 => ?_)
  obtain rfl : t9 = nI (i + 1) := e9.trans (nI_add _ _)
  refine q_xld E hX (i + 1) rfl (by omega) (by omega) d_Law_law_334 ?_
  refine lv_aload_n hx hb d_Law_law_335 rfl (lv_at hl 5 rfl) ?_
  refine lv_iload hx hb d_Law_law_336 (lv_at hl 1 rfl) ?_
  refine lv_iconst (v := nI 2) hx hb d_Law_law_338 (by decide) ?_
  refine lv_iadd hx hb d_Law_law_339 ?_
  refine lv_topi (fun t9 e9 => ?_)
  obtain rfl : t9 = nI (i + 2) := e9.trans (nI_add _ _)
  refine q_xld E hX (i + 2) rfl (by omega) (by omega) d_Law_law_340 ?_
  obtain ⟨w9, n9, hob⟩ := hM.ob
  refine q_cV (rest := []) E ((G_Model_word l g (nMT (b + 501)) (b + 501) th pn tn wm (xs (i + 1)) (xs (i + 2))).frL (nMT_up hb0)) w_1088 w_15 w_1085 w_1086 w_1087 hd_Model_word rfl ⟨by decide, by decide⟩ (OB.recv E.2.2.2.2.2 (by rfl) hob) hM hF hl.1 rfl (Nat.le_of_ble_eq_true rfl) d_Law_law_341 hc (ql (fun r6 H2 locs hq6 hF => ?_))
  obtain ⟨hq6, hfr6⟩ := hq6
  have hT := hT.frq hfr6
  have hX := hX.kept (hfr6.2 sb hX.lt (nMT_n (nM_lt hb0 hsb)))
  clear hob hM
  rcases hq with ⟨hok, rfl, hG⟩ | ⟨hok, rfl, hG⟩
  · skip
    have hM : MP g (nMT (b + 501)) H2 (b + 501) 0 pn tn wm := by
      rcases hq6 with ⟨-, h⟩ | ⟨h, -⟩
      · exact h
      · exact absurd hok h
    refine lv_lstore (lv' := [(6, .long r6), (5, .int (nI 0)), (4, .int (nI i)), (3, .ref (b + 510)), (2, .ref (b + 501)), (1, .ref b), (0, .ref sb)]) hx hb d_Law_law_344 hl (by decide) rfl (fun ls hl => ?_)
    refine lv_goto (tgt := 1253) hx hb d_Law_law_346 (by decide) ?_
    have hl : lv_has ls 8 [(4, .int (nI i)), (3, .ref (b + 510)), (2, .ref (b + 501)), (1, .ref b), (0, .ref sb)] := lv_sub hl [2, 3, 4, 5, 6] rfl
    exact hN _ _ ls _ _ _ _ _ (hG.frq hb0 (nMT_fr hfr6)) hM hT hX hF hl
  · skip
    have hM : MP g (nMT (b + 501)) H2 (b + 501) 1 pn tn wm := by
      rcases hq6 with ⟨h, -⟩ | ⟨-, h⟩
      · exact absurd h hok
      · exact h
    refine lv_lstore (lv' := [(6, .long r6), (5, .int (nI 1)), (4, .int (nI i)), (3, .ref (b + 510)), (2, .ref (b + 501)), (1, .ref b), (0, .ref sb)]) hx hb d_Law_law_344 hl (by decide) rfl (fun ls hl => ?_)
    refine lv_goto (tgt := 1253) hx hb d_Law_law_346 (by decide) ?_
    have hl : lv_has ls 8 [(4, .int (nI i)), (3, .ref (b + 510)), (2, .ref (b + 501)), (1, .ref b), (0, .ref sb)] := lv_sub hl [2, 3, 4, 5, 6] rfl
    exact hN _ _ ls _ _ _ _ _ (hG.frq hb0 (nMT_fr hfr6)) hM hT hX hF hl
set_option maxHeartbeats 4000000 in
set_option maxRecDepth 100000 in
theorem k_reckon {p : Program} {l : Launch} {e : Env} {s : State} {m : MethodId} {below : List Frame} {meth : Method} {c : Code} {g : WG} {sb L : Nat} {xs : Nat → Int32} {b : Nat} {mr mq : Int64} {H : Heap} {locs : List Loc} {ls : Array Slot} {th : Int32} {pn tn wn wm i cells slots : Nat} (E : EV p m c code 8 s #[Value.ref sb] "KateDeskLaw" g) (hr : meth.sig.returnType = ret) (hlk : meth.locks = false) (hb0 : s.heap.size ≤ b) (hsb : sb < s.heap.size) (hxs : XS l s) (hno : va_Nc "java/lang/ArithmeticException" "java/lang/IllegalArgumentException" s) (hL : L ≤ 3072) (hi : i + 6 ≤ L) (hc : cells + 1 ≤ room_1.cells ∧ slots + 6 ≤ room_1.slots) (hN : LNX p l e s m below meth c g sb L xs b mr mq i (cells + 1) (slots + 6)) (hG : LG g s H b pn tn wn mr mq) (hM : MP g (nMT (b + 501)) H (b + 501) th pn tn wm) (hT : TW9 g H b tn mq) (hX : va_X sb L xs s H) (hF : ∀ q ∈ locs, HXA s q.base) (hl : lv_has ls 8 [(4, .int (nI i)), (3, .ref (b + 510)), (2, .ref (b + 501)), (1, .ref b), (0, .ref sb)]) : W p l e room_1 s m #[Value.ref sb] below meth c H locs cells slots (lw_Z below #[Value.ref sb] s) (F0 m 349 ls []) := by
  have hx := E.1
  have hb := E.2.1
  have hK := E.2.2.2.2.2
  have hw0 := State.WarmedH.refl s
  have hbd := hM.2.2.2.2.1
  refine lv_aload_n hx hb d_Law_law_349 rfl (lv_at hl 3 rfl) ?_
  refine lv_aload_n hx hb d_Law_law_350 rfl (lv_at hl 4 rfl) ?_
  refine lv_iload hx hb d_Law_law_351 (lv_at hl 0 rfl) ?_
  refine lv_iconst (v := nI 1) hx hb d_Law_law_353 (by decide) ?_
  refine lv_iadd hx hb d_Law_law_354 ?_
  refine lv_topi (fun t9 e9 => ?_)
  obtain rfl : t9 = nI (i + 1) := e9.trans (nI_add _ _)
  refine q_xld E hX (i + 1) rfl (by omega) (by omega) d_Law_law_355 ?_
  refine lv_aload_n hx hb d_Law_law_356 rfl (lv_at hl 4 rfl) ?_
  refine lv_iload hx hb d_Law_law_357 (lv_at hl 0 rfl) ?_
  refine lv_iconst (v := nI 2) hx hb d_Law_law_359 (by decide) ?_
  refine lv_iadd hx hb d_Law_law_360 ?_
  refine lv_topi (fun t9 e9 => ?_)
  obtain rfl : t9 = nI (i + 2) := e9.trans (nI_add _ _)
  refine q_xld E hX (i + 2) rfl (by omega) (by omega) d_Law_law_361 ?_
  refine lv_aload_n hx hb d_Law_law_362 rfl (lv_at hl 4 rfl) ?_
  refine lv_iload hx hb d_Law_law_363 (lv_at hl 0 rfl) ?_
  refine lv_iconst (v := nI 3) hx hb d_Law_law_365 (by decide) ?_
  refine lv_iadd hx hb d_Law_law_366 ?_
  refine lv_topi (fun t9 e9 => ?_)
  obtain rfl : t9 = nI (i + 3) := e9.trans (nI_add _ _)
  refine q_xld E hX (i + 3) rfl (by omega) (by omega) d_Law_law_367 ?_
  refine lv_aload_n hx hb d_Law_law_368 rfl (lv_at hl 4 rfl) ?_
  refine lv_iload hx hb d_Law_law_369 (lv_at hl 0 rfl) ?_
  refine lv_iconst (v := nI 4) hx hb d_Law_law_371 (by decide) ?_
  refine lv_iadd hx hb d_Law_law_372 ?_
  refine lv_topi (fun t9 e9 => ?_)
  obtain rfl : t9 = nI (i + 4) := e9.trans (nI_add _ _)
  refine q_xld E hX (i + 4) rfl (by omega) (by omega) d_Law_law_373 ?_
  refine q_cSH (rest := []) E hw0 (H_reckon l g s hxs b pn tn wn mr mq hb0 (xs (i + 1)) (xs (i + 2)) (xs (i + 3)) (xs (i + 4)) hno) w_536 w_0 w_534 w_535 hd_Law_reckon rfl ⟨by decide, by decide⟩ hG hF hl.1 rfl (Nat.le_of_ble_eq_true rfl) d_Law_law_374 hc (qi (fun r5 H1 locs hq hF => ?_))
  obtain ⟨hq, hfr⟩ := hq
  have hX := hX.kept (hfr sb (Or.inl (Nat.lt_of_lt_of_le hsb hb0)))
  have hM := hM.on (fun q h1 h2 => hfr q (Or.inr (Or.inl ⟨h1, h2⟩)))
  have hT := hT.keep hfr
  refine lv_istore (lv' := [(5, .int r5), (4, .int (nI i)), (3, .ref (b + 510)), (2, .ref (b + 501)), (1, .ref b), (0, .ref sb)]) hx hb d_Law_law_377 hl (by decide) rfl (fun ls hl => ?_)
  refine lv_aload_n hx hb d_Law_law_379 rfl (lv_at hl 3 rfl) ?_
  refine lv_aload_n hx hb d_Law_law_380 rfl (lv_at hl 5 rfl) ?_
  refine lv_iload hx hb d_Law_law_381 (lv_at hl 1 rfl) ?_
  refine lv_iconst (v := nI 1) hx hb d_Law_law_383 (by decide) ?_
  refine lv_iadd hx hb d_Law_law_384 ?_
  refine lv_topi (fun t9 e9 => ?_)
  obtain rfl : t9 = nI (i + 1) := e9.trans (nI_add _ _)
  refine q_xld E hX (i + 1) rfl (by omega) (by omega) d_Law_law_385 ?_
  refine lv_aload_n hx hb d_Law_law_386 rfl (lv_at hl 5 rfl) ?_
  refine lv_iload hx hb d_Law_law_387 (lv_at hl 1 rfl) ?_
  refine lv_iconst (v := nI 2) hx hb d_Law_law_389 (by decide) ?_
  refine lv_iadd hx hb d_Law_law_390 ?_
  refine lv_topi (fun t9 e9 => ?_)
  obtain rfl : t9 = nI (i + 2) := e9.trans (nI_add _ _)
  refine q_xld E hX (i + 2) rfl (by omega) (by omega) d_Law_law_391 ?_
  refine lv_aload_n hx hb d_Law_law_392 rfl (lv_at hl 5 rfl) ?_
  refine lv_iload hx hb d_Law_law_393 (lv_at hl 1 rfl) ?_
  refine lv_iconst (v := nI 3) hx hb d_Law_law_395 (by decide) ?_
  refine lv_iadd hx hb d_Law_law_396 ?_
  refine lv_topi (fun t9 e9 => ?_)
  obtain rfl : t9 = nI (i + 3) := e9.trans (nI_add _ _)
  refine q_xld E hX (i + 3) rfl (by omega) (by omega) d_Law_law_397 ?_
  refine lv_aload_n hx hb d_Law_law_398 rfl (lv_at hl 5 rfl) ?_
  refine lv_iload hx hb d_Law_law_399 (lv_at hl 1 rfl) ?_
  refine lv_iconst (v := nI 4) hx hb d_Law_law_401 (by decide) ?_
  refine lv_iadd hx hb d_Law_law_402 ?_
  refine lv_topi (fun t9 e9 => ?_)
  obtain rfl : t9 = nI (i + 4) := e9.trans (nI_add _ _)
  refine q_xld E hX (i + 4) rfl (by omega) (by omega) d_Law_law_403 ?_
  obtain ⟨w9, n9, hob⟩ := hM.ob
  refine q_cV (rest := []) E ((G_Model_reckon l g (nMT (b + 501)) (b + 501) th pn tn wm (xs (i + 1)) (xs (i + 2)) (xs (i + 3)) (xs (i + 4))).frV (nMT_up hb0)) w_1097 w_15 w_1094 w_1095 w_1096 hd_Model_reckon rfl ⟨by decide, by decide⟩ (OB.recv E.2.2.2.2.2 (by rfl) hob) hM hF hl.1 rfl (Nat.le_of_ble_eq_true rfl) d_Law_law_404 hc (qv (fun H2 locs hq6 hF => ?_))
  obtain ⟨hq6, hfr6⟩ := hq6
  have hT := hT.frq hfr6
  have hX := hX.kept (hfr6.2 sb hX.lt (nMT_n (nM_lt hb0 hsb)))
  clear hob hM
  rcases hq with ⟨hok, hr5, hG⟩ | ⟨hok, rfl, hG⟩
  · skip
    obtain ⟨th2, hM⟩ : ∃ th2, MP g (nMT (b + 501)) H2 (b + 501) th2 pn tn wm := by
      rcases hq6 with ⟨-, h | h⟩ | ⟨h, -⟩
      · exact ⟨_, h⟩
      · exact ⟨_, h⟩
      · exact absurd hok h
    refine lv_goto (tgt := 1253) hx hb d_Law_law_407 (by decide) ?_
    have hl : lv_has ls 8 [(4, .int (nI i)), (3, .ref (b + 510)), (2, .ref (b + 501)), (1, .ref b), (0, .ref sb)] := lv_sub hl [1, 2, 3, 4, 5] rfl
    exact hN _ _ ls _ _ _ _ _ (hG.frq hb0 (nMT_fr hfr6)) hM hT hX hF hl
  · skip
    have hM : MP g (nMT (b + 501)) H2 (b + 501) 1 pn tn wm := by
      rcases hq6 with ⟨h, -⟩ | ⟨-, h⟩
      · exact absurd h hok
      · exact h
    refine lv_goto (tgt := 1253) hx hb d_Law_law_407 (by decide) ?_
    have hl : lv_has ls 8 [(4, .int (nI i)), (3, .ref (b + 510)), (2, .ref (b + 501)), (1, .ref b), (0, .ref sb)] := lv_sub hl [1, 2, 3, 4, 5] rfl
    exact hN _ _ ls _ _ _ _ _ (hG.frq hb0 (nMT_fr hfr6)) hM hT hX hF hl
set_option maxHeartbeats 4000000 in
set_option maxRecDepth 100000 in
theorem k_power {p : Program} {l : Launch} {e : Env} {s : State} {m : MethodId} {below : List Frame} {meth : Method} {c : Code} {g : WG} {sb L : Nat} {xs : Nat → Int32} {b : Nat} {mr mq : Int64} {H : Heap} {locs : List Loc} {ls : Array Slot} {th : Int32} {pn tn wn wm i cells slots : Nat} (E : EV p m c code 8 s #[Value.ref sb] "KateDeskLaw" g) (hr : meth.sig.returnType = ret) (hlk : meth.locks = false) (hb0 : s.heap.size ≤ b) (hsb : sb < s.heap.size) (hxs : XS l s) (hL : L ≤ 3072) (hi : i + 6 ≤ L) (hc : cells + 1 ≤ room_1.cells ∧ slots + 6 ≤ room_1.slots) (hN : LNX p l e s m below meth c g sb L xs b mr mq i (cells + 1) (slots + 6)) (hG : LG g s H b pn tn wn mr mq) (hM : MP g (nMT (b + 501)) H (b + 501) th pn tn wm) (hT : TW9 g H b tn mq) (hX : va_X sb L xs s H) (hF : ∀ q ∈ locs, HXA s q.base) (hl : lv_has ls 8 [(4, .int (nI i)), (3, .ref (b + 510)), (2, .ref (b + 501)), (1, .ref b), (0, .ref sb)]) : W p l e room_1 s m #[Value.ref sb] below meth c H locs cells slots (lw_Z below #[Value.ref sb] s) (F0 m 410 ls []) := by
  have hx := E.1
  have hb := E.2.1
  have hK := E.2.2.2.2.2
  have hw0 := State.WarmedH.refl s
  have hbd := hM.2.2.2.2.1
  refine lv_aload_n hx hb d_Law_law_410 rfl (lv_at hl 3 rfl) ?_
  refine lv_aload_n hx hb d_Law_law_411 rfl (lv_at hl 4 rfl) ?_
  refine lv_iload hx hb d_Law_law_412 (lv_at hl 0 rfl) ?_
  refine lv_iconst (v := nI 1) hx hb d_Law_law_414 (by decide) ?_
  refine lv_iadd hx hb d_Law_law_415 ?_
  refine lv_topi (fun t9 e9 => ?_)
  obtain rfl : t9 = nI (i + 1) := e9.trans (nI_add _ _)
  refine q_xld E hX (i + 1) rfl (by omega) (by omega) d_Law_law_416 ?_
  refine lv_aload_n hx hb d_Law_law_417 rfl (lv_at hl 4 rfl) ?_
  refine lv_iload hx hb d_Law_law_418 (lv_at hl 0 rfl) ?_
  refine lv_iconst (v := nI 2) hx hb d_Law_law_420 (by decide) ?_
  refine lv_iadd hx hb d_Law_law_421 ?_
  refine lv_topi (fun t9 e9 => ?_)
  obtain rfl : t9 = nI (i + 2) := e9.trans (nI_add _ _)
  refine q_xld E hX (i + 2) rfl (by omega) (by omega) d_Law_law_422 ?_
  refine lv_aload_n hx hb d_Law_law_423 rfl (lv_at hl 4 rfl) ?_
  refine lv_iload hx hb d_Law_law_424 (lv_at hl 0 rfl) ?_
  refine lv_iconst (v := nI 3) hx hb d_Law_law_426 (by decide) ?_
  refine lv_iadd hx hb d_Law_law_427 ?_
  refine lv_topi (fun t9 e9 => ?_)
  obtain rfl : t9 = nI (i + 3) := e9.trans (nI_add _ _)
  refine q_xld E hX (i + 3) rfl (by omega) (by omega) d_Law_law_428 ?_
  refine lv_i2l (v := (xs (i + 3)).toInt64) hx hb d_Law_law_429 rfl ?_
  refine lv_bipush (v := nI 32) hx hb d_Law_law_430 (by decide) ?_
  refine lv_lshl (v := ((xs (i + 3)).toInt64) <<< ((nI 32).toInt64 &&& 63)) hx hb d_Law_law_432 rfl ?_
  refine lv_aload_n hx hb d_Law_law_433 rfl (lv_at hl 4 rfl) ?_
  refine lv_iload hx hb d_Law_law_434 (lv_at hl 0 rfl) ?_
  refine lv_iconst (v := nI 4) hx hb d_Law_law_436 (by decide) ?_
  refine lv_iadd hx hb d_Law_law_437 ?_
  refine lv_topi (fun t9 e9 => ?_)
  obtain rfl : t9 = nI (i + 4) := e9.trans (nI_add _ _)
  refine q_xld E hX (i + 4) rfl (by omega) (by omega) d_Law_law_438 ?_
  refine lv_i2l (v := (xs (i + 4)).toInt64) hx hb d_Law_law_439 rfl ?_
  refine lv_ldc2 (v := 4294967295) hx hb E.2.2.2.1 (E.2.2.2.2.1 _ w_1252) d_Law_law_440 ?_
  refine lv_land hx hb d_Law_law_443 ?_
  refine lv_lor hx hb d_Law_law_444 ?_
  refine q_cSH (rest := []) E hw0 (H_power l g s hxs b pn tn wn mr mq hb0 (xs (i + 1)) (xs (i + 2)) ((((xs (i + 3)).toInt64) <<< ((nI 32).toInt64 &&& 63)) ||| (((xs (i + 4)).toInt64) &&& 4294967295))) w_579 w_0 w_577 w_578 hd_Law_power rfl ⟨by decide, by decide⟩ hG hF hl.1 rfl (Nat.le_of_ble_eq_true rfl) d_Law_law_445 hc (qi (fun r5 H1 locs hq hF => ?_))
  obtain ⟨hq, hfr⟩ := hq
  have hX := hX.kept (hfr sb (Or.inl (Nat.lt_of_lt_of_le hsb hb0)))
  have hM := hM.on (fun q h1 h2 => hfr q (Or.inr (Or.inl ⟨h1, h2⟩)))
  have hT := hT.keep hfr
  refine lv_istore (lv' := [(5, .int r5), (4, .int (nI i)), (3, .ref (b + 510)), (2, .ref (b + 501)), (1, .ref b), (0, .ref sb)]) hx hb d_Law_law_448 hl (by decide) rfl (fun ls hl => ?_)
  refine lv_aload_n hx hb d_Law_law_450 rfl (lv_at hl 3 rfl) ?_
  refine lv_aload_n hx hb d_Law_law_451 rfl (lv_at hl 5 rfl) ?_
  refine lv_iload hx hb d_Law_law_452 (lv_at hl 1 rfl) ?_
  refine lv_iconst (v := nI 1) hx hb d_Law_law_454 (by decide) ?_
  refine lv_iadd hx hb d_Law_law_455 ?_
  refine lv_topi (fun t9 e9 => ?_)
  obtain rfl : t9 = nI (i + 1) := e9.trans (nI_add _ _)
  refine q_xld E hX (i + 1) rfl (by omega) (by omega) d_Law_law_456 ?_
  refine lv_aload_n hx hb d_Law_law_457 rfl (lv_at hl 5 rfl) ?_
  refine lv_iload hx hb d_Law_law_458 (lv_at hl 1 rfl) ?_
  refine lv_iconst (v := nI 2) hx hb d_Law_law_460 (by decide) ?_
  refine lv_iadd hx hb d_Law_law_461 ?_
  refine lv_topi (fun t9 e9 => ?_)
  obtain rfl : t9 = nI (i + 2) := e9.trans (nI_add _ _)
  refine q_xld E hX (i + 2) rfl (by omega) (by omega) d_Law_law_462 ?_
  refine lv_aload_n hx hb d_Law_law_463 rfl (lv_at hl 5 rfl) ?_
  refine lv_iload hx hb d_Law_law_464 (lv_at hl 1 rfl) ?_
  refine lv_iconst (v := nI 3) hx hb d_Law_law_466 (by decide) ?_
  refine lv_iadd hx hb d_Law_law_467 ?_
  refine lv_topi (fun t9 e9 => ?_)
  obtain rfl : t9 = nI (i + 3) := e9.trans (nI_add _ _)
  refine q_xld E hX (i + 3) rfl (by omega) (by omega) d_Law_law_468 ?_
  refine lv_i2l (v := (xs (i + 3)).toInt64) hx hb d_Law_law_469 rfl ?_
  refine lv_bipush (v := nI 32) hx hb d_Law_law_470 (by decide) ?_
  refine lv_lshl (v := ((xs (i + 3)).toInt64) <<< ((nI 32).toInt64 &&& 63)) hx hb d_Law_law_472 rfl ?_
  refine lv_aload_n hx hb d_Law_law_473 rfl (lv_at hl 5 rfl) ?_
  refine lv_iload hx hb d_Law_law_474 (lv_at hl 1 rfl) ?_
  refine lv_iconst (v := nI 4) hx hb d_Law_law_476 (by decide) ?_
  refine lv_iadd hx hb d_Law_law_477 ?_
  refine lv_topi (fun t9 e9 => ?_)
  obtain rfl : t9 = nI (i + 4) := e9.trans (nI_add _ _)
  refine q_xld E hX (i + 4) rfl (by omega) (by omega) d_Law_law_478 ?_
  refine lv_i2l (v := (xs (i + 4)).toInt64) hx hb d_Law_law_479 rfl ?_
  refine lv_ldc2 (v := 4294967295) hx hb E.2.2.2.1 (E.2.2.2.2.1 _ w_1252) d_Law_law_480 ?_
  refine lv_land hx hb d_Law_law_483 ?_
  refine lv_lor hx hb d_Law_law_484 ?_
  obtain ⟨w9, n9, hob⟩ := hM.ob
  refine q_cV (rest := []) E ((G_Model_power l g (nMT (b + 501)) (b + 501) th pn tn wm (xs (i + 1)) (xs (i + 2)) ((((xs (i + 3)).toInt64) <<< ((nI 32).toInt64 &&& 63)) ||| (((xs (i + 4)).toInt64) &&& 4294967295))).frV (nMT_up hb0)) w_1130 w_15 w_1127 w_1128 w_1129 hd_Model_power rfl ⟨by decide, by decide⟩ (OB.recv E.2.2.2.2.2 (by rfl) hob) hM hF hl.1 rfl (Nat.le_of_ble_eq_true rfl) d_Law_law_485 hc (qv (fun H2 locs hq6 hF => ?_))
  obtain ⟨hq6, hfr6⟩ := hq6
  have hT := hT.frq hfr6
  have hX := hX.kept (hfr6.2 sb hX.lt (nMT_n (nM_lt hb0 hsb)))
  clear hob hM
  rcases hq with ⟨hok, rfl, hG⟩ | ⟨hok, rfl, hG⟩
  · skip
    have hM : MP g (nMT (b + 501)) H2 (b + 501) 0 pn tn wm := by
      rcases hq6 with ⟨-, h⟩ | ⟨h, -⟩
      · exact h
      · exact absurd hok h
    refine lv_goto (tgt := 1253) hx hb d_Law_law_488 (by decide) ?_
    have hl : lv_has ls 8 [(4, .int (nI i)), (3, .ref (b + 510)), (2, .ref (b + 501)), (1, .ref b), (0, .ref sb)] := lv_sub hl [1, 2, 3, 4, 5] rfl
    exact hN _ _ ls _ _ _ _ _ (hG.frq hb0 (nMT_fr hfr6)) hM hT hX hF hl
  · skip
    have hM : MP g (nMT (b + 501)) H2 (b + 501) 1 pn tn wm := by
      rcases hq6 with ⟨h, -⟩ | ⟨-, h⟩
      · exact absurd h hok
      · exact h
    refine lv_goto (tgt := 1253) hx hb d_Law_law_488 (by decide) ?_
    have hl : lv_has ls 8 [(4, .int (nI i)), (3, .ref (b + 510)), (2, .ref (b + 501)), (1, .ref b), (0, .ref sb)] := lv_sub hl [1, 2, 3, 4, 5] rfl
    exact hN _ _ ls _ _ _ _ _ (hG.frq hb0 (nMT_fr hfr6)) hM hT hX hF hl
set_option maxHeartbeats 4000000 in
set_option maxRecDepth 100000 in
theorem k_unity {p : Program} {l : Launch} {e : Env} {s : State} {m : MethodId} {below : List Frame} {meth : Method} {c : Code} {g : WG} {sb L : Nat} {xs : Nat → Int32} {b : Nat} {mr mq : Int64} {H : Heap} {locs : List Loc} {ls : Array Slot} {th : Int32} {pn tn wn wm i cells slots : Nat} (E : EV p m c code 8 s #[Value.ref sb] "KateDeskLaw" g) (hr : meth.sig.returnType = ret) (hlk : meth.locks = false) (hb0 : s.heap.size ≤ b) (hsb : sb < s.heap.size) (hxs : XS l s) (hL : L ≤ 3072) (hi : i + 6 ≤ L) (hc : cells + 1 ≤ room_1.cells ∧ slots + 6 ≤ room_1.slots) (hN : LNX p l e s m below meth c g sb L xs b mr mq i (cells + 1) (slots + 6)) (hG : LG g s H b pn tn wn mr mq) (hM : MP g (nMT (b + 501)) H (b + 501) th pn tn wm) (hT : TW9 g H b tn mq) (hX : va_X sb L xs s H) (hF : ∀ q ∈ locs, HXA s q.base) (hl : lv_has ls 8 [(4, .int (nI i)), (3, .ref (b + 510)), (2, .ref (b + 501)), (1, .ref b), (0, .ref sb)]) : W p l e room_1 s m #[Value.ref sb] below meth c H locs cells slots (lw_Z below #[Value.ref sb] s) (F0 m 491 ls []) := by
  have hx := E.1
  have hb := E.2.1
  have hK := E.2.2.2.2.2
  have hw0 := State.WarmedH.refl s
  have hbd := hM.2.2.2.2.1
  refine lv_aload_n hx hb d_Law_law_491 rfl (lv_at hl 3 rfl) ?_
  refine lv_aload_n hx hb d_Law_law_492 rfl (lv_at hl 4 rfl) ?_
  refine lv_iload hx hb d_Law_law_493 (lv_at hl 0 rfl) ?_
  refine lv_iconst (v := nI 1) hx hb d_Law_law_495 (by decide) ?_
  refine lv_iadd hx hb d_Law_law_496 ?_
  refine lv_topi (fun t9 e9 => ?_)
  obtain rfl : t9 = nI (i + 1) := e9.trans (nI_add _ _)
  refine q_xld E hX (i + 1) rfl (by omega) (by omega) d_Law_law_497 ?_
  refine lv_aload_n hx hb d_Law_law_498 rfl (lv_at hl 4 rfl) ?_
  refine lv_iload hx hb d_Law_law_499 (lv_at hl 0 rfl) ?_
  refine lv_iconst (v := nI 2) hx hb d_Law_law_501 (by decide) ?_
  refine lv_iadd hx hb d_Law_law_502 ?_
  refine lv_topi (fun t9 e9 => ?_)
  obtain rfl : t9 = nI (i + 2) := e9.trans (nI_add _ _)
  refine q_xld E hX (i + 2) rfl (by omega) (by omega) d_Law_law_503 ?_
  refine q_cSH (rest := []) E hw0 (H_unity l g s hxs b pn tn wn mr mq hb0 (xs (i + 1)) (xs (i + 2))) w_592 w_0 w_590 w_591 hd_Law_unity rfl ⟨by decide, by decide⟩ hG hF hl.1 rfl (Nat.le_of_ble_eq_true rfl) d_Law_law_504 hc (qi (fun r5 H1 locs hq hF => ?_))
  obtain ⟨hq, hfr⟩ := hq
  have hX := hX.kept (hfr sb (Or.inl (Nat.lt_of_lt_of_le hsb hb0)))
  have hM := hM.on (fun q h1 h2 => hfr q (Or.inr (Or.inl ⟨h1, h2⟩)))
  have hT := hT.keep hfr
  refine lv_istore (lv' := [(5, .int r5), (4, .int (nI i)), (3, .ref (b + 510)), (2, .ref (b + 501)), (1, .ref b), (0, .ref sb)]) hx hb d_Law_law_507 hl (by decide) rfl (fun ls hl => ?_)
  refine lv_aload_n hx hb d_Law_law_509 rfl (lv_at hl 3 rfl) ?_
  refine lv_aload_n hx hb d_Law_law_510 rfl (lv_at hl 5 rfl) ?_
  refine lv_iload hx hb d_Law_law_511 (lv_at hl 1 rfl) ?_
  refine lv_iconst (v := nI 1) hx hb d_Law_law_513 (by decide) ?_
  refine lv_iadd hx hb d_Law_law_514 ?_
  refine lv_topi (fun t9 e9 => ?_)
  obtain rfl : t9 = nI (i + 1) := e9.trans (nI_add _ _)
  refine q_xld E hX (i + 1) rfl (by omega) (by omega) d_Law_law_515 ?_
  refine lv_aload_n hx hb d_Law_law_516 rfl (lv_at hl 5 rfl) ?_
  refine lv_iload hx hb d_Law_law_517 (lv_at hl 1 rfl) ?_
  refine lv_iconst (v := nI 2) hx hb d_Law_law_519 (by decide) ?_
  refine lv_iadd hx hb d_Law_law_520 ?_
  refine lv_topi (fun t9 e9 => ?_)
  obtain rfl : t9 = nI (i + 2) := e9.trans (nI_add _ _)
  refine q_xld E hX (i + 2) rfl (by omega) (by omega) d_Law_law_521 ?_
  obtain ⟨w9, n9, hob⟩ := hM.ob
  refine q_cV (rest := []) E ((G_Model_unity l g (nMT (b + 501)) (b + 501) th pn tn wm (xs (i + 1)) (xs (i + 2))).frV (nMT_up hb0)) w_1134 w_15 w_1131 w_1132 w_1133 hd_Model_unity rfl ⟨by decide, by decide⟩ (OB.recv E.2.2.2.2.2 (by rfl) hob) hM hF hl.1 rfl (Nat.le_of_ble_eq_true rfl) d_Law_law_522 hc (qv (fun H2 locs hq6 hF => ?_))
  obtain ⟨hq6, hfr6⟩ := hq6
  have hT := hT.frq hfr6
  have hX := hX.kept (hfr6.2 sb hX.lt (nMT_n (nM_lt hb0 hsb)))
  clear hob hM
  rcases hq with ⟨hok, rfl, hG⟩ | ⟨hok, rfl, hG⟩
  · skip
    have hM : MP g (nMT (b + 501)) H2 (b + 501) 0 pn tn wm := by
      rcases hq6 with ⟨-, h⟩ | ⟨h, -⟩
      · exact h
      · exact absurd hok h
    refine lv_goto (tgt := 1253) hx hb d_Law_law_525 (by decide) ?_
    have hl : lv_has ls 8 [(4, .int (nI i)), (3, .ref (b + 510)), (2, .ref (b + 501)), (1, .ref b), (0, .ref sb)] := lv_sub hl [1, 2, 3, 4, 5] rfl
    exact hN _ _ ls _ _ _ _ _ (hG.frq hb0 (nMT_fr hfr6)) hM hT hX hF hl
  · skip
    have hM : MP g (nMT (b + 501)) H2 (b + 501) 1 pn tn wm := by
      rcases hq6 with ⟨h, -⟩ | ⟨-, h⟩
      · exact absurd h hok
      · exact h
    refine lv_goto (tgt := 1253) hx hb d_Law_law_525 (by decide) ?_
    have hl : lv_has ls 8 [(4, .int (nI i)), (3, .ref (b + 510)), (2, .ref (b + 501)), (1, .ref b), (0, .ref sb)] := lv_sub hl [1, 2, 3, 4, 5] rfl
    exact hN _ _ ls _ _ _ _ _ (hG.frq hb0 (nMT_fr hfr6)) hM hT hX hF hl
set_option maxHeartbeats 4000000 in
set_option maxRecDepth 100000 in
theorem k_point {p : Program} {l : Launch} {e : Env} {s : State} {m : MethodId} {below : List Frame} {meth : Method} {c : Code} {g : WG} {sb L : Nat} {xs : Nat → Int32} {b : Nat} {mr mq : Int64} {H : Heap} {locs : List Loc} {ls : Array Slot} {th : Int32} {pn tn wn wm i cells slots : Nat} (E : EV p m c code 8 s #[Value.ref sb] "KateDeskLaw" g) (hr : meth.sig.returnType = ret) (hlk : meth.locks = false) (hb0 : s.heap.size ≤ b) (hsb : sb < s.heap.size) (hxs : XS l s) (hL : L ≤ 3072) (hi : i + 6 ≤ L) (hc : cells + 1 ≤ room_1.cells ∧ slots + 6 ≤ room_1.slots) (hN : LNX p l e s m below meth c g sb L xs b mr mq i (cells + 1) (slots + 6)) (hG : LG g s H b pn tn wn mr mq) (hM : MP g (nMT (b + 501)) H (b + 501) th pn tn wm) (hT : TW9 g H b tn mq) (hX : va_X sb L xs s H) (hF : ∀ q ∈ locs, HXA s q.base) (hl : lv_has ls 8 [(4, .int (nI i)), (3, .ref (b + 510)), (2, .ref (b + 501)), (1, .ref b), (0, .ref sb)]) : W p l e room_1 s m #[Value.ref sb] below meth c H locs cells slots (lw_Z below #[Value.ref sb] s) (F0 m 528 ls []) := by
  have hx := E.1
  have hb := E.2.1
  have hK := E.2.2.2.2.2
  have hw0 := State.WarmedH.refl s
  have hbd := hM.2.2.2.2.1
  obtain ⟨hmq, ⟨hR0, c0, m0, t0, hc0, hm0, ht0, hj0⟩, hcq, fa, hfa, hAT⟩ := id hT
  refine lv_aload_n hx hb d_Law_law_528 rfl (lv_at hl 3 rfl) ?_
  refine lv_aload_n hx hb d_Law_law_529 rfl (lv_at hl 4 rfl) ?_
  refine lv_iload hx hb d_Law_law_530 (lv_at hl 0 rfl) ?_
  refine lv_iconst (v := nI 1) hx hb d_Law_law_532 (by decide) ?_
  refine lv_iadd hx hb d_Law_law_533 ?_
  refine lv_topi (fun t9 e9 => ?_)
  obtain rfl : t9 = nI (i + 1) := e9.trans (nI_add _ _)
  refine q_xld E hX (i + 1) rfl (by omega) (by omega) d_Law_law_534 ?_
  refine lv_aload_n hx hb d_Law_law_535 rfl (lv_at hl 1 rfl) ?_
  refine q_cSH (rest := []) E hw0 (XH_point l g s hxs b pn tn wn mr mq hb0 (xs (i + 1)) c0 t0 ht0 (fun j hj => (hj0 j hj).1) hmq) w_615 w_0 w_613 w_614 hd_Law_point rfl ⟨by decide, by decide⟩ ⟨hG, hc0, hcq⟩ hF hl.1 rfl (Nat.le_of_ble_eq_true rfl) d_Law_law_536 hc (qi (fun r5 H1 locs hq hF => ?_))
  obtain ⟨hq, hfr⟩ := hq
  have hX := hX.kept (hfr sb (Or.inl (Nat.lt_of_lt_of_le hsb hb0)))
  have hM := hM.on (fun q h1 h2 => hfr q (Or.inr (Or.inl ⟨h1, h2⟩)))
  have hm0 : AI g H1 (b + 501 + 6) 96 m0 := AI.eq hm0 (hfr _ (Or.inr (Or.inl ⟨by omega, by omega⟩)))
  have hfa : AJ g H1 (b + 501 + 4) 420 fa := hfa.eq (hfr _ (Or.inr (Or.inl ⟨by omega, by omega⟩)))
  have hT := hT.keep hfr
  refine lv_istore (lv' := [(5, .int r5), (4, .int (nI i)), (3, .ref (b + 510)), (2, .ref (b + 501)), (1, .ref b), (0, .ref sb)]) hx hb d_Law_law_539 hl (by decide) rfl (fun ls hl => ?_)
  refine lv_aload_n hx hb d_Law_law_541 rfl (lv_at hl 3 rfl) ?_
  refine lv_aload_n hx hb d_Law_law_542 rfl (lv_at hl 5 rfl) ?_
  refine lv_iload hx hb d_Law_law_543 (lv_at hl 1 rfl) ?_
  refine lv_iconst (v := nI 1) hx hb d_Law_law_545 (by decide) ?_
  refine lv_iadd hx hb d_Law_law_546 ?_
  refine lv_topi (fun t9 e9 => ?_)
  obtain rfl : t9 = nI (i + 1) := e9.trans (nI_add _ _)
  refine q_xld E hX (i + 1) rfl (by omega) (by omega) d_Law_law_547 ?_
  obtain ⟨w9, n9, hob⟩ := hM.ob
  refine q_cV (rest := []) E ((X_Model_point l g (nMT (b + 501)) (b + 501) th pn tn wm (xs (i + 1)) m0 t0 ht0 (fun j hj => (hj0 j hj).2) fa hAT).frI (nMT_up hb0)) w_1148 w_15 w_1145 w_1146 w_1147 hd_Model_point rfl ⟨by decide, by decide⟩ (OB.recv E.2.2.2.2.2 (by rfl) hob) (⟨hM, hm0, hfa⟩) hF hl.1 rfl (Nat.le_of_ble_eq_true rfl) d_Law_law_548 hc (qi (fun r6 H2 locs hq6 hF => ?_))
  obtain ⟨hq6, hfr6⟩ := hq6
  have hX := hX.kept (hfr6.2 sb hX.lt (nMT_n (nM_lt hb0 hsb)))
  clear hob hM
  have hT := hT.frq hfr6
  rcases hq with ⟨hok, rfl, hG, n8, hpa, hA⟩ | ⟨hok, rfl, hG⟩
  · skip
    obtain ⟨hM, h69⟩ : MP g (nMT (b + 501)) H2 (b + 501) 0 pn 0 wm ∧ r6 = nI n8 := by
      rcases hq6 with ⟨-, h, n7, e7, p7⟩ | ⟨h, -⟩
      · exact ⟨h, by rw [e7, p7.un hpa]⟩
      · exact absurd hok h
    subst h69
    refine lv_istore (lv' := [(6, .int (nI n8)), (5, .int (nI 0)), (4, .int (nI i)), (3, .ref (b + 510)), (2, .ref (b + 501)), (1, .ref b), (0, .ref sb)]) hx hb d_Law_law_551 hl (by decide) rfl (fun ls hl => ?_)
    refine lv_aload_n hx hb d_Law_law_553 rfl (lv_at hl 4 rfl) ?_
    obtain ⟨w9, n9, hob⟩ := hM.ob
    refine q_cV (rest := []) E ((c_Model_thrown l g (nMT (b + 501)) (b + 501) 0).up (nMT_up hb0)) w_1048 w_15 w_1045 w_1046 w_1047 hd_Model_thrown rfl ⟨by decide, by decide⟩ (OB.recv E.2.2.2.2.2 (by rfl) hob) hM.th hF hl.1 rfl (Nat.le_of_ble_eq_true rfl) d_Law_law_554 hc (qi (fun r7 H3 locs hq7 hF => ?_))
    obtain ⟨rfl, hH7⟩ := hq7
    have hH7 := hH7.symm
    subst hH7
    refine lv_iload hx hb d_Law_law_557 (lv_at hl 1 rfl) ?_
    refine lv_icmp_eq (tgt := 564) hx hb d_Law_law_559 (by decide) (fun _ => ?_) (fun h9 => absurd (rfl) h9)
    refine lv_iload hx hb d_Law_law_564 (lv_at hl 1 rfl) ?_
    refine lv_if_ne (tgt := 581) hx hb d_Law_law_566 (by decide) (fun h9 => absurd (rfl) h9) (fun _ => ?_)
    refine lv_aload_n hx hb d_Law_law_569 rfl (lv_at hl 3 rfl) ?_
    refine lv_iconst (v := nI 0) hx hb d_Law_law_570 (by decide) ?_
    refine q_lald (N := 1) (f := (fun _ => (nI n8).toInt64)) E (hA.eq (hfr6.2 (b + 510) hA.lt (nMT_n nM_510))) 0 rfl (by decide) (by decide) d_Law_law_571 ?_
    refine lv_iload hx hb d_Law_law_572 (lv_at hl 0 rfl) ?_
    refine lv_i2l (v := (nI n8).toInt64) hx hb d_Law_law_574 rfl ?_
    refine W.lcmp hx hb d_Law_law_575 ?_
    refine lv_if_eq (tgt := 581) hx hb d_Law_law_576 (by decide) (fun _ => ?_) (fun h9 => absurd (l2i_eq rfl) h9)
    refine lv_goto (tgt := 1253) hx hb d_Law_law_581 (by decide) ?_
    have hl : lv_has ls 8 [(4, .int (nI i)), (3, .ref (b + 510)), (2, .ref (b + 501)), (1, .ref b), (0, .ref sb)] := lv_sub hl [2, 3, 4, 5, 6] rfl
    exact hN _ _ ls _ _ _ _ _ (hG.frq hb0 (nMT_fr hfr6)) hM (hT.less (Nat.zero_le _)) hX hF hl
  · skip
    have hM : MP g (nMT (b + 501)) H2 (b + 501) 1 pn tn wm := by
      rcases hq6 with ⟨h, -⟩ | ⟨-, h⟩
      · exact absurd h hok
      · exact h
    refine lv_istore (lv' := [(6, .int r6), (5, .int (nI 1)), (4, .int (nI i)), (3, .ref (b + 510)), (2, .ref (b + 501)), (1, .ref b), (0, .ref sb)]) hx hb d_Law_law_551 hl (by decide) rfl (fun ls hl => ?_)
    refine lv_aload_n hx hb d_Law_law_553 rfl (lv_at hl 4 rfl) ?_
    obtain ⟨w9, n9, hob⟩ := hM.ob
    refine q_cV (rest := []) E ((c_Model_thrown l g (nMT (b + 501)) (b + 501) 1).up (nMT_up hb0)) w_1048 w_15 w_1045 w_1046 w_1047 hd_Model_thrown rfl ⟨by decide, by decide⟩ (OB.recv E.2.2.2.2.2 (by rfl) hob) hM.th hF hl.1 rfl (Nat.le_of_ble_eq_true rfl) d_Law_law_554 hc (qi (fun r7 H3 locs hq7 hF => ?_))
    obtain ⟨rfl, hH7⟩ := hq7
    have hH7 := hH7.symm
    subst hH7
    refine lv_iload hx hb d_Law_law_557 (lv_at hl 1 rfl) ?_
    refine lv_icmp_eq (tgt := 564) hx hb d_Law_law_559 (by decide) (fun _ => ?_) (fun h9 => absurd (rfl) h9)
    refine lv_iload hx hb d_Law_law_564 (lv_at hl 1 rfl) ?_
    refine lv_if_ne (tgt := 581) hx hb d_Law_law_566 (by decide) (fun _ => ?_) (fun h9 => absurd h9 (by decide))
    refine lv_goto (tgt := 1253) hx hb d_Law_law_581 (by decide) ?_
    have hl : lv_has ls 8 [(4, .int (nI i)), (3, .ref (b + 510)), (2, .ref (b + 501)), (1, .ref b), (0, .ref sb)] := lv_sub hl [2, 3, 4, 5, 6] rfl
    exact hN _ _ ls _ _ _ _ _ (hG.frq hb0 (nMT_fr hfr6)) hM hT hX hF hl
set_option maxHeartbeats 4000000 in
set_option maxRecDepth 100000 in
theorem k_bytes {p : Program} {l : Launch} {e : Env} {s : State} {m : MethodId} {below : List Frame} {meth : Method} {c : Code} {g : WG} {sb L : Nat} {xs : Nat → Int32} {b : Nat} {mr mq : Int64} {H : Heap} {locs : List Loc} {ls : Array Slot} {th : Int32} {pn tn wn wm i cells slots : Nat} (E : EV p m c code 8 s #[Value.ref sb] "KateDeskLaw" g) (hr : meth.sig.returnType = ret) (hlk : meth.locks = false) (hb0 : s.heap.size ≤ b) (hsb : sb < s.heap.size) (hxs : XS l s) (hL : L ≤ 3072) (hi : i + 6 ≤ L) (hc : cells + 1 ≤ room_1.cells ∧ slots + 6 ≤ room_1.slots) (hN : LNX p l e s m below meth c g sb L xs b mr mq i (cells + 1) (slots + 6)) (hG : LG g s H b pn tn wn mr mq) (hM : MP g (nMT (b + 501)) H (b + 501) th pn tn wm) (hT : TW9 g H b tn mq) (hX : va_X sb L xs s H) (hF : ∀ q ∈ locs, HXA s q.base) (hl : lv_has ls 8 [(4, .int (nI i)), (3, .ref (b + 510)), (2, .ref (b + 501)), (1, .ref b), (0, .ref sb)]) : W p l e room_1 s m #[Value.ref sb] below meth c H locs cells slots (lw_Z below #[Value.ref sb] s) (F0 m 584 ls []) := by
  have hx := E.1
  have hb := E.2.1
  have hK := E.2.2.2.2.2
  have hw0 := State.WarmedH.refl s
  have hbd := hM.2.2.2.2.1
  by_cases hzb : xs (i + 2) = 0
  · skip
    refine lv_aload_n hx hb d_Law_law_584 rfl (lv_at hl 3 rfl) ?_
    refine lv_aload_n hx hb d_Law_law_585 rfl (lv_at hl 4 rfl) ?_
    refine lv_iload hx hb d_Law_law_586 (lv_at hl 0 rfl) ?_
    refine lv_iconst (v := nI 1) hx hb d_Law_law_588 (by decide) ?_
    refine lv_iadd hx hb d_Law_law_589 ?_
    refine lv_topi (fun t9 e9 => ?_)
    obtain rfl : t9 = nI (i + 1) := e9.trans (nI_add _ _)
    refine q_xld E hX (i + 1) rfl (by omega) (by omega) d_Law_law_590 ?_
    refine lv_aload_n hx hb d_Law_law_591 rfl (lv_at hl 4 rfl) ?_
    refine lv_iload hx hb d_Law_law_592 (lv_at hl 0 rfl) ?_
    refine lv_iconst (v := nI 2) hx hb d_Law_law_594 (by decide) ?_
    refine lv_iadd hx hb d_Law_law_595 ?_
    refine lv_topi (fun t9 e9 => ?_)
    obtain rfl : t9 = nI (i + 2) := e9.trans (nI_add _ _)
    refine q_xld E hX (i + 2) rfl (by omega) (by omega) d_Law_law_596 ?_
    refine lv_if_eq (tgt := 604) hx hb d_Law_law_597 (by decide) (fun _ => ?_) (fun h9 => absurd (hzb) h9)
    refine lv_iconst (v := nI 0) hx hb d_Law_law_604 (by decide) ?_
    refine q_cSH (rest := []) E hw0 (H_bytes l g s hxs b pn tn wn mr mq hb0 (xs (i + 1)) (nI 0)) w_733 w_0 w_731 w_732 hd_Law_bytes rfl ⟨by decide, by decide⟩ hG hF hl.1 rfl (Nat.le_of_ble_eq_true rfl) d_Law_law_605 hc (qi (fun r5 H1 locs hq hF => ?_))
    obtain ⟨hq, hfr⟩ := hq
    have hX := hX.kept (hfr sb (Or.inl (Nat.lt_of_lt_of_le hsb hb0)))
    have hM := hM.on (fun q h1 h2 => hfr q (Or.inr (Or.inl ⟨h1, h2⟩)))
    have hT := hT.keep hfr
    refine lv_istore (lv' := [(5, .int r5), (4, .int (nI i)), (3, .ref (b + 510)), (2, .ref (b + 501)), (1, .ref b), (0, .ref sb)]) hx hb d_Law_law_608 hl (by decide) rfl (fun ls hl => ?_)
    refine lv_aload_n hx hb d_Law_law_610 rfl (lv_at hl 3 rfl) ?_
    refine lv_aload_n hx hb d_Law_law_611 rfl (lv_at hl 5 rfl) ?_
    refine lv_iload hx hb d_Law_law_612 (lv_at hl 1 rfl) ?_
    refine lv_iconst (v := nI 1) hx hb d_Law_law_614 (by decide) ?_
    refine lv_iadd hx hb d_Law_law_615 ?_
    refine lv_topi (fun t9 e9 => ?_)
    obtain rfl : t9 = nI (i + 1) := e9.trans (nI_add _ _)
    refine q_xld E hX (i + 1) rfl (by omega) (by omega) d_Law_law_616 ?_
    refine lv_aload_n hx hb d_Law_law_617 rfl (lv_at hl 5 rfl) ?_
    refine lv_iload hx hb d_Law_law_618 (lv_at hl 1 rfl) ?_
    refine lv_iconst (v := nI 2) hx hb d_Law_law_620 (by decide) ?_
    refine lv_iadd hx hb d_Law_law_621 ?_
    refine lv_topi (fun t9 e9 => ?_)
    obtain rfl : t9 = nI (i + 2) := e9.trans (nI_add _ _)
    refine q_xld E hX (i + 2) rfl (by omega) (by omega) d_Law_law_622 ?_
    refine lv_if_eq (tgt := 630) hx hb d_Law_law_623 (by decide) (fun _ => ?_) (fun h9 => absurd (hzb) h9)
    refine lv_iconst (v := nI 0) hx hb d_Law_law_630 (by decide) ?_
    obtain ⟨w9, n9, hob⟩ := hM.ob
    refine q_cV (rest := []) E ((G_Model_bytes l g (nMT (b + 501)) (b + 501) th pn tn wm (xs (i + 1)) (nI 0)).frV (nMT_up hb0)) w_1183 w_15 w_1180 w_1181 w_1182 hd_Model_bytes rfl ⟨by decide, by decide⟩ (OB.recv E.2.2.2.2.2 (by rfl) hob) hM hF hl.1 rfl (Nat.le_of_ble_eq_true rfl) d_Law_law_631 hc (qv (fun H2 locs hq6 hF => ?_))
    obtain ⟨hq6, hfr6⟩ := hq6
    have hT := hT.frq hfr6
    have hX := hX.kept (hfr6.2 sb hX.lt (nMT_n (nM_lt hb0 hsb)))
    clear hob hM
    rcases hq with ⟨hok, rfl, hG⟩ | ⟨hok, rfl, hG⟩
    · skip
      obtain ⟨w8, hG⟩ := hG
      have h69 : ∃ w7, MP g (nMT (b + 501)) H2 (b + 501) 0 pn tn w7 := by
        rcases hq6 with ⟨-, h⟩ | ⟨h, -⟩
        · exact h
        · exact absurd hok h
      obtain ⟨w7, hM⟩ := h69
      refine lv_goto (tgt := 1253) hx hb d_Law_law_634 (by decide) ?_
      have hl : lv_has ls 8 [(4, .int (nI i)), (3, .ref (b + 510)), (2, .ref (b + 501)), (1, .ref b), (0, .ref sb)] := lv_sub hl [1, 2, 3, 4, 5] rfl
      exact hN _ _ ls _ _ _ _ _ (hG.frq hb0 (nMT_fr hfr6)) hM hT hX hF hl
    · skip
      have hM : MP g (nMT (b + 501)) H2 (b + 501) 1 pn tn wm := by
        rcases hq6 with ⟨h, -⟩ | ⟨-, h⟩
        · exact absurd h hok
        · exact h
      refine lv_goto (tgt := 1253) hx hb d_Law_law_634 (by decide) ?_
      have hl : lv_has ls 8 [(4, .int (nI i)), (3, .ref (b + 510)), (2, .ref (b + 501)), (1, .ref b), (0, .ref sb)] := lv_sub hl [1, 2, 3, 4, 5] rfl
      exact hN _ _ ls _ _ _ _ _ (hG.frq hb0 (nMT_fr hfr6)) hM hT hX hF hl
  · skip
    refine lv_aload_n hx hb d_Law_law_584 rfl (lv_at hl 3 rfl) ?_
    refine lv_aload_n hx hb d_Law_law_585 rfl (lv_at hl 4 rfl) ?_
    refine lv_iload hx hb d_Law_law_586 (lv_at hl 0 rfl) ?_
    refine lv_iconst (v := nI 1) hx hb d_Law_law_588 (by decide) ?_
    refine lv_iadd hx hb d_Law_law_589 ?_
    refine lv_topi (fun t9 e9 => ?_)
    obtain rfl : t9 = nI (i + 1) := e9.trans (nI_add _ _)
    refine q_xld E hX (i + 1) rfl (by omega) (by omega) d_Law_law_590 ?_
    refine lv_aload_n hx hb d_Law_law_591 rfl (lv_at hl 4 rfl) ?_
    refine lv_iload hx hb d_Law_law_592 (lv_at hl 0 rfl) ?_
    refine lv_iconst (v := nI 2) hx hb d_Law_law_594 (by decide) ?_
    refine lv_iadd hx hb d_Law_law_595 ?_
    refine lv_topi (fun t9 e9 => ?_)
    obtain rfl : t9 = nI (i + 2) := e9.trans (nI_add _ _)
    refine q_xld E hX (i + 2) rfl (by omega) (by omega) d_Law_law_596 ?_
    refine lv_if_eq (tgt := 604) hx hb d_Law_law_597 (by decide) (fun h9 => absurd h9 (hzb)) (fun _ => ?_)
    refine lv_iconst (v := nI 1) hx hb d_Law_law_600 (by decide) ?_
    refine lv_goto (tgt := 605) hx hb d_Law_law_601 (by decide) ?_
    refine q_cSH (rest := []) E hw0 (H_bytes l g s hxs b pn tn wn mr mq hb0 (xs (i + 1)) (nI 1)) w_733 w_0 w_731 w_732 hd_Law_bytes rfl ⟨by decide, by decide⟩ hG hF hl.1 rfl (Nat.le_of_ble_eq_true rfl) d_Law_law_605 hc (qi (fun r5 H1 locs hq hF => ?_))
    obtain ⟨hq, hfr⟩ := hq
    have hX := hX.kept (hfr sb (Or.inl (Nat.lt_of_lt_of_le hsb hb0)))
    have hM := hM.on (fun q h1 h2 => hfr q (Or.inr (Or.inl ⟨h1, h2⟩)))
    have hT := hT.keep hfr
    refine lv_istore (lv' := [(5, .int r5), (4, .int (nI i)), (3, .ref (b + 510)), (2, .ref (b + 501)), (1, .ref b), (0, .ref sb)]) hx hb d_Law_law_608 hl (by decide) rfl (fun ls hl => ?_)
    refine lv_aload_n hx hb d_Law_law_610 rfl (lv_at hl 3 rfl) ?_
    refine lv_aload_n hx hb d_Law_law_611 rfl (lv_at hl 5 rfl) ?_
    refine lv_iload hx hb d_Law_law_612 (lv_at hl 1 rfl) ?_
    refine lv_iconst (v := nI 1) hx hb d_Law_law_614 (by decide) ?_
    refine lv_iadd hx hb d_Law_law_615 ?_
    refine lv_topi (fun t9 e9 => ?_)
    obtain rfl : t9 = nI (i + 1) := e9.trans (nI_add _ _)
    refine q_xld E hX (i + 1) rfl (by omega) (by omega) d_Law_law_616 ?_
    refine lv_aload_n hx hb d_Law_law_617 rfl (lv_at hl 5 rfl) ?_
    refine lv_iload hx hb d_Law_law_618 (lv_at hl 1 rfl) ?_
    refine lv_iconst (v := nI 2) hx hb d_Law_law_620 (by decide) ?_
    refine lv_iadd hx hb d_Law_law_621 ?_
    refine lv_topi (fun t9 e9 => ?_)
    obtain rfl : t9 = nI (i + 2) := e9.trans (nI_add _ _)
    refine q_xld E hX (i + 2) rfl (by omega) (by omega) d_Law_law_622 ?_
    refine lv_if_eq (tgt := 630) hx hb d_Law_law_623 (by decide) (fun h9 => absurd h9 (hzb)) (fun _ => ?_)
    refine lv_iconst (v := nI 1) hx hb d_Law_law_626 (by decide) ?_
    refine lv_goto (tgt := 631) hx hb d_Law_law_627 (by decide) ?_
    obtain ⟨w9, n9, hob⟩ := hM.ob
    refine q_cV (rest := []) E ((G_Model_bytes l g (nMT (b + 501)) (b + 501) th pn tn wm (xs (i + 1)) (nI 1)).frV (nMT_up hb0)) w_1183 w_15 w_1180 w_1181 w_1182 hd_Model_bytes rfl ⟨by decide, by decide⟩ (OB.recv E.2.2.2.2.2 (by rfl) hob) hM hF hl.1 rfl (Nat.le_of_ble_eq_true rfl) d_Law_law_631 hc (qv (fun H2 locs hq6 hF => ?_))
    obtain ⟨hq6, hfr6⟩ := hq6
    have hT := hT.frq hfr6
    have hX := hX.kept (hfr6.2 sb hX.lt (nMT_n (nM_lt hb0 hsb)))
    clear hob hM
    rcases hq with ⟨hok, rfl, hG⟩ | ⟨hok, rfl, hG⟩
    · skip
      obtain ⟨w8, hG⟩ := hG
      have h69 : ∃ w7, MP g (nMT (b + 501)) H2 (b + 501) 0 pn tn w7 := by
        rcases hq6 with ⟨-, h⟩ | ⟨h, -⟩
        · exact h
        · exact absurd hok h
      obtain ⟨w7, hM⟩ := h69
      refine lv_goto (tgt := 1253) hx hb d_Law_law_634 (by decide) ?_
      have hl : lv_has ls 8 [(4, .int (nI i)), (3, .ref (b + 510)), (2, .ref (b + 501)), (1, .ref b), (0, .ref sb)] := lv_sub hl [1, 2, 3, 4, 5] rfl
      exact hN _ _ ls _ _ _ _ _ (hG.frq hb0 (nMT_fr hfr6)) hM hT hX hF hl
    · skip
      have hM : MP g (nMT (b + 501)) H2 (b + 501) 1 pn tn wm := by
        rcases hq6 with ⟨h, -⟩ | ⟨-, h⟩
        · exact absurd h hok
        · exact h
      refine lv_goto (tgt := 1253) hx hb d_Law_law_634 (by decide) ?_
      have hl : lv_has ls 8 [(4, .int (nI i)), (3, .ref (b + 510)), (2, .ref (b + 501)), (1, .ref b), (0, .ref sb)] := lv_sub hl [1, 2, 3, 4, 5] rfl
      exact hN _ _ ls _ _ _ _ _ (hG.frq hb0 (nMT_fr hfr6)) hM hT hX hF hl
set_option maxHeartbeats 4000000 in
set_option maxRecDepth 100000 in
theorem k_out {p : Program} {l : Launch} {e : Env} {s : State} {m : MethodId} {below : List Frame} {meth : Method} {c : Code} {g : WG} {sb L : Nat} {xs : Nat → Int32} {b : Nat} {mr mq : Int64} {H : Heap} {locs : List Loc} {ls : Array Slot} {th : Int32} {pn tn wn wm i cells slots : Nat} (E : EV p m c code 8 s #[Value.ref sb] "KateDeskLaw" g) (hr : meth.sig.returnType = ret) (hlk : meth.locks = false) (hb0 : s.heap.size ≤ b) (hsb : sb < s.heap.size) (hxs : XS l s) (hL : L ≤ 3072) (hi : i + 6 ≤ L) (hc : cells + 1 ≤ room_1.cells ∧ slots + 6 ≤ room_1.slots) (hN : LNX p l e s m below meth c g sb L xs b mr mq i (cells + 1) (slots + 6)) (hG : LG g s H b pn tn wn mr mq) (hM : MP g (nMT (b + 501)) H (b + 501) th pn tn wm) (hT : TW9 g H b tn mq) (hX : va_X sb L xs s H) (hF : ∀ q ∈ locs, HXA s q.base) (hl : lv_has ls 8 [(4, .int (nI i)), (3, .ref (b + 510)), (2, .ref (b + 501)), (1, .ref b), (0, .ref sb)]) : W p l e room_1 s m #[Value.ref sb] below meth c H locs cells slots (lw_Z below #[Value.ref sb] s) (F0 m 637 ls []) := by
  have hx := E.1
  have hb := E.2.1
  have hK := E.2.2.2.2.2
  have hw0 := State.WarmedH.refl s
  have hbd := hM.2.2.2.2.1
  refine lv_aload_n hx hb d_Law_law_637 rfl (lv_at hl 3 rfl) ?_
  refine lv_aload_n hx hb d_Law_law_638 rfl (lv_at hl 4 rfl) ?_
  refine lv_iload hx hb d_Law_law_639 (lv_at hl 0 rfl) ?_
  refine lv_iconst (v := nI 1) hx hb d_Law_law_641 (by decide) ?_
  refine lv_iadd hx hb d_Law_law_642 ?_
  refine lv_topi (fun t9 e9 => ?_)
  obtain rfl : t9 = nI (i + 1) := e9.trans (nI_add _ _)
  refine q_xld E hX (i + 1) rfl (by omega) (by omega) d_Law_law_643 ?_
  refine lv_aload_n hx hb d_Law_law_644 rfl (lv_at hl 1 rfl) ?_
  refine q_cSH (rest := []) E hw0 (H_out l g s hxs b pn tn wn mr mq hb0 (xs (i + 1))) w_751 w_0 w_749 w_750 hd_Law_out rfl ⟨by decide, by decide⟩ hG hF hl.1 rfl (Nat.le_of_ble_eq_true rfl) d_Law_law_645 hc (qi (fun r5 H1 locs hq hF => ?_))
  obtain ⟨hq, hfr⟩ := hq
  have hX := hX.kept (hfr sb (Or.inl (Nat.lt_of_lt_of_le hsb hb0)))
  have hM := hM.on (fun q h1 h2 => hfr q (Or.inr (Or.inl ⟨h1, h2⟩)))
  have hT := hT.keep hfr
  refine lv_istore (lv' := [(5, .int r5), (4, .int (nI i)), (3, .ref (b + 510)), (2, .ref (b + 501)), (1, .ref b), (0, .ref sb)]) hx hb d_Law_law_648 hl (by decide) rfl (fun ls hl => ?_)
  refine lv_aload_n hx hb d_Law_law_650 rfl (lv_at hl 3 rfl) ?_
  refine lv_aload_n hx hb d_Law_law_651 rfl (lv_at hl 5 rfl) ?_
  refine lv_iload hx hb d_Law_law_652 (lv_at hl 1 rfl) ?_
  refine lv_iconst (v := nI 1) hx hb d_Law_law_654 (by decide) ?_
  refine lv_iadd hx hb d_Law_law_655 ?_
  refine lv_topi (fun t9 e9 => ?_)
  obtain rfl : t9 = nI (i + 1) := e9.trans (nI_add _ _)
  refine q_xld E hX (i + 1) rfl (by omega) (by omega) d_Law_law_656 ?_
  obtain ⟨w9, n9, hob⟩ := hM.ob
  refine q_cV (rest := []) E ((G_Model_out l g (nMT (b + 501)) (b + 501) th pn tn wm (xs (i + 1))).frL (nMT_up hb0)) w_1191 w_15 w_1188 w_1189 w_1190 hd_Model_out rfl ⟨by decide, by decide⟩ (OB.recv E.2.2.2.2.2 (by rfl) hob) hM hF hl.1 rfl (Nat.le_of_ble_eq_true rfl) d_Law_law_657 hc (ql (fun r6 H2 locs hq6 hF => ?_))
  obtain ⟨hq6, hfr6⟩ := hq6
  have hT := hT.frq hfr6
  have hX := hX.kept (hfr6.2 sb hX.lt (nMT_n (nM_lt hb0 hsb)))
  clear hob hM
  rcases hq with ⟨hok, rfl, hG⟩ | ⟨hok, rfl, hG⟩
  · skip
    obtain ⟨th2, hM⟩ : ∃ th2, MP g (nMT (b + 501)) H2 (b + 501) th2 pn tn wm := by
      rcases hq6 with ⟨-, h⟩ | ⟨-, h⟩
      · exact ⟨_, h⟩
      · exact ⟨_, h⟩
    refine lv_lstore (lv' := [(6, .long r6), (5, .int (nI 0)), (4, .int (nI i)), (3, .ref (b + 510)), (2, .ref (b + 501)), (1, .ref b), (0, .ref sb)]) hx hb d_Law_law_660 hl (by decide) rfl (fun ls hl => ?_)
    refine lv_goto (tgt := 1253) hx hb d_Law_law_662 (by decide) ?_
    have hl : lv_has ls 8 [(4, .int (nI i)), (3, .ref (b + 510)), (2, .ref (b + 501)), (1, .ref b), (0, .ref sb)] := lv_sub hl [2, 3, 4, 5, 6] rfl
    exact hN _ _ ls _ _ _ _ _ (hG.frq hb0 (nMT_fr hfr6)) hM hT hX hF hl
  · skip
    obtain ⟨th2, hM⟩ : ∃ th2, MP g (nMT (b + 501)) H2 (b + 501) th2 pn tn wm := by
      rcases hq6 with ⟨-, h⟩ | ⟨-, h⟩
      · exact ⟨_, h⟩
      · exact ⟨_, h⟩
    refine lv_lstore (lv' := [(6, .long r6), (5, .int (nI 1)), (4, .int (nI i)), (3, .ref (b + 510)), (2, .ref (b + 501)), (1, .ref b), (0, .ref sb)]) hx hb d_Law_law_660 hl (by decide) rfl (fun ls hl => ?_)
    refine lv_goto (tgt := 1253) hx hb d_Law_law_662 (by decide) ?_
    have hl : lv_has ls 8 [(4, .int (nI i)), (3, .ref (b + 510)), (2, .ref (b + 501)), (1, .ref b), (0, .ref sb)] := lv_sub hl [2, 3, 4, 5, 6] rfl
    exact hN _ _ ls _ _ _ _ _ (hG.frq hb0 (nMT_fr hfr6)) hM hT hX hF hl
set_option maxHeartbeats 4000000 in
set_option maxRecDepth 100000 in
theorem k_join {p : Program} {l : Launch} {e : Env} {s : State} {m : MethodId} {below : List Frame} {meth : Method} {c : Code} {g : WG} {sb L : Nat} {xs : Nat → Int32} {b : Nat} {mr mq : Int64} {H : Heap} {locs : List Loc} {ls : Array Slot} {th : Int32} {pn tn wn wm i cells slots : Nat} (E : EV p m c code 8 s #[Value.ref sb] "KateDeskLaw" g) (hr : meth.sig.returnType = ret) (hlk : meth.locks = false) (hb0 : s.heap.size ≤ b) (hsb : sb < s.heap.size) (hxs : XS l s) (hL : L ≤ 3072) (hi : i + 6 ≤ L) (hc : cells + 1 ≤ room_1.cells ∧ slots + 6 ≤ room_1.slots) (hN : LNX p l e s m below meth c g sb L xs b mr mq i (cells + 1) (slots + 6)) (hG : LG g s H b pn tn wn mr mq) (hM : MP g (nMT (b + 501)) H (b + 501) th pn tn wm) (hT : TW9 g H b tn mq) (hX : va_X sb L xs s H) (hF : ∀ q ∈ locs, HXA s q.base) (hl : lv_has ls 8 [(4, .int (nI i)), (3, .ref (b + 510)), (2, .ref (b + 501)), (1, .ref b), (0, .ref sb)]) : W p l e room_1 s m #[Value.ref sb] below meth c H locs cells slots (lw_Z below #[Value.ref sb] s) (F0 m 665 ls []) := by
  have hx := E.1
  have hb := E.2.1
  have hK := E.2.2.2.2.2
  have hw0 := State.WarmedH.refl s
  have hbd := hM.2.2.2.2.1
  refine lv_aload_n hx hb d_Law_law_665 rfl (lv_at hl 3 rfl) ?_
  refine lv_aload_n hx hb d_Law_law_666 rfl (lv_at hl 4 rfl) ?_
  refine lv_iload hx hb d_Law_law_667 (lv_at hl 0 rfl) ?_
  refine lv_iconst (v := nI 1) hx hb d_Law_law_669 (by decide) ?_
  refine lv_iadd hx hb d_Law_law_670 ?_
  refine lv_topi (fun t9 e9 => ?_)
  obtain rfl : t9 = nI (i + 1) := e9.trans (nI_add _ _)
  refine q_xld E hX (i + 1) rfl (by omega) (by omega) d_Law_law_671 ?_
  refine lv_aload_n hx hb d_Law_law_672 rfl (lv_at hl 4 rfl) ?_
  refine lv_iload hx hb d_Law_law_673 (lv_at hl 0 rfl) ?_
  refine lv_iconst (v := nI 2) hx hb d_Law_law_675 (by decide) ?_
  refine lv_iadd hx hb d_Law_law_676 ?_
  refine lv_topi (fun t9 e9 => ?_)
  obtain rfl : t9 = nI (i + 2) := e9.trans (nI_add _ _)
  refine q_xld E hX (i + 2) rfl (by omega) (by omega) d_Law_law_677 ?_
  refine lv_aload_n hx hb d_Law_law_678 rfl (lv_at hl 4 rfl) ?_
  refine lv_iload hx hb d_Law_law_679 (lv_at hl 0 rfl) ?_
  refine lv_iconst (v := nI 3) hx hb d_Law_law_681 (by decide) ?_
  refine lv_iadd hx hb d_Law_law_682 ?_
  refine lv_topi (fun t9 e9 => ?_)
  obtain rfl : t9 = nI (i + 3) := e9.trans (nI_add _ _)
  refine q_xld E hX (i + 3) rfl (by omega) (by omega) d_Law_law_683 ?_
  refine lv_aload_n hx hb d_Law_law_684 rfl (lv_at hl 4 rfl) ?_
  refine lv_iload hx hb d_Law_law_685 (lv_at hl 0 rfl) ?_
  refine lv_iconst (v := nI 4) hx hb d_Law_law_687 (by decide) ?_
  refine lv_iadd hx hb d_Law_law_688 ?_
  refine lv_topi (fun t9 e9 => ?_)
  obtain rfl : t9 = nI (i + 4) := e9.trans (nI_add _ _)
  refine q_xld E hX (i + 4) rfl (by omega) (by omega) d_Law_law_689 ?_
  refine q_cSH (rest := []) E hw0 (H_join l g s hxs b pn tn wn mr mq hb0 (xs (i + 1)) (xs (i + 2)) (xs (i + 3)) (xs (i + 4))) w_775 w_0 w_773 w_774 hd_Law_join rfl ⟨by decide, by decide⟩ hG hF hl.1 rfl (Nat.le_of_ble_eq_true rfl) d_Law_law_690 hc (qi (fun r5 H1 locs hq hF => ?_))
  obtain ⟨hq, hfr⟩ := hq
  have hX := hX.kept (hfr sb (Or.inl (Nat.lt_of_lt_of_le hsb hb0)))
  have hM := hM.on (fun q h1 h2 => hfr q (Or.inr (Or.inl ⟨h1, h2⟩)))
  have hT := hT.keep hfr
  refine lv_istore (lv' := [(5, .int r5), (4, .int (nI i)), (3, .ref (b + 510)), (2, .ref (b + 501)), (1, .ref b), (0, .ref sb)]) hx hb d_Law_law_693 hl (by decide) rfl (fun ls hl => ?_)
  refine lv_aload_n hx hb d_Law_law_695 rfl (lv_at hl 3 rfl) ?_
  refine lv_aload_n hx hb d_Law_law_696 rfl (lv_at hl 5 rfl) ?_
  refine lv_iload hx hb d_Law_law_697 (lv_at hl 1 rfl) ?_
  refine lv_iconst (v := nI 1) hx hb d_Law_law_699 (by decide) ?_
  refine lv_iadd hx hb d_Law_law_700 ?_
  refine lv_topi (fun t9 e9 => ?_)
  obtain rfl : t9 = nI (i + 1) := e9.trans (nI_add _ _)
  refine q_xld E hX (i + 1) rfl (by omega) (by omega) d_Law_law_701 ?_
  refine lv_aload_n hx hb d_Law_law_702 rfl (lv_at hl 5 rfl) ?_
  refine lv_iload hx hb d_Law_law_703 (lv_at hl 1 rfl) ?_
  refine lv_iconst (v := nI 2) hx hb d_Law_law_705 (by decide) ?_
  refine lv_iadd hx hb d_Law_law_706 ?_
  refine lv_topi (fun t9 e9 => ?_)
  obtain rfl : t9 = nI (i + 2) := e9.trans (nI_add _ _)
  refine q_xld E hX (i + 2) rfl (by omega) (by omega) d_Law_law_707 ?_
  refine lv_aload_n hx hb d_Law_law_708 rfl (lv_at hl 5 rfl) ?_
  refine lv_iload hx hb d_Law_law_709 (lv_at hl 1 rfl) ?_
  refine lv_iconst (v := nI 3) hx hb d_Law_law_711 (by decide) ?_
  refine lv_iadd hx hb d_Law_law_712 ?_
  refine lv_topi (fun t9 e9 => ?_)
  obtain rfl : t9 = nI (i + 3) := e9.trans (nI_add _ _)
  refine q_xld E hX (i + 3) rfl (by omega) (by omega) d_Law_law_713 ?_
  refine lv_aload_n hx hb d_Law_law_714 rfl (lv_at hl 5 rfl) ?_
  refine lv_iload hx hb d_Law_law_715 (lv_at hl 1 rfl) ?_
  refine lv_iconst (v := nI 4) hx hb d_Law_law_717 (by decide) ?_
  refine lv_iadd hx hb d_Law_law_718 ?_
  refine lv_topi (fun t9 e9 => ?_)
  obtain rfl : t9 = nI (i + 4) := e9.trans (nI_add _ _)
  refine q_xld E hX (i + 4) rfl (by omega) (by omega) d_Law_law_719 ?_
  obtain ⟨w9, n9, hob⟩ := hM.ob
  refine q_cV (rest := []) E ((G_Model_join l g (nMT (b + 501)) (b + 501) th pn tn wm (xs (i + 1)) (xs (i + 2)) (xs (i + 3)) (xs (i + 4))).frV (nMT_up hb0)) w_1195 w_15 w_1192 w_1193 w_1194 hd_Model_join rfl ⟨by decide, by decide⟩ (OB.recv E.2.2.2.2.2 (by rfl) hob) hM hF hl.1 rfl (Nat.le_of_ble_eq_true rfl) d_Law_law_720 hc (qv (fun H2 locs hq6 hF => ?_))
  obtain ⟨hq6, hfr6⟩ := hq6
  have hT := hT.frq hfr6
  have hX := hX.kept (hfr6.2 sb hX.lt (nMT_n (nM_lt hb0 hsb)))
  clear hob hM
  rcases hq with ⟨hok, rfl, hG⟩ | ⟨hok, rfl, hG⟩
  · skip
    have hM : MP g (nMT (b + 501)) H2 (b + 501) 0 pn tn wm := by
      rcases hq6 with ⟨-, h⟩ | ⟨h, -⟩
      · exact h
      · exact absurd hok h
    refine lv_goto (tgt := 1253) hx hb d_Law_law_723 (by decide) ?_
    have hl : lv_has ls 8 [(4, .int (nI i)), (3, .ref (b + 510)), (2, .ref (b + 501)), (1, .ref b), (0, .ref sb)] := lv_sub hl [1, 2, 3, 4, 5] rfl
    exact hN _ _ ls _ _ _ _ _ (hG.frq hb0 (nMT_fr hfr6)) hM hT hX hF hl
  · skip
    have hM : MP g (nMT (b + 501)) H2 (b + 501) 1 pn tn wm := by
      rcases hq6 with ⟨h, -⟩ | ⟨-, h⟩
      · exact absurd h hok
      · exact h
    refine lv_goto (tgt := 1253) hx hb d_Law_law_723 (by decide) ?_
    have hl : lv_has ls 8 [(4, .int (nI i)), (3, .ref (b + 510)), (2, .ref (b + 501)), (1, .ref b), (0, .ref sb)] := lv_sub hl [1, 2, 3, 4, 5] rfl
    exact hN _ _ ls _ _ _ _ _ (hG.frq hb0 (nMT_fr hfr6)) hM hT hX hF hl
set_option maxHeartbeats 4000000 in
set_option maxRecDepth 100000 in
theorem k_times {p : Program} {l : Launch} {e : Env} {s : State} {m : MethodId} {below : List Frame} {meth : Method} {c : Code} {g : WG} {sb L : Nat} {xs : Nat → Int32} {b : Nat} {mr mq : Int64} {H : Heap} {locs : List Loc} {ls : Array Slot} {th : Int32} {pn tn wn wm i cells slots : Nat} (E : EV p m c code 8 s #[Value.ref sb] "KateDeskLaw" g) (hr : meth.sig.returnType = ret) (hlk : meth.locks = false) (hb0 : s.heap.size ≤ b) (hsb : sb < s.heap.size) (hxs : XS l s) (hL : L ≤ 3072) (hi : i + 6 ≤ L) (hc : cells + 1 ≤ room_1.cells ∧ slots + 6 ≤ room_1.slots) (hN : LNX p l e s m below meth c g sb L xs b mr mq i (cells + 1) (slots + 6)) (hG : LG g s H b pn tn wn mr mq) (hM : MP g (nMT (b + 501)) H (b + 501) th pn tn wm) (hT : TW9 g H b tn mq) (hX : va_X sb L xs s H) (hF : ∀ q ∈ locs, HXA s q.base) (hl : lv_has ls 8 [(4, .int (nI i)), (3, .ref (b + 510)), (2, .ref (b + 501)), (1, .ref b), (0, .ref sb)]) : W p l e room_1 s m #[Value.ref sb] below meth c H locs cells slots (lw_Z below #[Value.ref sb] s) (F0 m 726 ls []) := by
  have hx := E.1
  have hb := E.2.1
  have hK := E.2.2.2.2.2
  have hw0 := State.WarmedH.refl s
  have hbd := hM.2.2.2.2.1
  refine lv_aload_n hx hb d_Law_law_726 rfl (lv_at hl 3 rfl) ?_
  refine lv_aload_n hx hb d_Law_law_727 rfl (lv_at hl 4 rfl) ?_
  refine lv_iload hx hb d_Law_law_728 (lv_at hl 0 rfl) ?_
  refine lv_iconst (v := nI 1) hx hb d_Law_law_730 (by decide) ?_
  refine lv_iadd hx hb d_Law_law_731 ?_
  refine lv_topi (fun t9 e9 => ?_)
  obtain rfl : t9 = nI (i + 1) := e9.trans (nI_add _ _)
  refine q_xld E hX (i + 1) rfl (by omega) (by omega) d_Law_law_732 ?_
  refine lv_aload_n hx hb d_Law_law_733 rfl (lv_at hl 4 rfl) ?_
  refine lv_iload hx hb d_Law_law_734 (lv_at hl 0 rfl) ?_
  refine lv_iconst (v := nI 2) hx hb d_Law_law_736 (by decide) ?_
  refine lv_iadd hx hb d_Law_law_737 ?_
  refine lv_topi (fun t9 e9 => ?_)
  obtain rfl : t9 = nI (i + 2) := e9.trans (nI_add _ _)
  refine q_xld E hX (i + 2) rfl (by omega) (by omega) d_Law_law_738 ?_
  refine lv_aload_n hx hb d_Law_law_739 rfl (lv_at hl 4 rfl) ?_
  refine lv_iload hx hb d_Law_law_740 (lv_at hl 0 rfl) ?_
  refine lv_iconst (v := nI 3) hx hb d_Law_law_742 (by decide) ?_
  refine lv_iadd hx hb d_Law_law_743 ?_
  refine lv_topi (fun t9 e9 => ?_)
  obtain rfl : t9 = nI (i + 3) := e9.trans (nI_add _ _)
  refine q_xld E hX (i + 3) rfl (by omega) (by omega) d_Law_law_744 ?_
  refine q_cSH (rest := []) E hw0 (H_times l g s hxs b pn tn wn mr mq hb0 (xs (i + 1)) (xs (i + 2)) (xs (i + 3))) w_784 w_0 w_782 w_783 hd_Law_times rfl ⟨by decide, by decide⟩ hG hF hl.1 rfl (Nat.le_of_ble_eq_true rfl) d_Law_law_745 hc (qi (fun r5 H1 locs hq hF => ?_))
  obtain ⟨hq, hfr⟩ := hq
  have hX := hX.kept (hfr sb (Or.inl (Nat.lt_of_lt_of_le hsb hb0)))
  have hM := hM.on (fun q h1 h2 => hfr q (Or.inr (Or.inl ⟨h1, h2⟩)))
  have hT := hT.keep hfr
  refine lv_istore (lv' := [(5, .int r5), (4, .int (nI i)), (3, .ref (b + 510)), (2, .ref (b + 501)), (1, .ref b), (0, .ref sb)]) hx hb d_Law_law_748 hl (by decide) rfl (fun ls hl => ?_)
  refine lv_aload_n hx hb d_Law_law_750 rfl (lv_at hl 3 rfl) ?_
  refine lv_aload_n hx hb d_Law_law_751 rfl (lv_at hl 5 rfl) ?_
  refine lv_iload hx hb d_Law_law_752 (lv_at hl 1 rfl) ?_
  refine lv_iconst (v := nI 1) hx hb d_Law_law_754 (by decide) ?_
  refine lv_iadd hx hb d_Law_law_755 ?_
  refine lv_topi (fun t9 e9 => ?_)
  obtain rfl : t9 = nI (i + 1) := e9.trans (nI_add _ _)
  refine q_xld E hX (i + 1) rfl (by omega) (by omega) d_Law_law_756 ?_
  refine lv_aload_n hx hb d_Law_law_757 rfl (lv_at hl 5 rfl) ?_
  refine lv_iload hx hb d_Law_law_758 (lv_at hl 1 rfl) ?_
  refine lv_iconst (v := nI 2) hx hb d_Law_law_760 (by decide) ?_
  refine lv_iadd hx hb d_Law_law_761 ?_
  refine lv_topi (fun t9 e9 => ?_)
  obtain rfl : t9 = nI (i + 2) := e9.trans (nI_add _ _)
  refine q_xld E hX (i + 2) rfl (by omega) (by omega) d_Law_law_762 ?_
  refine lv_aload_n hx hb d_Law_law_763 rfl (lv_at hl 5 rfl) ?_
  refine lv_iload hx hb d_Law_law_764 (lv_at hl 1 rfl) ?_
  refine lv_iconst (v := nI 3) hx hb d_Law_law_766 (by decide) ?_
  refine lv_iadd hx hb d_Law_law_767 ?_
  refine lv_topi (fun t9 e9 => ?_)
  obtain rfl : t9 = nI (i + 3) := e9.trans (nI_add _ _)
  refine q_xld E hX (i + 3) rfl (by omega) (by omega) d_Law_law_768 ?_
  obtain ⟨w9, n9, hob⟩ := hM.ob
  refine q_cV (rest := []) E ((G_Model_times l g (nMT (b + 501)) (b + 501) th pn tn wm (xs (i + 1)) (xs (i + 2)) (xs (i + 3))).frV (nMT_up hb0)) w_1199 w_15 w_1196 w_1197 w_1198 hd_Model_times rfl ⟨by decide, by decide⟩ (OB.recv E.2.2.2.2.2 (by rfl) hob) hM hF hl.1 rfl (Nat.le_of_ble_eq_true rfl) d_Law_law_769 hc (qv (fun H2 locs hq6 hF => ?_))
  obtain ⟨hq6, hfr6⟩ := hq6
  have hT := hT.frq hfr6
  have hX := hX.kept (hfr6.2 sb hX.lt (nMT_n (nM_lt hb0 hsb)))
  clear hob hM
  rcases hq with ⟨hok, rfl, hG⟩ | ⟨hok, rfl, hG⟩
  · skip
    have hM : MP g (nMT (b + 501)) H2 (b + 501) 0 pn tn wm := by
      rcases hq6 with ⟨-, h⟩ | ⟨h, -⟩
      · exact h
      · exact absurd hok h
    refine lv_goto (tgt := 1253) hx hb d_Law_law_772 (by decide) ?_
    have hl : lv_has ls 8 [(4, .int (nI i)), (3, .ref (b + 510)), (2, .ref (b + 501)), (1, .ref b), (0, .ref sb)] := lv_sub hl [1, 2, 3, 4, 5] rfl
    exact hN _ _ ls _ _ _ _ _ (hG.frq hb0 (nMT_fr hfr6)) hM hT hX hF hl
  · skip
    have hM : MP g (nMT (b + 501)) H2 (b + 501) 1 pn tn wm := by
      rcases hq6 with ⟨h, -⟩ | ⟨-, h⟩
      · exact absurd h hok
      · exact h
    refine lv_goto (tgt := 1253) hx hb d_Law_law_772 (by decide) ?_
    have hl : lv_has ls 8 [(4, .int (nI i)), (3, .ref (b + 510)), (2, .ref (b + 501)), (1, .ref b), (0, .ref sb)] := lv_sub hl [1, 2, 3, 4, 5] rfl
    exact hN _ _ ls _ _ _ _ _ (hG.frq hb0 (nMT_fr hfr6)) hM hT hX hF hl
set_option maxHeartbeats 4000000 in
set_option maxRecDepth 100000 in
theorem k_combine {p : Program} {l : Launch} {e : Env} {s : State} {m : MethodId} {below : List Frame} {meth : Method} {c : Code} {g : WG} {sb L : Nat} {xs : Nat → Int32} {b : Nat} {mr mq : Int64} {H : Heap} {locs : List Loc} {ls : Array Slot} {th : Int32} {pn tn wn wm i cells slots : Nat} (E : EV p m c code 8 s #[Value.ref sb] "KateDeskLaw" g) (hr : meth.sig.returnType = ret) (hlk : meth.locks = false) (hb0 : s.heap.size ≤ b) (hsb : sb < s.heap.size) (hxs : XS l s) (hL : L ≤ 3072) (hi : i + 6 ≤ L) (hc : cells + 1 ≤ room_1.cells ∧ slots + 6 ≤ room_1.slots) (hN : LNX p l e s m below meth c g sb L xs b mr mq i (cells + 1) (slots + 6)) (hG : LG g s H b pn tn wn mr mq) (hM : MP g (nMT (b + 501)) H (b + 501) th pn tn wm) (hT : TW9 g H b tn mq) (hX : va_X sb L xs s H) (hF : ∀ q ∈ locs, HXA s q.base) (hl : lv_has ls 8 [(4, .int (nI i)), (3, .ref (b + 510)), (2, .ref (b + 501)), (1, .ref b), (0, .ref sb)]) : W p l e room_1 s m #[Value.ref sb] below meth c H locs cells slots (lw_Z below #[Value.ref sb] s) (F0 m 775 ls []) := by
  have hx := E.1
  have hb := E.2.1
  have hK := E.2.2.2.2.2
  have hw0 := State.WarmedH.refl s
  have hbd := hM.2.2.2.2.1
  refine lv_aload_n hx hb d_Law_law_775 rfl (lv_at hl 3 rfl) ?_
  refine lv_aload_n hx hb d_Law_law_776 rfl (lv_at hl 4 rfl) ?_
  refine lv_iload hx hb d_Law_law_777 (lv_at hl 0 rfl) ?_
  refine lv_iconst (v := nI 1) hx hb d_Law_law_779 (by decide) ?_
  refine lv_iadd hx hb d_Law_law_780 ?_
  refine lv_topi (fun t9 e9 => ?_)
  obtain rfl : t9 = nI (i + 1) := e9.trans (nI_add _ _)
  refine q_xld E hX (i + 1) rfl (by omega) (by omega) d_Law_law_781 ?_
  refine lv_aload_n hx hb d_Law_law_782 rfl (lv_at hl 4 rfl) ?_
  refine lv_iload hx hb d_Law_law_783 (lv_at hl 0 rfl) ?_
  refine lv_iconst (v := nI 2) hx hb d_Law_law_785 (by decide) ?_
  refine lv_iadd hx hb d_Law_law_786 ?_
  refine lv_topi (fun t9 e9 => ?_)
  obtain rfl : t9 = nI (i + 2) := e9.trans (nI_add _ _)
  refine q_xld E hX (i + 2) rfl (by omega) (by omega) d_Law_law_787 ?_
  refine lv_aload_n hx hb d_Law_law_788 rfl (lv_at hl 4 rfl) ?_
  refine lv_iload hx hb d_Law_law_789 (lv_at hl 0 rfl) ?_
  refine lv_iconst (v := nI 3) hx hb d_Law_law_791 (by decide) ?_
  refine lv_iadd hx hb d_Law_law_792 ?_
  refine lv_topi (fun t9 e9 => ?_)
  obtain rfl : t9 = nI (i + 3) := e9.trans (nI_add _ _)
  refine q_xld E hX (i + 3) rfl (by omega) (by omega) d_Law_law_793 ?_
  refine lv_aload_n hx hb d_Law_law_794 rfl (lv_at hl 4 rfl) ?_
  refine lv_iload hx hb d_Law_law_795 (lv_at hl 0 rfl) ?_
  refine lv_iconst (v := nI 4) hx hb d_Law_law_797 (by decide) ?_
  refine lv_iadd hx hb d_Law_law_798 ?_
  refine lv_topi (fun t9 e9 => ?_)
  obtain rfl : t9 = nI (i + 4) := e9.trans (nI_add _ _)
  refine q_xld E hX (i + 4) rfl (by omega) (by omega) d_Law_law_799 ?_
  refine q_cSH (rest := []) E hw0 (H_combine l g s hxs b pn tn wn mr mq hb0 (xs (i + 1)) (xs (i + 2)) (xs (i + 3)) (xs (i + 4))) w_791 w_0 w_789 w_790 hd_Law_combine rfl ⟨by decide, by decide⟩ hG hF hl.1 rfl (Nat.le_of_ble_eq_true rfl) d_Law_law_800 hc (qi (fun r5 H1 locs hq hF => ?_))
  obtain ⟨hq, hfr⟩ := hq
  have hX := hX.kept (hfr sb (Or.inl (Nat.lt_of_lt_of_le hsb hb0)))
  have hM := hM.on (fun q h1 h2 => hfr q (Or.inr (Or.inl ⟨h1, h2⟩)))
  have hT := hT.keep hfr
  refine lv_istore (lv' := [(5, .int r5), (4, .int (nI i)), (3, .ref (b + 510)), (2, .ref (b + 501)), (1, .ref b), (0, .ref sb)]) hx hb d_Law_law_803 hl (by decide) rfl (fun ls hl => ?_)
  refine lv_aload_n hx hb d_Law_law_805 rfl (lv_at hl 3 rfl) ?_
  refine lv_aload_n hx hb d_Law_law_806 rfl (lv_at hl 5 rfl) ?_
  refine lv_iload hx hb d_Law_law_807 (lv_at hl 1 rfl) ?_
  refine lv_iconst (v := nI 1) hx hb d_Law_law_809 (by decide) ?_
  refine lv_iadd hx hb d_Law_law_810 ?_
  refine lv_topi (fun t9 e9 => ?_)
  obtain rfl : t9 = nI (i + 1) := e9.trans (nI_add _ _)
  refine q_xld E hX (i + 1) rfl (by omega) (by omega) d_Law_law_811 ?_
  refine lv_aload_n hx hb d_Law_law_812 rfl (lv_at hl 5 rfl) ?_
  refine lv_iload hx hb d_Law_law_813 (lv_at hl 1 rfl) ?_
  refine lv_iconst (v := nI 2) hx hb d_Law_law_815 (by decide) ?_
  refine lv_iadd hx hb d_Law_law_816 ?_
  refine lv_topi (fun t9 e9 => ?_)
  obtain rfl : t9 = nI (i + 2) := e9.trans (nI_add _ _)
  refine q_xld E hX (i + 2) rfl (by omega) (by omega) d_Law_law_817 ?_
  refine lv_aload_n hx hb d_Law_law_818 rfl (lv_at hl 5 rfl) ?_
  refine lv_iload hx hb d_Law_law_819 (lv_at hl 1 rfl) ?_
  refine lv_iconst (v := nI 3) hx hb d_Law_law_821 (by decide) ?_
  refine lv_iadd hx hb d_Law_law_822 ?_
  refine lv_topi (fun t9 e9 => ?_)
  obtain rfl : t9 = nI (i + 3) := e9.trans (nI_add _ _)
  refine q_xld E hX (i + 3) rfl (by omega) (by omega) d_Law_law_823 ?_
  refine lv_aload_n hx hb d_Law_law_824 rfl (lv_at hl 5 rfl) ?_
  refine lv_iload hx hb d_Law_law_825 (lv_at hl 1 rfl) ?_
  refine lv_iconst (v := nI 4) hx hb d_Law_law_827 (by decide) ?_
  refine lv_iadd hx hb d_Law_law_828 ?_
  refine lv_topi (fun t9 e9 => ?_)
  obtain rfl : t9 = nI (i + 4) := e9.trans (nI_add _ _)
  refine q_xld E hX (i + 4) rfl (by omega) (by omega) d_Law_law_829 ?_
  obtain ⟨w9, n9, hob⟩ := hM.ob
  refine q_cV (rest := []) E ((G_Model_combine l g (nMT (b + 501)) (b + 501) th pn tn wm (xs (i + 1)) (xs (i + 2)) (xs (i + 3)) (xs (i + 4))).frV (nMT_up hb0)) w_1203 w_15 w_1200 w_1201 w_1202 hd_Model_combine rfl ⟨by decide, by decide⟩ (OB.recv E.2.2.2.2.2 (by rfl) hob) hM hF hl.1 rfl (Nat.le_of_ble_eq_true rfl) d_Law_law_830 hc (qv (fun H2 locs hq6 hF => ?_))
  obtain ⟨hq6, hfr6⟩ := hq6
  have hT := hT.frq hfr6
  have hX := hX.kept (hfr6.2 sb hX.lt (nMT_n (nM_lt hb0 hsb)))
  clear hob hM
  rcases hq with ⟨hok, rfl, hG⟩ | ⟨hok, rfl, hG⟩
  · skip
    have hM : MP g (nMT (b + 501)) H2 (b + 501) 0 pn tn wm := by
      rcases hq6 with ⟨-, h⟩ | ⟨h, -⟩
      · exact h
      · exact absurd hok h
    refine lv_goto (tgt := 1253) hx hb d_Law_law_833 (by decide) ?_
    have hl : lv_has ls 8 [(4, .int (nI i)), (3, .ref (b + 510)), (2, .ref (b + 501)), (1, .ref b), (0, .ref sb)] := lv_sub hl [1, 2, 3, 4, 5] rfl
    exact hN _ _ ls _ _ _ _ _ (hG.frq hb0 (nMT_fr hfr6)) hM hT hX hF hl
  · skip
    have hM : MP g (nMT (b + 501)) H2 (b + 501) 1 pn tn wm := by
      rcases hq6 with ⟨h, -⟩ | ⟨-, h⟩
      · exact absurd h hok
      · exact h
    refine lv_goto (tgt := 1253) hx hb d_Law_law_833 (by decide) ?_
    have hl : lv_has ls 8 [(4, .int (nI i)), (3, .ref (b + 510)), (2, .ref (b + 501)), (1, .ref b), (0, .ref sb)] := lv_sub hl [1, 2, 3, 4, 5] rfl
    exact hN _ _ ls _ _ _ _ _ (hG.frq hb0 (nMT_fr hfr6)) hM hT hX hF hl
set_option maxHeartbeats 4000000 in
set_option maxRecDepth 100000 in
theorem k_same {p : Program} {l : Launch} {e : Env} {s : State} {m : MethodId} {below : List Frame} {meth : Method} {c : Code} {g : WG} {sb L : Nat} {xs : Nat → Int32} {b : Nat} {mr mq : Int64} {H : Heap} {locs : List Loc} {ls : Array Slot} {th : Int32} {pn tn wn wm i cells slots : Nat} (E : EV p m c code 8 s #[Value.ref sb] "KateDeskLaw" g) (hr : meth.sig.returnType = ret) (hlk : meth.locks = false) (hb0 : s.heap.size ≤ b) (hsb : sb < s.heap.size) (hxs : XS l s) (hL : L ≤ 3072) (hi : i + 6 ≤ L) (hc : cells + 1 ≤ room_1.cells ∧ slots + 6 ≤ room_1.slots) (hN : LNX p l e s m below meth c g sb L xs b mr mq i (cells + 1) (slots + 6)) (hG : LG g s H b pn tn wn mr mq) (hM : MP g (nMT (b + 501)) H (b + 501) th pn tn wm) (hT : TW9 g H b tn mq) (hX : va_X sb L xs s H) (hF : ∀ q ∈ locs, HXA s q.base) (hl : lv_has ls 8 [(4, .int (nI i)), (3, .ref (b + 510)), (2, .ref (b + 501)), (1, .ref b), (0, .ref sb)]) : W p l e room_1 s m #[Value.ref sb] below meth c H locs cells slots (lw_Z below #[Value.ref sb] s) (F0 m 836 ls []) := by
  have hx := E.1
  have hb := E.2.1
  have hK := E.2.2.2.2.2
  have hw0 := State.WarmedH.refl s
  have hbd := hM.2.2.2.2.1
  refine lv_aload_n hx hb d_Law_law_836 rfl (lv_at hl 3 rfl) ?_
  refine lv_aload_n hx hb d_Law_law_837 rfl (lv_at hl 4 rfl) ?_
  refine lv_iload hx hb d_Law_law_838 (lv_at hl 0 rfl) ?_
  refine lv_iconst (v := nI 1) hx hb d_Law_law_840 (by decide) ?_
  refine lv_iadd hx hb d_Law_law_841 ?_
  refine lv_topi (fun t9 e9 => ?_)
  obtain rfl : t9 = nI (i + 1) := e9.trans (nI_add _ _)
  refine q_xld E hX (i + 1) rfl (by omega) (by omega) d_Law_law_842 ?_
  refine lv_aload_n hx hb d_Law_law_843 rfl (lv_at hl 4 rfl) ?_
  refine lv_iload hx hb d_Law_law_844 (lv_at hl 0 rfl) ?_
  refine lv_iconst (v := nI 2) hx hb d_Law_law_846 (by decide) ?_
  refine lv_iadd hx hb d_Law_law_847 ?_
  refine lv_topi (fun t9 e9 => ?_)
  obtain rfl : t9 = nI (i + 2) := e9.trans (nI_add _ _)
  refine q_xld E hX (i + 2) rfl (by omega) (by omega) d_Law_law_848 ?_
  refine lv_aload_n hx hb d_Law_law_849 rfl (lv_at hl 1 rfl) ?_
  refine q_cSH (rest := []) E hw0 (H_same l g s hxs b pn tn wn mr mq hb0 (xs (i + 1)) (xs (i + 2))) w_802 w_0 w_800 w_801 hd_Law_same rfl ⟨by decide, by decide⟩ hG hF hl.1 rfl (Nat.le_of_ble_eq_true rfl) d_Law_law_850 hc (qi (fun r5 H1 locs hq hF => ?_))
  obtain ⟨hq, hfr⟩ := hq
  have hX := hX.kept (hfr sb (Or.inl (Nat.lt_of_lt_of_le hsb hb0)))
  have hM := hM.on (fun q h1 h2 => hfr q (Or.inr (Or.inl ⟨h1, h2⟩)))
  have hT := hT.keep hfr
  refine lv_istore (lv' := [(5, .int r5), (4, .int (nI i)), (3, .ref (b + 510)), (2, .ref (b + 501)), (1, .ref b), (0, .ref sb)]) hx hb d_Law_law_853 hl (by decide) rfl (fun ls hl => ?_)
  refine lv_aload_n hx hb d_Law_law_855 rfl (lv_at hl 3 rfl) ?_
  refine lv_aload_n hx hb d_Law_law_856 rfl (lv_at hl 5 rfl) ?_
  refine lv_iload hx hb d_Law_law_857 (lv_at hl 1 rfl) ?_
  refine lv_iconst (v := nI 1) hx hb d_Law_law_859 (by decide) ?_
  refine lv_iadd hx hb d_Law_law_860 ?_
  refine lv_topi (fun t9 e9 => ?_)
  obtain rfl : t9 = nI (i + 1) := e9.trans (nI_add _ _)
  refine q_xld E hX (i + 1) rfl (by omega) (by omega) d_Law_law_861 ?_
  refine lv_aload_n hx hb d_Law_law_862 rfl (lv_at hl 5 rfl) ?_
  refine lv_iload hx hb d_Law_law_863 (lv_at hl 1 rfl) ?_
  refine lv_iconst (v := nI 2) hx hb d_Law_law_865 (by decide) ?_
  refine lv_iadd hx hb d_Law_law_866 ?_
  refine lv_topi (fun t9 e9 => ?_)
  obtain rfl : t9 = nI (i + 2) := e9.trans (nI_add _ _)
  refine q_xld E hX (i + 2) rfl (by omega) (by omega) d_Law_law_867 ?_
  obtain ⟨w9, n9, hob⟩ := hM.ob
  refine q_cV (rest := []) E ((G_Model_same l g (nMT (b + 501)) (b + 501) th pn tn wm (xs (i + 1)) (xs (i + 2))).frI (nMT_up hb0)) w_1214 w_15 w_1211 w_1212 w_1213 hd_Model_same rfl ⟨by decide, by decide⟩ (OB.recv E.2.2.2.2.2 (by rfl) hob) hM hF hl.1 rfl (Nat.le_of_ble_eq_true rfl) d_Law_law_868 hc (qi (fun r6 H2 locs hq6 hF => ?_))
  obtain ⟨hq6, hfr6⟩ := hq6
  have hT := hT.frq hfr6
  have hX := hX.kept (hfr6.2 sb hX.lt (nMT_n (nM_lt hb0 hsb)))
  clear hob hM
  rcases hq with ⟨hok, rfl, hG⟩ | ⟨hok, rfl, hG⟩
  · skip
    have hM : MP g (nMT (b + 501)) H2 (b + 501) 0 pn tn wm := by
      rcases hq6 with ⟨-, h⟩ | ⟨h, -⟩
      · exact h
      · exact absurd hok h
    refine lv_istore (lv' := [(6, .int r6), (5, .int (nI 0)), (4, .int (nI i)), (3, .ref (b + 510)), (2, .ref (b + 501)), (1, .ref b), (0, .ref sb)]) hx hb d_Law_law_871 hl (by decide) rfl (fun ls hl => ?_)
    refine lv_goto (tgt := 1253) hx hb d_Law_law_873 (by decide) ?_
    have hl : lv_has ls 8 [(4, .int (nI i)), (3, .ref (b + 510)), (2, .ref (b + 501)), (1, .ref b), (0, .ref sb)] := lv_sub hl [2, 3, 4, 5, 6] rfl
    exact hN _ _ ls _ _ _ _ _ (hG.frq hb0 (nMT_fr hfr6)) hM hT hX hF hl
  · skip
    have hM : MP g (nMT (b + 501)) H2 (b + 501) 1 pn tn wm := by
      rcases hq6 with ⟨h, -⟩ | ⟨-, h⟩
      · exact absurd h hok
      · exact h
    refine lv_istore (lv' := [(6, .int r6), (5, .int (nI 1)), (4, .int (nI i)), (3, .ref (b + 510)), (2, .ref (b + 501)), (1, .ref b), (0, .ref sb)]) hx hb d_Law_law_871 hl (by decide) rfl (fun ls hl => ?_)
    refine lv_goto (tgt := 1253) hx hb d_Law_law_873 (by decide) ?_
    have hl : lv_has ls 8 [(4, .int (nI i)), (3, .ref (b + 510)), (2, .ref (b + 501)), (1, .ref b), (0, .ref sb)] := lv_sub hl [2, 3, 4, 5, 6] rfl
    exact hN _ _ ls _ _ _ _ _ (hG.frq hb0 (nMT_fr hfr6)) hM hT hX hF hl
set_option maxHeartbeats 4000000 in
set_option maxRecDepth 100000 in
theorem k_setup {p : Program} {l : Launch} {e : Env} {s : State} {m : MethodId} {below : List Frame} {meth : Method} {c : Code} {g : WG} {sb L : Nat} {xs : Nat → Int32} {b : Nat} {mr mq : Int64} {H : Heap} {locs : List Loc} {ls : Array Slot} {th : Int32} {pn tn wn wm i cells slots : Nat} (E : EV p m c code 8 s #[Value.ref sb] "KateDeskLaw" g) (hr : meth.sig.returnType = ret) (hlk : meth.locks = false) (hb0 : s.heap.size ≤ b) (hsb : sb < s.heap.size) (hxs : XS l s) (hL : L ≤ 3072) (hi : i + 6 ≤ L) (hc : cells + 1 ≤ room_1.cells ∧ slots + 6 ≤ room_1.slots) (hN : LNX p l e s m below meth c g sb L xs b mr mq i (cells + 1) (slots + 6)) (hG : LG g s H b pn tn wn mr mq) (hM : MP g (nMT (b + 501)) H (b + 501) th pn tn wm) (hT : TW9 g H b tn mq) (hX : va_X sb L xs s H) (hF : ∀ q ∈ locs, HXA s q.base) (hl : lv_has ls 8 [(4, .int (nI i)), (3, .ref (b + 510)), (2, .ref (b + 501)), (1, .ref b), (0, .ref sb)]) : W p l e room_1 s m #[Value.ref sb] below meth c H locs cells slots (lw_Z below #[Value.ref sb] s) (F0 m 876 ls []) := by
  have hx := E.1
  have hb := E.2.1
  have hK := E.2.2.2.2.2
  have hw0 := State.WarmedH.refl s
  have hbd := hM.2.2.2.2.1
  refine lv_aload_n hx hb d_Law_law_876 rfl (lv_at hl 3 rfl) ?_
  refine lv_aload_n hx hb d_Law_law_877 rfl (lv_at hl 4 rfl) ?_
  refine lv_iload hx hb d_Law_law_878 (lv_at hl 0 rfl) ?_
  refine lv_iconst (v := nI 1) hx hb d_Law_law_880 (by decide) ?_
  refine lv_iadd hx hb d_Law_law_881 ?_
  refine lv_topi (fun t9 e9 => ?_)
  obtain rfl : t9 = nI (i + 1) := e9.trans (nI_add _ _)
  refine q_xld E hX (i + 1) rfl (by omega) (by omega) d_Law_law_882 ?_
  refine lv_aload_n hx hb d_Law_law_883 rfl (lv_at hl 4 rfl) ?_
  refine lv_iload hx hb d_Law_law_884 (lv_at hl 0 rfl) ?_
  refine lv_iconst (v := nI 2) hx hb d_Law_law_886 (by decide) ?_
  refine lv_iadd hx hb d_Law_law_887 ?_
  refine lv_topi (fun t9 e9 => ?_)
  obtain rfl : t9 = nI (i + 2) := e9.trans (nI_add _ _)
  refine q_xld E hX (i + 2) rfl (by omega) (by omega) d_Law_law_888 ?_
  refine q_cSH (rest := []) E hw0 (H_setup l g s hxs b pn tn wn mr mq hb0 (xs (i + 1)) (xs (i + 2))) w_818 w_0 w_816 w_817 hd_Law_setup rfl ⟨by decide, by decide⟩ hG hF hl.1 rfl (Nat.le_of_ble_eq_true rfl) d_Law_law_889 hc (qi (fun r5 H1 locs hq hF => ?_))
  obtain ⟨hq, hfr⟩ := hq
  have hX := hX.kept (hfr sb (Or.inl (Nat.lt_of_lt_of_le hsb hb0)))
  have hM := hM.on (fun q h1 h2 => hfr q (Or.inr (Or.inl ⟨h1, h2⟩)))
  have hT := hT.keep hfr
  refine lv_istore (lv' := [(5, .int r5), (4, .int (nI i)), (3, .ref (b + 510)), (2, .ref (b + 501)), (1, .ref b), (0, .ref sb)]) hx hb d_Law_law_892 hl (by decide) rfl (fun ls hl => ?_)
  refine lv_aload_n hx hb d_Law_law_894 rfl (lv_at hl 3 rfl) ?_
  refine lv_aload_n hx hb d_Law_law_895 rfl (lv_at hl 5 rfl) ?_
  refine lv_iload hx hb d_Law_law_896 (lv_at hl 1 rfl) ?_
  refine lv_iconst (v := nI 1) hx hb d_Law_law_898 (by decide) ?_
  refine lv_iadd hx hb d_Law_law_899 ?_
  refine lv_topi (fun t9 e9 => ?_)
  obtain rfl : t9 = nI (i + 1) := e9.trans (nI_add _ _)
  refine q_xld E hX (i + 1) rfl (by omega) (by omega) d_Law_law_900 ?_
  refine lv_aload_n hx hb d_Law_law_901 rfl (lv_at hl 5 rfl) ?_
  refine lv_iload hx hb d_Law_law_902 (lv_at hl 1 rfl) ?_
  refine lv_iconst (v := nI 2) hx hb d_Law_law_904 (by decide) ?_
  refine lv_iadd hx hb d_Law_law_905 ?_
  refine lv_topi (fun t9 e9 => ?_)
  obtain rfl : t9 = nI (i + 2) := e9.trans (nI_add _ _)
  refine q_xld E hX (i + 2) rfl (by omega) (by omega) d_Law_law_906 ?_
  obtain ⟨w9, n9, hob⟩ := hM.ob
  refine q_cV (rest := []) E ((G_Model_setup l g (nMT (b + 501)) (b + 501) th pn tn wm (xs (i + 1)) (xs (i + 2))).frV (nMT_up hb0)) w_1222 w_15 w_1219 w_1220 w_1221 hd_Model_setup rfl ⟨by decide, by decide⟩ (OB.recv E.2.2.2.2.2 (by rfl) hob) hM hF hl.1 rfl (Nat.le_of_ble_eq_true rfl) d_Law_law_907 hc (qv (fun H2 locs hq6 hF => ?_))
  obtain ⟨hq6, hfr6⟩ := hq6
  have hT := hT.frq hfr6
  have hX := hX.kept (hfr6.2 sb hX.lt (nMT_n (nM_lt hb0 hsb)))
  clear hob hM
  rcases hq with ⟨hok, rfl, hG⟩ | ⟨hok, rfl, hG⟩
  · skip
    obtain ⟨k9, e9, hG⟩ := hG
    have h69 : ∃ k8, (xs (i + 2)) = nI k8 ∧ MP g (nMT (b + 501)) H2 (b + 501) 0 k8 tn wm := by
      rcases hq6 with ⟨-, h⟩ | ⟨h, -⟩
      · exact h
      · exact absurd hok h
    obtain ⟨k8, e8, hM⟩ := h69
    obtain rfl := eq16 (e8.symm.trans e9) (Nat.le_trans hM.2.2.2.2.1.1 (by decide)) (Nat.le_trans hG.d.2.2.2.2.1 (by decide))
    refine lv_goto (tgt := 1253) hx hb d_Law_law_910 (by decide) ?_
    have hl : lv_has ls 8 [(4, .int (nI i)), (3, .ref (b + 510)), (2, .ref (b + 501)), (1, .ref b), (0, .ref sb)] := lv_sub hl [1, 2, 3, 4, 5] rfl
    exact hN _ _ ls _ _ _ _ _ (hG.frq hb0 (nMT_fr hfr6)) hM hT hX hF hl
  · skip
    have hM : MP g (nMT (b + 501)) H2 (b + 501) 1 pn tn wm := by
      rcases hq6 with ⟨h, -⟩ | ⟨-, h⟩
      · exact absurd h hok
      · exact h
    refine lv_goto (tgt := 1253) hx hb d_Law_law_910 (by decide) ?_
    have hl : lv_has ls 8 [(4, .int (nI i)), (3, .ref (b + 510)), (2, .ref (b + 501)), (1, .ref b), (0, .ref sb)] := lv_sub hl [1, 2, 3, 4, 5] rfl
    exact hN _ _ ls _ _ _ _ _ (hG.frq hb0 (nMT_fr hfr6)) hM hT hX hF hl
set_option maxHeartbeats 4000000 in
set_option maxRecDepth 100000 in
theorem k_commit {p : Program} {l : Launch} {e : Env} {s : State} {m : MethodId} {below : List Frame} {meth : Method} {c : Code} {g : WG} {sb L : Nat} {xs : Nat → Int32} {b : Nat} {mr mq : Int64} {H : Heap} {locs : List Loc} {ls : Array Slot} {th : Int32} {pn tn wn wm i cells slots : Nat} (E : EV p m c code 8 s #[Value.ref sb] "KateDeskLaw" g) (hr : meth.sig.returnType = ret) (hlk : meth.locks = false) (hb0 : s.heap.size ≤ b) (hsb : sb < s.heap.size) (hxs : XS l s) (hno : va_Nc "java/lang/IllegalStateException" "java/lang/IllegalArgumentException" s) (hL : L ≤ 3072) (hi : i + 6 ≤ L) (hc : cells + 1 ≤ room_1.cells ∧ slots + 6 ≤ room_1.slots) (hN : LNX p l e s m below meth c g sb L xs b mr mq i (cells + 1) (slots + 6)) (hG : LG g s H b pn tn wn mr mq) (hM : MP g (nMT (b + 501)) H (b + 501) th pn tn wm) (hT : TW9 g H b tn mq) (hX : va_X sb L xs s H) (hF : ∀ q ∈ locs, HXA s q.base) (hl : lv_has ls 8 [(4, .int (nI i)), (3, .ref (b + 510)), (2, .ref (b + 501)), (1, .ref b), (0, .ref sb)]) : W p l e room_1 s m #[Value.ref sb] below meth c H locs cells slots (lw_Z below #[Value.ref sb] s) (F0 m 913 ls []) := by
  have hx := E.1
  have hb := E.2.1
  have hK := E.2.2.2.2.2
  have hw0 := State.WarmedH.refl s
  have hbd := hM.2.2.2.2.1
  refine lv_aload_n hx hb d_Law_law_913 rfl (lv_at hl 3 rfl) ?_
  refine lv_aload_n hx hb d_Law_law_914 rfl (lv_at hl 4 rfl) ?_
  refine lv_iload hx hb d_Law_law_915 (lv_at hl 0 rfl) ?_
  refine lv_iconst (v := nI 1) hx hb d_Law_law_917 (by decide) ?_
  refine lv_iadd hx hb d_Law_law_918 ?_
  refine lv_topi (fun t9 e9 => ?_)
  obtain rfl : t9 = nI (i + 1) := e9.trans (nI_add _ _)
  refine q_xld E hX (i + 1) rfl (by omega) (by omega) d_Law_law_919 ?_
  refine lv_aload_n hx hb d_Law_law_920 rfl (lv_at hl 4 rfl) ?_
  refine lv_iload hx hb d_Law_law_921 (lv_at hl 0 rfl) ?_
  refine lv_iconst (v := nI 2) hx hb d_Law_law_923 (by decide) ?_
  refine lv_iadd hx hb d_Law_law_924 ?_
  refine lv_topi (fun t9 e9 => ?_)
  obtain rfl : t9 = nI (i + 2) := e9.trans (nI_add _ _)
  refine q_xld E hX (i + 2) rfl (by omega) (by omega) d_Law_law_925 ?_
  refine lv_aload_n hx hb d_Law_law_926 rfl (lv_at hl 4 rfl) ?_
  refine lv_iload hx hb d_Law_law_927 (lv_at hl 0 rfl) ?_
  refine lv_iconst (v := nI 3) hx hb d_Law_law_929 (by decide) ?_
  refine lv_iadd hx hb d_Law_law_930 ?_
  refine lv_topi (fun t9 e9 => ?_)
  obtain rfl : t9 = nI (i + 3) := e9.trans (nI_add _ _)
  refine q_xld E hX (i + 3) rfl (by omega) (by omega) d_Law_law_931 ?_
  refine q_cSH (rest := []) E hw0 (H_commit l g s hxs b pn tn wn mr mq hb0 (xs (i + 1)) (xs (i + 2)) (xs (i + 3)) hno) w_836 w_0 w_834 w_835 hd_Law_commit rfl ⟨by decide, by decide⟩ hG hF hl.1 rfl (Nat.le_of_ble_eq_true rfl) d_Law_law_932 hc (qi (fun r5 H1 locs hq hF => ?_))
  obtain ⟨hq, hfr⟩ := hq
  have hX := hX.kept (hfr sb (Or.inl (Nat.lt_of_lt_of_le hsb hb0)))
  have hM := hM.on (fun q h1 h2 => hfr q (Or.inr (Or.inl ⟨h1, h2⟩)))
  have hT := hT.keep hfr
  refine lv_istore (lv' := [(5, .int r5), (4, .int (nI i)), (3, .ref (b + 510)), (2, .ref (b + 501)), (1, .ref b), (0, .ref sb)]) hx hb d_Law_law_935 hl (by decide) rfl (fun ls hl => ?_)
  refine lv_aload_n hx hb d_Law_law_937 rfl (lv_at hl 3 rfl) ?_
  refine lv_aload_n hx hb d_Law_law_938 rfl (lv_at hl 5 rfl) ?_
  refine lv_iload hx hb d_Law_law_939 (lv_at hl 1 rfl) ?_
  refine lv_iconst (v := nI 1) hx hb d_Law_law_941 (by decide) ?_
  refine lv_iadd hx hb d_Law_law_942 ?_
  refine lv_topi (fun t9 e9 => ?_)
  obtain rfl : t9 = nI (i + 1) := e9.trans (nI_add _ _)
  refine q_xld E hX (i + 1) rfl (by omega) (by omega) d_Law_law_943 ?_
  refine lv_aload_n hx hb d_Law_law_944 rfl (lv_at hl 5 rfl) ?_
  refine lv_iload hx hb d_Law_law_945 (lv_at hl 1 rfl) ?_
  refine lv_iconst (v := nI 2) hx hb d_Law_law_947 (by decide) ?_
  refine lv_iadd hx hb d_Law_law_948 ?_
  refine lv_topi (fun t9 e9 => ?_)
  obtain rfl : t9 = nI (i + 2) := e9.trans (nI_add _ _)
  refine q_xld E hX (i + 2) rfl (by omega) (by omega) d_Law_law_949 ?_
  refine lv_aload_n hx hb d_Law_law_950 rfl (lv_at hl 5 rfl) ?_
  refine lv_iload hx hb d_Law_law_951 (lv_at hl 1 rfl) ?_
  refine lv_iconst (v := nI 3) hx hb d_Law_law_953 (by decide) ?_
  refine lv_iadd hx hb d_Law_law_954 ?_
  refine lv_topi (fun t9 e9 => ?_)
  obtain rfl : t9 = nI (i + 3) := e9.trans (nI_add _ _)
  refine q_xld E hX (i + 3) rfl (by omega) (by omega) d_Law_law_955 ?_
  obtain ⟨w9, n9, hob⟩ := hM.ob
  refine q_cV (rest := []) E ((G_Model_commit l g (nMT (b + 501)) (b + 501) th pn tn wm (xs (i + 1)) (xs (i + 2)) (xs (i + 3))).frV (nMT_up hb0)) w_1227 w_15 w_1224 w_1225 w_1226 hd_Model_commit rfl ⟨by decide, by decide⟩ (OB.recv E.2.2.2.2.2 (by rfl) hob) hM hF hl.1 rfl (Nat.le_of_ble_eq_true rfl) d_Law_law_956 hc (qv (fun H2 locs hq6 hF => ?_))
  obtain ⟨hq6, hfr6⟩ := hq6
  have hT := hT.frq hfr6
  have hX := hX.kept (hfr6.2 sb hX.lt (nMT_n (nM_lt hb0 hsb)))
  clear hob hM
  rcases hq with ⟨hok, ⟨h3, rfl, hG⟩ | ⟨h3, rfl, hG⟩⟩ | ⟨hok, rfl, hG⟩
  · skip
    have hM : MP g (nMT (b + 501)) H2 (b + 501) 0 pn tn wm := by
      rcases hq6 with ⟨-, ⟨-, h⟩ | ⟨h, -⟩⟩ | ⟨h, -⟩
      · exact h
      · exact absurd h3 h
      · exact absurd hok h
    refine lv_goto (tgt := 1253) hx hb d_Law_law_959 (by decide) ?_
    have hl : lv_has ls 8 [(4, .int (nI i)), (3, .ref (b + 510)), (2, .ref (b + 501)), (1, .ref b), (0, .ref sb)] := lv_sub hl [1, 2, 3, 4, 5] rfl
    exact hN _ _ ls _ _ _ _ _ (hG.frq hb0 (nMT_fr hfr6)) hM hT hX hF hl
  · skip
    have hM : MP g (nMT (b + 501)) H2 (b + 501) (nI 2) pn tn wm := by
      rcases hq6 with ⟨-, ⟨h, -⟩ | ⟨-, h⟩⟩ | ⟨h, -⟩
      · exact absurd h h3
      · exact h
      · exact absurd hok h
    refine lv_goto (tgt := 1253) hx hb d_Law_law_959 (by decide) ?_
    have hl : lv_has ls 8 [(4, .int (nI i)), (3, .ref (b + 510)), (2, .ref (b + 501)), (1, .ref b), (0, .ref sb)] := lv_sub hl [1, 2, 3, 4, 5] rfl
    exact hN _ _ ls _ _ _ _ _ (hG.frq hb0 (nMT_fr hfr6)) hM hT hX hF hl
  · skip
    have hM : MP g (nMT (b + 501)) H2 (b + 501) 1 pn tn wm := by
      rcases hq6 with ⟨h, -⟩ | ⟨-, h⟩
      · exact absurd h hok
      · exact h
    refine lv_goto (tgt := 1253) hx hb d_Law_law_959 (by decide) ?_
    have hl : lv_has ls 8 [(4, .int (nI i)), (3, .ref (b + 510)), (2, .ref (b + 501)), (1, .ref b), (0, .ref sb)] := lv_sub hl [1, 2, 3, 4, 5] rfl
    exact hN _ _ ls _ _ _ _ _ (hG.frq hb0 (nMT_fr hfr6)) hM hT hX hF hl
set_option maxHeartbeats 4000000 in
set_option maxRecDepth 100000 in
theorem k_open {p : Program} {l : Launch} {e : Env} {s : State} {m : MethodId} {below : List Frame} {meth : Method} {c : Code} {g : WG} {sb L : Nat} {xs : Nat → Int32} {b : Nat} {mr mq : Int64} {H : Heap} {locs : List Loc} {ls : Array Slot} {th : Int32} {pn tn wn wm i cells slots : Nat} (E : EV p m c code 8 s #[Value.ref sb] "KateDeskLaw" g) (hr : meth.sig.returnType = ret) (hlk : meth.locks = false) (hb0 : s.heap.size ≤ b) (hsb : sb < s.heap.size) (hxs : XS l s) (hL : L ≤ 3072) (hi : i + 6 ≤ L) (hc : cells + 1 ≤ room_1.cells ∧ slots + 6 ≤ room_1.slots) (hN : LNX p l e s m below meth c g sb L xs b mr mq i (cells + 1) (slots + 6)) (hG : LG g s H b pn tn wn mr mq) (hM : MP g (nMT (b + 501)) H (b + 501) th pn tn wm) (hT : TW9 g H b tn mq) (hX : va_X sb L xs s H) (hF : ∀ q ∈ locs, HXA s q.base) (hl : lv_has ls 8 [(4, .int (nI i)), (3, .ref (b + 510)), (2, .ref (b + 501)), (1, .ref b), (0, .ref sb)]) : W p l e room_1 s m #[Value.ref sb] below meth c H locs cells slots (lw_Z below #[Value.ref sb] s) (F0 m 962 ls []) := by
  have hx := E.1
  have hb := E.2.1
  have hK := E.2.2.2.2.2
  have hw0 := State.WarmedH.refl s
  have hbd := hM.2.2.2.2.1
  refine lv_aload_n hx hb d_Law_law_962 rfl (lv_at hl 3 rfl) ?_
  refine lv_aload_n hx hb d_Law_law_963 rfl (lv_at hl 4 rfl) ?_
  refine lv_iload hx hb d_Law_law_964 (lv_at hl 0 rfl) ?_
  refine lv_iconst (v := nI 1) hx hb d_Law_law_966 (by decide) ?_
  refine lv_iadd hx hb d_Law_law_967 ?_
  refine lv_topi (fun t9 e9 => ?_)
  obtain rfl : t9 = nI (i + 1) := e9.trans (nI_add _ _)
  refine q_xld E hX (i + 1) rfl (by omega) (by omega) d_Law_law_968 ?_
  refine lv_aload_n hx hb d_Law_law_969 rfl (lv_at hl 4 rfl) ?_
  refine lv_iload hx hb d_Law_law_970 (lv_at hl 0 rfl) ?_
  refine lv_iconst (v := nI 2) hx hb d_Law_law_972 (by decide) ?_
  refine lv_iadd hx hb d_Law_law_973 ?_
  refine lv_topi (fun t9 e9 => ?_)
  obtain rfl : t9 = nI (i + 2) := e9.trans (nI_add _ _)
  refine q_xld E hX (i + 2) rfl (by omega) (by omega) d_Law_law_974 ?_
  refine lv_aload_n hx hb d_Law_law_975 rfl (lv_at hl 4 rfl) ?_
  refine lv_iload hx hb d_Law_law_976 (lv_at hl 0 rfl) ?_
  refine lv_iconst (v := nI 3) hx hb d_Law_law_978 (by decide) ?_
  refine lv_iadd hx hb d_Law_law_979 ?_
  refine lv_topi (fun t9 e9 => ?_)
  obtain rfl : t9 = nI (i + 3) := e9.trans (nI_add _ _)
  refine q_xld E hX (i + 3) rfl (by omega) (by omega) d_Law_law_980 ?_
  refine lv_aload_n hx hb d_Law_law_981 rfl (lv_at hl 4 rfl) ?_
  refine lv_iload hx hb d_Law_law_982 (lv_at hl 0 rfl) ?_
  refine lv_iconst (v := nI 4) hx hb d_Law_law_984 (by decide) ?_
  refine lv_iadd hx hb d_Law_law_985 ?_
  refine lv_topi (fun t9 e9 => ?_)
  obtain rfl : t9 = nI (i + 4) := e9.trans (nI_add _ _)
  refine q_xld E hX (i + 4) rfl (by omega) (by omega) d_Law_law_986 ?_
  refine q_cSH (rest := []) E hw0 (H_open l g s hxs b pn tn wn mr mq hb0 (xs (i + 1)) (xs (i + 2)) (xs (i + 3)) (xs (i + 4))) w_844 w_0 w_842 w_843 hd_Law_open rfl ⟨by decide, by decide⟩ hG hF hl.1 rfl (Nat.le_of_ble_eq_true rfl) d_Law_law_987 hc (qi (fun r5 H1 locs hq hF => ?_))
  obtain ⟨hq, hfr⟩ := hq
  have hX := hX.kept (hfr sb (Or.inl (Nat.lt_of_lt_of_le hsb hb0)))
  have hM := hM.on (fun q h1 h2 => hfr q (Or.inr (Or.inl ⟨h1, h2⟩)))
  have hT := hT.keep hfr
  refine lv_istore (lv' := [(5, .int r5), (4, .int (nI i)), (3, .ref (b + 510)), (2, .ref (b + 501)), (1, .ref b), (0, .ref sb)]) hx hb d_Law_law_990 hl (by decide) rfl (fun ls hl => ?_)
  refine lv_aload_n hx hb d_Law_law_992 rfl (lv_at hl 3 rfl) ?_
  refine lv_aload_n hx hb d_Law_law_993 rfl (lv_at hl 5 rfl) ?_
  refine lv_iload hx hb d_Law_law_994 (lv_at hl 1 rfl) ?_
  refine lv_iconst (v := nI 1) hx hb d_Law_law_996 (by decide) ?_
  refine lv_iadd hx hb d_Law_law_997 ?_
  refine lv_topi (fun t9 e9 => ?_)
  obtain rfl : t9 = nI (i + 1) := e9.trans (nI_add _ _)
  refine q_xld E hX (i + 1) rfl (by omega) (by omega) d_Law_law_998 ?_
  refine lv_aload_n hx hb d_Law_law_999 rfl (lv_at hl 5 rfl) ?_
  refine lv_iload hx hb d_Law_law_1000 (lv_at hl 1 rfl) ?_
  refine lv_iconst (v := nI 2) hx hb d_Law_law_1002 (by decide) ?_
  refine lv_iadd hx hb d_Law_law_1003 ?_
  refine lv_topi (fun t9 e9 => ?_)
  obtain rfl : t9 = nI (i + 2) := e9.trans (nI_add _ _)
  refine q_xld E hX (i + 2) rfl (by omega) (by omega) d_Law_law_1004 ?_
  refine lv_aload_n hx hb d_Law_law_1005 rfl (lv_at hl 5 rfl) ?_
  refine lv_iload hx hb d_Law_law_1006 (lv_at hl 1 rfl) ?_
  refine lv_iconst (v := nI 3) hx hb d_Law_law_1008 (by decide) ?_
  refine lv_iadd hx hb d_Law_law_1009 ?_
  refine lv_topi (fun t9 e9 => ?_)
  obtain rfl : t9 = nI (i + 3) := e9.trans (nI_add _ _)
  refine q_xld E hX (i + 3) rfl (by omega) (by omega) d_Law_law_1010 ?_
  refine lv_aload_n hx hb d_Law_law_1011 rfl (lv_at hl 5 rfl) ?_
  refine lv_iload hx hb d_Law_law_1012 (lv_at hl 1 rfl) ?_
  refine lv_iconst (v := nI 4) hx hb d_Law_law_1014 (by decide) ?_
  refine lv_iadd hx hb d_Law_law_1015 ?_
  refine lv_topi (fun t9 e9 => ?_)
  obtain rfl : t9 = nI (i + 4) := e9.trans (nI_add _ _)
  refine q_xld E hX (i + 4) rfl (by omega) (by omega) d_Law_law_1016 ?_
  obtain ⟨w9, n9, hob⟩ := hM.ob
  refine q_cV (rest := []) E ((G_Model_open l g (nMT (b + 501)) (b + 501) th pn tn wm (xs (i + 1)) (xs (i + 2)) (xs (i + 3)) (xs (i + 4))).frV (nMT_up hb0)) w_1231 w_15 w_1228 w_1229 w_1230 hd_Model_open rfl ⟨by decide, by decide⟩ (OB.recv E.2.2.2.2.2 (by rfl) hob) hM hF hl.1 rfl (Nat.le_of_ble_eq_true rfl) d_Law_law_1017 hc (qv (fun H2 locs hq6 hF => ?_))
  obtain ⟨hq6, hfr6⟩ := hq6
  have hT := hT.frq hfr6
  have hX := hX.kept (hfr6.2 sb hX.lt (nMT_n (nM_lt hb0 hsb)))
  clear hob hM
  rcases hq with ⟨hok, rfl, hG⟩ | ⟨hok, rfl, hG⟩
  · skip
    have hM : MP g (nMT (b + 501)) H2 (b + 501) 0 pn tn wm := by
      rcases hq6 with ⟨-, h⟩ | ⟨h, -⟩
      · exact h
      · exact absurd hok h
    refine lv_goto (tgt := 1253) hx hb d_Law_law_1020 (by decide) ?_
    have hl : lv_has ls 8 [(4, .int (nI i)), (3, .ref (b + 510)), (2, .ref (b + 501)), (1, .ref b), (0, .ref sb)] := lv_sub hl [1, 2, 3, 4, 5] rfl
    exact hN _ _ ls _ _ _ _ _ (hG.frq hb0 (nMT_fr hfr6)) hM hT hX hF hl
  · skip
    have hM : MP g (nMT (b + 501)) H2 (b + 501) 1 pn tn wm := by
      rcases hq6 with ⟨h, -⟩ | ⟨-, h⟩
      · exact absurd h hok
      · exact h
    refine lv_goto (tgt := 1253) hx hb d_Law_law_1020 (by decide) ?_
    have hl : lv_has ls 8 [(4, .int (nI i)), (3, .ref (b + 510)), (2, .ref (b + 501)), (1, .ref b), (0, .ref sb)] := lv_sub hl [1, 2, 3, 4, 5] rfl
    exact hN _ _ ls _ _ _ _ _ (hG.frq hb0 (nMT_fr hfr6)) hM hT hX hF hl
set_option maxHeartbeats 4000000 in
set_option maxRecDepth 100000 in
theorem k_checks {p : Program} {l : Launch} {e : Env} {s : State} {m : MethodId} {below : List Frame} {meth : Method} {c : Code} {g : WG} {sb L : Nat} {xs : Nat → Int32} {b : Nat} {mr mq : Int64} {H : Heap} {locs : List Loc} {ls : Array Slot} {th : Int32} {pn tn wn wm i cells slots : Nat} (E : EV p m c code 8 s #[Value.ref sb] "KateDeskLaw" g) (hr : meth.sig.returnType = ret) (hlk : meth.locks = false) (hb0 : s.heap.size ≤ b) (hsb : sb < s.heap.size) (hxs : XS l s) (hL : L ≤ 3072) (hi : i + 6 ≤ L) (hc : cells + 1 ≤ room_1.cells ∧ slots + 6 ≤ room_1.slots) (hN : LNX p l e s m below meth c g sb L xs b mr mq i (cells + 1) (slots + 6)) (hG : LG g s H b pn tn wn mr mq) (hM : MP g (nMT (b + 501)) H (b + 501) th pn tn wm) (hT : TW9 g H b tn mq) (hX : va_X sb L xs s H) (hF : ∀ q ∈ locs, HXA s q.base) (hl : lv_has ls 8 [(4, .int (nI i)), (3, .ref (b + 510)), (2, .ref (b + 501)), (1, .ref b), (0, .ref sb)]) : W p l e room_1 s m #[Value.ref sb] below meth c H locs cells slots (lw_Z below #[Value.ref sb] s) (F0 m 1023 ls []) := by
  have hx := E.1
  have hb := E.2.1
  have hK := E.2.2.2.2.2
  have hw0 := State.WarmedH.refl s
  have hbd := hM.2.2.2.2.1
  refine lv_aload_n hx hb d_Law_law_1023 rfl (lv_at hl 3 rfl) ?_
  refine lv_aload_n hx hb d_Law_law_1024 rfl (lv_at hl 4 rfl) ?_
  refine lv_iload hx hb d_Law_law_1025 (lv_at hl 0 rfl) ?_
  refine lv_iconst (v := nI 1) hx hb d_Law_law_1027 (by decide) ?_
  refine lv_iadd hx hb d_Law_law_1028 ?_
  refine lv_topi (fun t9 e9 => ?_)
  obtain rfl : t9 = nI (i + 1) := e9.trans (nI_add _ _)
  refine q_xld E hX (i + 1) rfl (by omega) (by omega) d_Law_law_1029 ?_
  refine lv_aload_n hx hb d_Law_law_1030 rfl (lv_at hl 4 rfl) ?_
  refine lv_iload hx hb d_Law_law_1031 (lv_at hl 0 rfl) ?_
  refine lv_iconst (v := nI 2) hx hb d_Law_law_1033 (by decide) ?_
  refine lv_iadd hx hb d_Law_law_1034 ?_
  refine lv_topi (fun t9 e9 => ?_)
  obtain rfl : t9 = nI (i + 2) := e9.trans (nI_add _ _)
  refine q_xld E hX (i + 2) rfl (by omega) (by omega) d_Law_law_1035 ?_
  refine lv_aload_n hx hb d_Law_law_1036 rfl (lv_at hl 4 rfl) ?_
  refine lv_iload hx hb d_Law_law_1037 (lv_at hl 0 rfl) ?_
  refine lv_iconst (v := nI 3) hx hb d_Law_law_1039 (by decide) ?_
  refine lv_iadd hx hb d_Law_law_1040 ?_
  refine lv_topi (fun t9 e9 => ?_)
  obtain rfl : t9 = nI (i + 3) := e9.trans (nI_add _ _)
  refine q_xld E hX (i + 3) rfl (by omega) (by omega) d_Law_law_1041 ?_
  refine lv_aload_n hx hb d_Law_law_1042 rfl (lv_at hl 4 rfl) ?_
  refine lv_iload hx hb d_Law_law_1043 (lv_at hl 0 rfl) ?_
  refine lv_iconst (v := nI 4) hx hb d_Law_law_1045 (by decide) ?_
  refine lv_iadd hx hb d_Law_law_1046 ?_
  refine lv_topi (fun t9 e9 => ?_)
  obtain rfl : t9 = nI (i + 4) := e9.trans (nI_add _ _)
  refine q_xld E hX (i + 4) rfl (by omega) (by omega) d_Law_law_1047 ?_
  refine lv_aload_n hx hb d_Law_law_1048 rfl (lv_at hl 4 rfl) ?_
  refine lv_iload hx hb d_Law_law_1049 (lv_at hl 0 rfl) ?_
  refine lv_iconst (v := nI 5) hx hb d_Law_law_1051 (by decide) ?_
  refine lv_iadd hx hb d_Law_law_1052 ?_
  refine lv_topi (fun t9 e9 => ?_)
  obtain rfl : t9 = nI (i + 5) := e9.trans (nI_add _ _)
  refine q_xld E hX (i + 5) rfl (by omega) (by omega) d_Law_law_1053 ?_
  refine lv_aload_n hx hb d_Law_law_1054 rfl (lv_at hl 1 rfl) ?_
  refine q_cSH (rest := []) E hw0 (H_checks l g s hxs b pn tn wn mr mq hb0 (xs (i + 1)) (xs (i + 2)) (xs (i + 3)) (xs (i + 4)) (xs (i + 5))) w_859 w_0 w_857 w_858 hd_Law_checks rfl ⟨by decide, by decide⟩ hG hF hl.1 rfl (Nat.le_of_ble_eq_true rfl) d_Law_law_1055 hc (qi (fun r5 H1 locs hq hF => ?_))
  obtain ⟨hq, hfr⟩ := hq
  have hX := hX.kept (hfr sb (Or.inl (Nat.lt_of_lt_of_le hsb hb0)))
  have hM := hM.on (fun q h1 h2 => hfr q (Or.inr (Or.inl ⟨h1, h2⟩)))
  have hT := hT.keep hfr
  refine lv_istore (lv' := [(5, .int r5), (4, .int (nI i)), (3, .ref (b + 510)), (2, .ref (b + 501)), (1, .ref b), (0, .ref sb)]) hx hb d_Law_law_1058 hl (by decide) rfl (fun ls hl => ?_)
  refine lv_aload_n hx hb d_Law_law_1060 rfl (lv_at hl 3 rfl) ?_
  refine lv_aload_n hx hb d_Law_law_1061 rfl (lv_at hl 5 rfl) ?_
  refine lv_iload hx hb d_Law_law_1062 (lv_at hl 1 rfl) ?_
  refine lv_iconst (v := nI 1) hx hb d_Law_law_1064 (by decide) ?_
  refine lv_iadd hx hb d_Law_law_1065 ?_
  refine lv_topi (fun t9 e9 => ?_)
  obtain rfl : t9 = nI (i + 1) := e9.trans (nI_add _ _)
  refine q_xld E hX (i + 1) rfl (by omega) (by omega) d_Law_law_1066 ?_
  refine lv_aload_n hx hb d_Law_law_1067 rfl (lv_at hl 5 rfl) ?_
  refine lv_iload hx hb d_Law_law_1068 (lv_at hl 1 rfl) ?_
  refine lv_iconst (v := nI 2) hx hb d_Law_law_1070 (by decide) ?_
  refine lv_iadd hx hb d_Law_law_1071 ?_
  refine lv_topi (fun t9 e9 => ?_)
  obtain rfl : t9 = nI (i + 2) := e9.trans (nI_add _ _)
  refine q_xld E hX (i + 2) rfl (by omega) (by omega) d_Law_law_1072 ?_
  refine lv_aload_n hx hb d_Law_law_1073 rfl (lv_at hl 5 rfl) ?_
  refine lv_iload hx hb d_Law_law_1074 (lv_at hl 1 rfl) ?_
  refine lv_iconst (v := nI 3) hx hb d_Law_law_1076 (by decide) ?_
  refine lv_iadd hx hb d_Law_law_1077 ?_
  refine lv_topi (fun t9 e9 => ?_)
  obtain rfl : t9 = nI (i + 3) := e9.trans (nI_add _ _)
  refine q_xld E hX (i + 3) rfl (by omega) (by omega) d_Law_law_1078 ?_
  refine lv_aload_n hx hb d_Law_law_1079 rfl (lv_at hl 5 rfl) ?_
  refine lv_iload hx hb d_Law_law_1080 (lv_at hl 1 rfl) ?_
  refine lv_iconst (v := nI 4) hx hb d_Law_law_1082 (by decide) ?_
  refine lv_iadd hx hb d_Law_law_1083 ?_
  refine lv_topi (fun t9 e9 => ?_)
  obtain rfl : t9 = nI (i + 4) := e9.trans (nI_add _ _)
  refine q_xld E hX (i + 4) rfl (by omega) (by omega) d_Law_law_1084 ?_
  refine lv_aload_n hx hb d_Law_law_1085 rfl (lv_at hl 5 rfl) ?_
  refine lv_iload hx hb d_Law_law_1086 (lv_at hl 1 rfl) ?_
  refine lv_iconst (v := nI 5) hx hb d_Law_law_1088 (by decide) ?_
  refine lv_iadd hx hb d_Law_law_1089 ?_
  refine lv_topi (fun t9 e9 => ?_)
  obtain rfl : t9 = nI (i + 5) := e9.trans (nI_add _ _)
  refine q_xld E hX (i + 5) rfl (by omega) (by omega) d_Law_law_1090 ?_
  obtain ⟨w9, n9, hob⟩ := hM.ob
  refine q_cV (rest := []) E ((G_Model_checks l g (nMT (b + 501)) (b + 501) th pn tn wm (xs (i + 1)) (xs (i + 2)) (xs (i + 3)) (xs (i + 4)) (xs (i + 5))).frI (nMT_up hb0)) w_1239 w_15 w_1236 w_1237 w_1238 hd_Model_checks rfl ⟨by decide, by decide⟩ (OB.recv E.2.2.2.2.2 (by rfl) hob) hM hF hl.1 rfl (Nat.le_of_ble_eq_true rfl) d_Law_law_1091 hc (qi (fun r6 H2 locs hq6 hF => ?_))
  obtain ⟨hq6, hfr6⟩ := hq6
  have hT := hT.frq hfr6
  have hX := hX.kept (hfr6.2 sb hX.lt (nMT_n (nM_lt hb0 hsb)))
  clear hob hM
  rcases hq with ⟨hok, rfl, hG⟩ | ⟨hok, rfl, hG⟩
  · skip
    have hM : MP g (nMT (b + 501)) H2 (b + 501) 0 pn tn wm := by
      rcases hq6 with ⟨-, h⟩ | ⟨h, -⟩
      · exact h
      · exact absurd hok h
    refine lv_istore (lv' := [(6, .int r6), (5, .int (nI 0)), (4, .int (nI i)), (3, .ref (b + 510)), (2, .ref (b + 501)), (1, .ref b), (0, .ref sb)]) hx hb d_Law_law_1094 hl (by decide) rfl (fun ls hl => ?_)
    refine lv_goto (tgt := 1253) hx hb d_Law_law_1096 (by decide) ?_
    have hl : lv_has ls 8 [(4, .int (nI i)), (3, .ref (b + 510)), (2, .ref (b + 501)), (1, .ref b), (0, .ref sb)] := lv_sub hl [2, 3, 4, 5, 6] rfl
    exact hN _ _ ls _ _ _ _ _ (hG.frq hb0 (nMT_fr hfr6)) hM hT hX hF hl
  · skip
    have hM : MP g (nMT (b + 501)) H2 (b + 501) 1 pn tn wm := by
      rcases hq6 with ⟨h, -⟩ | ⟨-, h⟩
      · exact absurd h hok
      · exact h
    refine lv_istore (lv' := [(6, .int r6), (5, .int (nI 1)), (4, .int (nI i)), (3, .ref (b + 510)), (2, .ref (b + 501)), (1, .ref b), (0, .ref sb)]) hx hb d_Law_law_1094 hl (by decide) rfl (fun ls hl => ?_)
    refine lv_goto (tgt := 1253) hx hb d_Law_law_1096 (by decide) ?_
    have hl : lv_has ls 8 [(4, .int (nI i)), (3, .ref (b + 510)), (2, .ref (b + 501)), (1, .ref b), (0, .ref sb)] := lv_sub hl [2, 3, 4, 5, 6] rfl
    exact hN _ _ ls _ _ _ _ _ (hG.frq hb0 (nMT_fr hfr6)) hM hT hX hF hl
set_option maxHeartbeats 4000000 in
set_option maxRecDepth 100000 in
theorem k_transform {p : Program} {l : Launch} {e : Env} {s : State} {m : MethodId} {below : List Frame} {meth : Method} {c : Code} {g : WG} {sb L : Nat} {xs : Nat → Int32} {b : Nat} {mr mq : Int64} {H : Heap} {locs : List Loc} {ls : Array Slot} {th : Int32} {pn tn wn wm i cells slots : Nat} (E : EV p m c code 8 s #[Value.ref sb] "KateDeskLaw" g) (hr : meth.sig.returnType = ret) (hlk : meth.locks = false) (hb0 : s.heap.size ≤ b) (hsb : sb < s.heap.size) (hxs : XS l s) (hL : L ≤ 3072) (hi : i + 6 ≤ L) (hc : cells + 1 ≤ room_1.cells ∧ slots + 6 ≤ room_1.slots) (hN : LNX p l e s m below meth c g sb L xs b mr mq i (cells + 1) (slots + 6)) (hG : LG g s H b pn tn wn mr mq) (hM : MP g (nMT (b + 501)) H (b + 501) th pn tn wm) (hT : TW9 g H b tn mq) (hX : va_X sb L xs s H) (hF : ∀ q ∈ locs, HXA s q.base) (hl : lv_has ls 8 [(4, .int (nI i)), (3, .ref (b + 510)), (2, .ref (b + 501)), (1, .ref b), (0, .ref sb)]) : W p l e room_1 s m #[Value.ref sb] below meth c H locs cells slots (lw_Z below #[Value.ref sb] s) (F0 m 1099 ls []) := by
  have hx := E.1
  have hb := E.2.1
  have hK := E.2.2.2.2.2
  have hw0 := State.WarmedH.refl s
  have hbd := hM.2.2.2.2.1
  by_cases hzb : xs (i + 3) = 0
  · skip
    refine lv_aload_n hx hb d_Law_law_1099 rfl (lv_at hl 3 rfl) ?_
    refine lv_aload_n hx hb d_Law_law_1100 rfl (lv_at hl 4 rfl) ?_
    refine lv_iload hx hb d_Law_law_1101 (lv_at hl 0 rfl) ?_
    refine lv_iconst (v := nI 1) hx hb d_Law_law_1103 (by decide) ?_
    refine lv_iadd hx hb d_Law_law_1104 ?_
    refine lv_topi (fun t9 e9 => ?_)
    obtain rfl : t9 = nI (i + 1) := e9.trans (nI_add _ _)
    refine q_xld E hX (i + 1) rfl (by omega) (by omega) d_Law_law_1105 ?_
    refine lv_aload_n hx hb d_Law_law_1106 rfl (lv_at hl 4 rfl) ?_
    refine lv_iload hx hb d_Law_law_1107 (lv_at hl 0 rfl) ?_
    refine lv_iconst (v := nI 2) hx hb d_Law_law_1109 (by decide) ?_
    refine lv_iadd hx hb d_Law_law_1110 ?_
    refine lv_topi (fun t9 e9 => ?_)
    obtain rfl : t9 = nI (i + 2) := e9.trans (nI_add _ _)
    refine q_xld E hX (i + 2) rfl (by omega) (by omega) d_Law_law_1111 ?_
    refine lv_aload_n hx hb d_Law_law_1112 rfl (lv_at hl 4 rfl) ?_
    refine lv_iload hx hb d_Law_law_1113 (lv_at hl 0 rfl) ?_
    refine lv_iconst (v := nI 3) hx hb d_Law_law_1115 (by decide) ?_
    refine lv_iadd hx hb d_Law_law_1116 ?_
    refine lv_topi (fun t9 e9 => ?_)
    obtain rfl : t9 = nI (i + 3) := e9.trans (nI_add _ _)
    refine q_xld E hX (i + 3) rfl (by omega) (by omega) d_Law_law_1117 ?_
    refine lv_if_eq (tgt := 1125) hx hb d_Law_law_1118 (by decide) (fun _ => ?_) (fun h9 => absurd (hzb) h9)
    refine lv_iconst (v := nI 0) hx hb d_Law_law_1125 (by decide) ?_
    refine q_cSH (rest := []) E hw0 (H_transform l g s hxs b pn tn wn mr mq hb0 (xs (i + 1)) (xs (i + 2)) (nI 0)) w_866 w_0 w_864 w_865 hd_Law_transform rfl ⟨by decide, by decide⟩ hG hF hl.1 rfl (Nat.le_of_ble_eq_true rfl) d_Law_law_1126 hc (qi (fun r5 H1 locs hq hF => ?_))
    obtain ⟨hq, hfr⟩ := hq
    have hX := hX.kept (hfr sb (Or.inl (Nat.lt_of_lt_of_le hsb hb0)))
    have hM := hM.on (fun q h1 h2 => hfr q (Or.inr (Or.inl ⟨h1, h2⟩)))
    have hT := hT.keep hfr
    refine lv_istore (lv' := [(5, .int r5), (4, .int (nI i)), (3, .ref (b + 510)), (2, .ref (b + 501)), (1, .ref b), (0, .ref sb)]) hx hb d_Law_law_1129 hl (by decide) rfl (fun ls hl => ?_)
    refine lv_aload_n hx hb d_Law_law_1131 rfl (lv_at hl 3 rfl) ?_
    refine lv_aload_n hx hb d_Law_law_1132 rfl (lv_at hl 5 rfl) ?_
    refine lv_iload hx hb d_Law_law_1133 (lv_at hl 1 rfl) ?_
    refine lv_iconst (v := nI 1) hx hb d_Law_law_1135 (by decide) ?_
    refine lv_iadd hx hb d_Law_law_1136 ?_
    refine lv_topi (fun t9 e9 => ?_)
    obtain rfl : t9 = nI (i + 1) := e9.trans (nI_add _ _)
    refine q_xld E hX (i + 1) rfl (by omega) (by omega) d_Law_law_1137 ?_
    refine lv_aload_n hx hb d_Law_law_1138 rfl (lv_at hl 5 rfl) ?_
    refine lv_iload hx hb d_Law_law_1139 (lv_at hl 1 rfl) ?_
    refine lv_iconst (v := nI 2) hx hb d_Law_law_1141 (by decide) ?_
    refine lv_iadd hx hb d_Law_law_1142 ?_
    refine lv_topi (fun t9 e9 => ?_)
    obtain rfl : t9 = nI (i + 2) := e9.trans (nI_add _ _)
    refine q_xld E hX (i + 2) rfl (by omega) (by omega) d_Law_law_1143 ?_
    refine lv_aload_n hx hb d_Law_law_1144 rfl (lv_at hl 5 rfl) ?_
    refine lv_iload hx hb d_Law_law_1145 (lv_at hl 1 rfl) ?_
    refine lv_iconst (v := nI 3) hx hb d_Law_law_1147 (by decide) ?_
    refine lv_iadd hx hb d_Law_law_1148 ?_
    refine lv_topi (fun t9 e9 => ?_)
    obtain rfl : t9 = nI (i + 3) := e9.trans (nI_add _ _)
    refine q_xld E hX (i + 3) rfl (by omega) (by omega) d_Law_law_1149 ?_
    refine lv_if_eq (tgt := 1157) hx hb d_Law_law_1150 (by decide) (fun _ => ?_) (fun h9 => absurd (hzb) h9)
    refine lv_iconst (v := nI 0) hx hb d_Law_law_1157 (by decide) ?_
    obtain ⟨w9, n9, hob⟩ := hM.ob
    refine q_cV (rest := []) E ((G_Model_transform l g (nMT (b + 501)) (b + 501) th pn tn wm (xs (i + 1)) (xs (i + 2)) (nI 0)).frV (nMT_up hb0)) w_1243 w_15 w_1240 w_1241 w_1242 hd_Model_transform rfl ⟨by decide, by decide⟩ (OB.recv E.2.2.2.2.2 (by rfl) hob) hM hF hl.1 rfl (Nat.le_of_ble_eq_true rfl) d_Law_law_1158 hc (qv (fun H2 locs hq6 hF => ?_))
    obtain ⟨hq6, hfr6⟩ := hq6
    have hT := hT.frq hfr6
    have hX := hX.kept (hfr6.2 sb hX.lt (nMT_n (nM_lt hb0 hsb)))
    clear hob hM
    rcases hq with ⟨hok, rfl, hG⟩ | ⟨hok, rfl, hG⟩
    · skip
      have hM : MP g (nMT (b + 501)) H2 (b + 501) 0 pn tn wm := by
        rcases hq6 with ⟨-, h⟩ | ⟨h, -⟩
        · exact h
        · exact absurd hok h
      refine lv_goto (tgt := 1253) hx hb d_Law_law_1161 (by decide) ?_
      have hl : lv_has ls 8 [(4, .int (nI i)), (3, .ref (b + 510)), (2, .ref (b + 501)), (1, .ref b), (0, .ref sb)] := lv_sub hl [1, 2, 3, 4, 5] rfl
      exact hN _ _ ls _ _ _ _ _ (hG.frq hb0 (nMT_fr hfr6)) hM hT hX hF hl
    · skip
      have hM : MP g (nMT (b + 501)) H2 (b + 501) 1 pn tn wm := by
        rcases hq6 with ⟨h, -⟩ | ⟨-, h⟩
        · exact absurd h hok
        · exact h
      refine lv_goto (tgt := 1253) hx hb d_Law_law_1161 (by decide) ?_
      have hl : lv_has ls 8 [(4, .int (nI i)), (3, .ref (b + 510)), (2, .ref (b + 501)), (1, .ref b), (0, .ref sb)] := lv_sub hl [1, 2, 3, 4, 5] rfl
      exact hN _ _ ls _ _ _ _ _ (hG.frq hb0 (nMT_fr hfr6)) hM hT hX hF hl
  · skip
    refine lv_aload_n hx hb d_Law_law_1099 rfl (lv_at hl 3 rfl) ?_
    refine lv_aload_n hx hb d_Law_law_1100 rfl (lv_at hl 4 rfl) ?_
    refine lv_iload hx hb d_Law_law_1101 (lv_at hl 0 rfl) ?_
    refine lv_iconst (v := nI 1) hx hb d_Law_law_1103 (by decide) ?_
    refine lv_iadd hx hb d_Law_law_1104 ?_
    refine lv_topi (fun t9 e9 => ?_)
    obtain rfl : t9 = nI (i + 1) := e9.trans (nI_add _ _)
    refine q_xld E hX (i + 1) rfl (by omega) (by omega) d_Law_law_1105 ?_
    refine lv_aload_n hx hb d_Law_law_1106 rfl (lv_at hl 4 rfl) ?_
    refine lv_iload hx hb d_Law_law_1107 (lv_at hl 0 rfl) ?_
    refine lv_iconst (v := nI 2) hx hb d_Law_law_1109 (by decide) ?_
    refine lv_iadd hx hb d_Law_law_1110 ?_
    refine lv_topi (fun t9 e9 => ?_)
    obtain rfl : t9 = nI (i + 2) := e9.trans (nI_add _ _)
    refine q_xld E hX (i + 2) rfl (by omega) (by omega) d_Law_law_1111 ?_
    refine lv_aload_n hx hb d_Law_law_1112 rfl (lv_at hl 4 rfl) ?_
    refine lv_iload hx hb d_Law_law_1113 (lv_at hl 0 rfl) ?_
    refine lv_iconst (v := nI 3) hx hb d_Law_law_1115 (by decide) ?_
    refine lv_iadd hx hb d_Law_law_1116 ?_
    refine lv_topi (fun t9 e9 => ?_)
    obtain rfl : t9 = nI (i + 3) := e9.trans (nI_add _ _)
    refine q_xld E hX (i + 3) rfl (by omega) (by omega) d_Law_law_1117 ?_
    refine lv_if_eq (tgt := 1125) hx hb d_Law_law_1118 (by decide) (fun h9 => absurd h9 (hzb)) (fun _ => ?_)
    refine lv_iconst (v := nI 1) hx hb d_Law_law_1121 (by decide) ?_
    refine lv_goto (tgt := 1126) hx hb d_Law_law_1122 (by decide) ?_
    refine q_cSH (rest := []) E hw0 (H_transform l g s hxs b pn tn wn mr mq hb0 (xs (i + 1)) (xs (i + 2)) (nI 1)) w_866 w_0 w_864 w_865 hd_Law_transform rfl ⟨by decide, by decide⟩ hG hF hl.1 rfl (Nat.le_of_ble_eq_true rfl) d_Law_law_1126 hc (qi (fun r5 H1 locs hq hF => ?_))
    obtain ⟨hq, hfr⟩ := hq
    have hX := hX.kept (hfr sb (Or.inl (Nat.lt_of_lt_of_le hsb hb0)))
    have hM := hM.on (fun q h1 h2 => hfr q (Or.inr (Or.inl ⟨h1, h2⟩)))
    have hT := hT.keep hfr
    refine lv_istore (lv' := [(5, .int r5), (4, .int (nI i)), (3, .ref (b + 510)), (2, .ref (b + 501)), (1, .ref b), (0, .ref sb)]) hx hb d_Law_law_1129 hl (by decide) rfl (fun ls hl => ?_)
    refine lv_aload_n hx hb d_Law_law_1131 rfl (lv_at hl 3 rfl) ?_
    refine lv_aload_n hx hb d_Law_law_1132 rfl (lv_at hl 5 rfl) ?_
    refine lv_iload hx hb d_Law_law_1133 (lv_at hl 1 rfl) ?_
    refine lv_iconst (v := nI 1) hx hb d_Law_law_1135 (by decide) ?_
    refine lv_iadd hx hb d_Law_law_1136 ?_
    refine lv_topi (fun t9 e9 => ?_)
    obtain rfl : t9 = nI (i + 1) := e9.trans (nI_add _ _)
    refine q_xld E hX (i + 1) rfl (by omega) (by omega) d_Law_law_1137 ?_
    refine lv_aload_n hx hb d_Law_law_1138 rfl (lv_at hl 5 rfl) ?_
    refine lv_iload hx hb d_Law_law_1139 (lv_at hl 1 rfl) ?_
    refine lv_iconst (v := nI 2) hx hb d_Law_law_1141 (by decide) ?_
    refine lv_iadd hx hb d_Law_law_1142 ?_
    refine lv_topi (fun t9 e9 => ?_)
    obtain rfl : t9 = nI (i + 2) := e9.trans (nI_add _ _)
    refine q_xld E hX (i + 2) rfl (by omega) (by omega) d_Law_law_1143 ?_
    refine lv_aload_n hx hb d_Law_law_1144 rfl (lv_at hl 5 rfl) ?_
    refine lv_iload hx hb d_Law_law_1145 (lv_at hl 1 rfl) ?_
    refine lv_iconst (v := nI 3) hx hb d_Law_law_1147 (by decide) ?_
    refine lv_iadd hx hb d_Law_law_1148 ?_
    refine lv_topi (fun t9 e9 => ?_)
    obtain rfl : t9 = nI (i + 3) := e9.trans (nI_add _ _)
    refine q_xld E hX (i + 3) rfl (by omega) (by omega) d_Law_law_1149 ?_
    refine lv_if_eq (tgt := 1157) hx hb d_Law_law_1150 (by decide) (fun h9 => absurd h9 (hzb)) (fun _ => ?_)
    refine lv_iconst (v := nI 1) hx hb d_Law_law_1153 (by decide) ?_
    refine lv_goto (tgt := 1158) hx hb d_Law_law_1154 (by decide) ?_
    obtain ⟨w9, n9, hob⟩ := hM.ob
    refine q_cV (rest := []) E ((G_Model_transform l g (nMT (b + 501)) (b + 501) th pn tn wm (xs (i + 1)) (xs (i + 2)) (nI 1)).frV (nMT_up hb0)) w_1243 w_15 w_1240 w_1241 w_1242 hd_Model_transform rfl ⟨by decide, by decide⟩ (OB.recv E.2.2.2.2.2 (by rfl) hob) hM hF hl.1 rfl (Nat.le_of_ble_eq_true rfl) d_Law_law_1158 hc (qv (fun H2 locs hq6 hF => ?_))
    obtain ⟨hq6, hfr6⟩ := hq6
    have hT := hT.frq hfr6
    have hX := hX.kept (hfr6.2 sb hX.lt (nMT_n (nM_lt hb0 hsb)))
    clear hob hM
    rcases hq with ⟨hok, rfl, hG⟩ | ⟨hok, rfl, hG⟩
    · skip
      have hM : MP g (nMT (b + 501)) H2 (b + 501) 0 pn tn wm := by
        rcases hq6 with ⟨-, h⟩ | ⟨h, -⟩
        · exact h
        · exact absurd hok h
      refine lv_goto (tgt := 1253) hx hb d_Law_law_1161 (by decide) ?_
      have hl : lv_has ls 8 [(4, .int (nI i)), (3, .ref (b + 510)), (2, .ref (b + 501)), (1, .ref b), (0, .ref sb)] := lv_sub hl [1, 2, 3, 4, 5] rfl
      exact hN _ _ ls _ _ _ _ _ (hG.frq hb0 (nMT_fr hfr6)) hM hT hX hF hl
    · skip
      have hM : MP g (nMT (b + 501)) H2 (b + 501) 1 pn tn wm := by
        rcases hq6 with ⟨h, -⟩ | ⟨-, h⟩
        · exact absurd h hok
        · exact h
      refine lv_goto (tgt := 1253) hx hb d_Law_law_1161 (by decide) ?_
      have hl : lv_has ls 8 [(4, .int (nI i)), (3, .ref (b + 510)), (2, .ref (b + 501)), (1, .ref b), (0, .ref sb)] := lv_sub hl [1, 2, 3, 4, 5] rfl
      exact hN _ _ ls _ _ _ _ _ (hG.frq hb0 (nMT_fr hfr6)) hM hT hX hF hl
set_option maxHeartbeats 4000000 in
set_option maxRecDepth 100000 in
theorem k_lagrange {p : Program} {l : Launch} {e : Env} {s : State} {m : MethodId} {below : List Frame} {meth : Method} {c : Code} {g : WG} {sb L : Nat} {xs : Nat → Int32} {b : Nat} {mr mq : Int64} {H : Heap} {locs : List Loc} {ls : Array Slot} {th : Int32} {pn tn wn wm i cells slots : Nat} (E : EV p m c code 8 s #[Value.ref sb] "KateDeskLaw" g) (hr : meth.sig.returnType = ret) (hlk : meth.locks = false) (hb0 : s.heap.size ≤ b) (hsb : sb < s.heap.size) (hxs : XS l s) (hL : L ≤ 3072) (hi : i + 6 ≤ L) (hc : cells + 1 ≤ room_1.cells ∧ slots + 6 ≤ room_1.slots) (hN : LNX p l e s m below meth c g sb L xs b mr mq i (cells + 1) (slots + 6)) (hG : LG g s H b pn tn wn mr mq) (hM : MP g (nMT (b + 501)) H (b + 501) th pn tn wm) (hT : TW9 g H b tn mq) (hX : va_X sb L xs s H) (hF : ∀ q ∈ locs, HXA s q.base) (hl : lv_has ls 8 [(4, .int (nI i)), (3, .ref (b + 510)), (2, .ref (b + 501)), (1, .ref b), (0, .ref sb)]) : W p l e room_1 s m #[Value.ref sb] below meth c H locs cells slots (lw_Z below #[Value.ref sb] s) (F0 m 1164 ls []) := by
  have hx := E.1
  have hb := E.2.1
  have hK := E.2.2.2.2.2
  have hw0 := State.WarmedH.refl s
  have hbd := hM.2.2.2.2.1
  refine lv_aload_n hx hb d_Law_law_1164 rfl (lv_at hl 3 rfl) ?_
  refine lv_aload_n hx hb d_Law_law_1165 rfl (lv_at hl 4 rfl) ?_
  refine lv_iload hx hb d_Law_law_1166 (lv_at hl 0 rfl) ?_
  refine lv_iconst (v := nI 1) hx hb d_Law_law_1168 (by decide) ?_
  refine lv_iadd hx hb d_Law_law_1169 ?_
  refine lv_topi (fun t9 e9 => ?_)
  obtain rfl : t9 = nI (i + 1) := e9.trans (nI_add _ _)
  refine q_xld E hX (i + 1) rfl (by omega) (by omega) d_Law_law_1170 ?_
  refine lv_aload_n hx hb d_Law_law_1171 rfl (lv_at hl 4 rfl) ?_
  refine lv_iload hx hb d_Law_law_1172 (lv_at hl 0 rfl) ?_
  refine lv_iconst (v := nI 2) hx hb d_Law_law_1174 (by decide) ?_
  refine lv_iadd hx hb d_Law_law_1175 ?_
  refine lv_topi (fun t9 e9 => ?_)
  obtain rfl : t9 = nI (i + 2) := e9.trans (nI_add _ _)
  refine q_xld E hX (i + 2) rfl (by omega) (by omega) d_Law_law_1176 ?_
  refine lv_aload_n hx hb d_Law_law_1177 rfl (lv_at hl 4 rfl) ?_
  refine lv_iload hx hb d_Law_law_1178 (lv_at hl 0 rfl) ?_
  refine lv_iconst (v := nI 3) hx hb d_Law_law_1180 (by decide) ?_
  refine lv_iadd hx hb d_Law_law_1181 ?_
  refine lv_topi (fun t9 e9 => ?_)
  obtain rfl : t9 = nI (i + 3) := e9.trans (nI_add _ _)
  refine q_xld E hX (i + 3) rfl (by omega) (by omega) d_Law_law_1182 ?_
  refine lv_aload_n hx hb d_Law_law_1183 rfl (lv_at hl 4 rfl) ?_
  refine lv_iload hx hb d_Law_law_1184 (lv_at hl 0 rfl) ?_
  refine lv_iconst (v := nI 4) hx hb d_Law_law_1186 (by decide) ?_
  refine lv_iadd hx hb d_Law_law_1187 ?_
  refine lv_topi (fun t9 e9 => ?_)
  obtain rfl : t9 = nI (i + 4) := e9.trans (nI_add _ _)
  refine q_xld E hX (i + 4) rfl (by omega) (by omega) d_Law_law_1188 ?_
  refine q_cSH (rest := []) E hw0 (H_lagrange l g s hxs b pn tn wn mr mq hb0 (xs (i + 1)) (xs (i + 2)) (xs (i + 3)) (xs (i + 4))) w_890 w_0 w_888 w_889 hd_Law_lagrange rfl ⟨by decide, by decide⟩ hG hF hl.1 rfl (Nat.le_of_ble_eq_true rfl) d_Law_law_1189 hc (qi (fun r5 H1 locs hq hF => ?_))
  obtain ⟨hq, hfr⟩ := hq
  have hX := hX.kept (hfr sb (Or.inl (Nat.lt_of_lt_of_le hsb hb0)))
  have hM := hM.on (fun q h1 h2 => hfr q (Or.inr (Or.inl ⟨h1, h2⟩)))
  have hT := hT.keep hfr
  refine lv_istore (lv' := [(5, .int r5), (4, .int (nI i)), (3, .ref (b + 510)), (2, .ref (b + 501)), (1, .ref b), (0, .ref sb)]) hx hb d_Law_law_1192 hl (by decide) rfl (fun ls hl => ?_)
  refine lv_aload_n hx hb d_Law_law_1194 rfl (lv_at hl 3 rfl) ?_
  refine lv_aload_n hx hb d_Law_law_1195 rfl (lv_at hl 5 rfl) ?_
  refine lv_iload hx hb d_Law_law_1196 (lv_at hl 1 rfl) ?_
  refine lv_iconst (v := nI 1) hx hb d_Law_law_1198 (by decide) ?_
  refine lv_iadd hx hb d_Law_law_1199 ?_
  refine lv_topi (fun t9 e9 => ?_)
  obtain rfl : t9 = nI (i + 1) := e9.trans (nI_add _ _)
  refine q_xld E hX (i + 1) rfl (by omega) (by omega) d_Law_law_1200 ?_
  refine lv_aload_n hx hb d_Law_law_1201 rfl (lv_at hl 5 rfl) ?_
  refine lv_iload hx hb d_Law_law_1202 (lv_at hl 1 rfl) ?_
  refine lv_iconst (v := nI 2) hx hb d_Law_law_1204 (by decide) ?_
  refine lv_iadd hx hb d_Law_law_1205 ?_
  refine lv_topi (fun t9 e9 => ?_)
  obtain rfl : t9 = nI (i + 2) := e9.trans (nI_add _ _)
  refine q_xld E hX (i + 2) rfl (by omega) (by omega) d_Law_law_1206 ?_
  refine lv_aload_n hx hb d_Law_law_1207 rfl (lv_at hl 5 rfl) ?_
  refine lv_iload hx hb d_Law_law_1208 (lv_at hl 1 rfl) ?_
  refine lv_iconst (v := nI 3) hx hb d_Law_law_1210 (by decide) ?_
  refine lv_iadd hx hb d_Law_law_1211 ?_
  refine lv_topi (fun t9 e9 => ?_)
  obtain rfl : t9 = nI (i + 3) := e9.trans (nI_add _ _)
  refine q_xld E hX (i + 3) rfl (by omega) (by omega) d_Law_law_1212 ?_
  refine lv_aload_n hx hb d_Law_law_1213 rfl (lv_at hl 5 rfl) ?_
  refine lv_iload hx hb d_Law_law_1214 (lv_at hl 1 rfl) ?_
  refine lv_iconst (v := nI 4) hx hb d_Law_law_1216 (by decide) ?_
  refine lv_iadd hx hb d_Law_law_1217 ?_
  refine lv_topi (fun t9 e9 => ?_)
  obtain rfl : t9 = nI (i + 4) := e9.trans (nI_add _ _)
  refine q_xld E hX (i + 4) rfl (by omega) (by omega) d_Law_law_1218 ?_
  obtain ⟨w9, n9, hob⟩ := hM.ob
  refine q_cV (rest := []) E ((G_Model_lagrange l g (nMT (b + 501)) (b + 501) th pn tn wm (xs (i + 1)) (xs (i + 2)) (xs (i + 3)) (xs (i + 4))).frV (nMT_up hb0)) w_1247 w_15 w_1244 w_1245 w_1246 hd_Model_lagrange rfl ⟨by decide, by decide⟩ (OB.recv E.2.2.2.2.2 (by rfl) hob) hM hF hl.1 rfl (Nat.le_of_ble_eq_true rfl) d_Law_law_1219 hc (qv (fun H2 locs hq6 hF => ?_))
  obtain ⟨hq6, hfr6⟩ := hq6
  have hT := hT.frq hfr6
  have hX := hX.kept (hfr6.2 sb hX.lt (nMT_n (nM_lt hb0 hsb)))
  clear hob hM
  rcases hq with ⟨hok, rfl, hG⟩ | ⟨hok, rfl, hG⟩
  · skip
    have hM : MP g (nMT (b + 501)) H2 (b + 501) 0 pn tn wm := by
      rcases hq6 with ⟨-, h⟩ | ⟨h, -⟩
      · exact h
      · exact absurd hok h
    refine lv_goto (tgt := 1253) hx hb d_Law_law_1222 (by decide) ?_
    have hl : lv_has ls 8 [(4, .int (nI i)), (3, .ref (b + 510)), (2, .ref (b + 501)), (1, .ref b), (0, .ref sb)] := lv_sub hl [1, 2, 3, 4, 5] rfl
    exact hN _ _ ls _ _ _ _ _ (hG.frq hb0 (nMT_fr hfr6)) hM hT hX hF hl
  · skip
    have hM : MP g (nMT (b + 501)) H2 (b + 501) 1 pn tn wm := by
      rcases hq6 with ⟨h, -⟩ | ⟨-, h⟩
      · exact absurd h hok
      · exact h
    refine lv_goto (tgt := 1253) hx hb d_Law_law_1222 (by decide) ?_
    have hl : lv_has ls 8 [(4, .int (nI i)), (3, .ref (b + 510)), (2, .ref (b + 501)), (1, .ref b), (0, .ref sb)] := lv_sub hl [1, 2, 3, 4, 5] rfl
    exact hN _ _ ls _ _ _ _ _ (hG.frq hb0 (nMT_fr hfr6)) hM hT hX hF hl
set_option maxHeartbeats 4000000 in
set_option maxRecDepth 100000 in
theorem k_look {p : Program} {l : Launch} {e : Env} {s : State} {m : MethodId} {below : List Frame} {meth : Method} {c : Code} {g : WG} {sb L : Nat} {xs : Nat → Int32} {b : Nat} {mr mq : Int64} {H : Heap} {locs : List Loc} {ls : Array Slot} {th : Int32} {pn tn wn wm i cells slots : Nat} (E : EV p m c code 8 s #[Value.ref sb] "KateDeskLaw" g) (hr : meth.sig.returnType = ret) (hlk : meth.locks = false) (hb0 : s.heap.size ≤ b) (hsb : sb < s.heap.size) (hxs : XS l s) (hL : L ≤ 3072) (hi : i + 6 ≤ L) (hc : cells + 1 ≤ room_1.cells ∧ slots + 6 ≤ room_1.slots) (hN : LNX p l e s m below meth c g sb L xs b mr mq i (cells + 1) (slots + 6)) (hG : LG g s H b pn tn wn mr mq) (hM : MP g (nMT (b + 501)) H (b + 501) th pn tn wm) (hT : TW9 g H b tn mq) (hX : va_X sb L xs s H) (hF : ∀ q ∈ locs, HXA s q.base) (hl : lv_has ls 8 [(4, .int (nI i)), (3, .ref (b + 510)), (2, .ref (b + 501)), (1, .ref b), (0, .ref sb)]) : W p l e room_1 s m #[Value.ref sb] below meth c H locs cells slots (lw_Z below #[Value.ref sb] s) (F0 m 1225 ls []) := by
  have hx := E.1
  have hb := E.2.1
  have hK := E.2.2.2.2.2
  have hw0 := State.WarmedH.refl s
  have hbd := hM.2.2.2.2.1
  refine lv_aload_n hx hb d_Law_law_1225 rfl (lv_at hl 3 rfl) ?_
  refine lv_aload_n hx hb d_Law_law_1226 rfl (lv_at hl 4 rfl) ?_
  refine lv_iload hx hb d_Law_law_1227 (lv_at hl 0 rfl) ?_
  refine lv_iconst (v := nI 1) hx hb d_Law_law_1229 (by decide) ?_
  refine lv_iadd hx hb d_Law_law_1230 ?_
  refine lv_topi (fun t9 e9 => ?_)
  obtain rfl : t9 = nI (i + 1) := e9.trans (nI_add _ _)
  refine q_xld E hX (i + 1) rfl (by omega) (by omega) d_Law_law_1231 ?_
  refine lv_aload_n hx hb d_Law_law_1232 rfl (lv_at hl 1 rfl) ?_
  refine q_cSH (rest := []) E hw0 (H_look l g s hxs b pn tn wn mr mq hb0 (xs (i + 1))) w_901 w_0 w_899 w_900 hd_Law_look rfl ⟨by decide, by decide⟩ hG hF hl.1 rfl (Nat.le_of_ble_eq_true rfl) d_Law_law_1233 hc (qi (fun r5 H1 locs hq hF => ?_))
  obtain ⟨hq, hfr⟩ := hq
  have hX := hX.kept (hfr sb (Or.inl (Nat.lt_of_lt_of_le hsb hb0)))
  have hM := hM.on (fun q h1 h2 => hfr q (Or.inr (Or.inl ⟨h1, h2⟩)))
  have hT := hT.keep hfr
  refine lv_istore (lv' := [(5, .int r5), (4, .int (nI i)), (3, .ref (b + 510)), (2, .ref (b + 501)), (1, .ref b), (0, .ref sb)]) hx hb d_Law_law_1236 hl (by decide) rfl (fun ls hl => ?_)
  refine lv_aload_n hx hb d_Law_law_1238 rfl (lv_at hl 3 rfl) ?_
  refine lv_aload_n hx hb d_Law_law_1239 rfl (lv_at hl 5 rfl) ?_
  refine lv_iload hx hb d_Law_law_1240 (lv_at hl 1 rfl) ?_
  refine lv_iconst (v := nI 1) hx hb d_Law_law_1242 (by decide) ?_
  refine lv_iadd hx hb d_Law_law_1243 ?_
  refine lv_topi (fun t9 e9 => ?_)
  obtain rfl : t9 = nI (i + 1) := e9.trans (nI_add _ _)
  refine q_xld E hX (i + 1) rfl (by omega) (by omega) d_Law_law_1244 ?_
  obtain ⟨w9, n9, hob⟩ := hM.ob
  refine q_cV (rest := []) E ((G_Model_look l g (nMT (b + 501)) (b + 501) th pn tn wm (xs (i + 1))).frI (nMT_up hb0)) w_1251 w_15 w_1248 w_1249 w_1250 hd_Model_look rfl ⟨by decide, by decide⟩ (OB.recv E.2.2.2.2.2 (by rfl) hob) hM hF hl.1 rfl (Nat.le_of_ble_eq_true rfl) d_Law_law_1245 hc (qi (fun r6 H2 locs hq6 hF => ?_))
  obtain ⟨hq6, hfr6⟩ := hq6
  have hT := hT.frq hfr6
  have hX := hX.kept (hfr6.2 sb hX.lt (nMT_n (nM_lt hb0 hsb)))
  clear hob hM
  rcases hq with ⟨hok, rfl, hG⟩ | ⟨hok, rfl, hG⟩
  · skip
    have hM : MP g (nMT (b + 501)) H2 (b + 501) 0 pn tn wm := by
      rcases hq6 with ⟨-, h⟩ | ⟨h, -⟩
      · exact h
      · exact absurd hok h
    refine lv_istore (lv' := [(6, .int r6), (5, .int (nI 0)), (4, .int (nI i)), (3, .ref (b + 510)), (2, .ref (b + 501)), (1, .ref b), (0, .ref sb)]) hx hb d_Law_law_1248 hl (by decide) rfl (fun ls hl => ?_)
    refine lv_goto (tgt := 1253) hx hb d_Law_law_1250 (by decide) ?_
    have hl : lv_has ls 8 [(4, .int (nI i)), (3, .ref (b + 510)), (2, .ref (b + 501)), (1, .ref b), (0, .ref sb)] := lv_sub hl [2, 3, 4, 5, 6] rfl
    exact hN _ _ ls _ _ _ _ _ (hG.frq hb0 (nMT_fr hfr6)) hM hT hX hF hl
  · skip
    have hM : MP g (nMT (b + 501)) H2 (b + 501) 1 pn tn wm := by
      rcases hq6 with ⟨h, -⟩ | ⟨-, h⟩
      · exact absurd h hok
      · exact h
    refine lv_istore (lv' := [(6, .int r6), (5, .int (nI 1)), (4, .int (nI i)), (3, .ref (b + 510)), (2, .ref (b + 501)), (1, .ref b), (0, .ref sb)]) hx hb d_Law_law_1248 hl (by decide) rfl (fun ls hl => ?_)
    refine lv_goto (tgt := 1253) hx hb d_Law_law_1250 (by decide) ?_
    have hl : lv_has ls 8 [(4, .int (nI i)), (3, .ref (b + 510)), (2, .ref (b + 501)), (1, .ref b), (0, .ref sb)] := lv_sub hl [2, 3, 4, 5, 6] rfl
    exact hN _ _ ls _ _ _ _ _ (hG.frq hb0 (nMT_fr hfr6)) hM hT hX hF hl
