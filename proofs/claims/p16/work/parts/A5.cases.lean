set_option maxHeartbeats 4000000 in
set_option maxRecDepth 100000 in
theorem k_feed {p : Program} {l : Launch} {e : Env} {s : State} {m : MethodId} {below : List Frame} {meth : Method} {c : Code} {g : WG} {sb L : Nat} {xs : Nat → Int32} {b : Nat} {mr mq : Int64} {H : Heap} {locs : List Loc} {ls : Array Slot} {th : Int32} {pn tn wn wm i cells slots : Nat} (E : EV p m c code 8 s #[Value.ref sb] "KateDeskLaw" g) (hr : meth.sig.returnType = ret) (hlk : meth.locks = false) (hb0 : s.heap.size ≤ b) (hsb : sb < s.heap.size) (hxs : XS l s) (hno : va_Nc "java/lang/IllegalStateException" "java/lang/IllegalArgumentException" s) (hL : L ≤ 3072) (hi : i + 6 ≤ L) (hc : cells + 1 ≤ room_1.cells ∧ slots + 6 ≤ room_1.slots) (hN : LNX p l e s m below meth c g sb L xs b mr mq i (cells + 1) (slots + 6)) (hG : LG g s H b pn tn wn mr mq) (hM : MP g (nM (b + 501)) H (b + 501) th pn tn wm) (hX : va_X sb L xs s H) (hF : ∀ q ∈ locs, HXA s q.base) (hl : lv_has ls 8 [(4, .int (nI i)), (3, .ref (b + 510)), (2, .ref (b + 501)), (1, .ref b), (0, .ref sb)]) : W p l e room_1 s m #[Value.ref sb] below meth c H locs cells slots (lw_Z below #[Value.ref sb] s) (F0 m 140 ls []) := by
  have hx := E.1
  have hb := E.2.1
  have hK := E.2.2.2.2.2
  have hw0 := State.WarmedH.refl s
  have hbd := hM.2.2.2.2.1
  refine lv_aload_n hx hb d_Law_law_140 rfl (lv_at hl 3 rfl) ?_
  refine lv_aload_n hx hb d_Law_law_141 rfl (lv_at hl 4 rfl) ?_
  refine lv_iload hx hb d_Law_law_142 (lv_at hl 0 rfl) ?_
  refine lv_iconst (v := nI 1) hx hb d_Law_law_144 (by decide) ?_
  refine lv_iadd hx hb d_Law_law_145 ?_
  refine lv_topi (fun t9 e9 => ?_)
  obtain rfl : t9 = nI (i + 1) := e9.trans (nI_add _ _)
  refine q_xld E hX (i + 1) rfl (by omega) (by omega) d_Law_law_146 ?_
  refine lv_aload_n hx hb d_Law_law_147 rfl (lv_at hl 4 rfl) ?_
  refine lv_iload hx hb d_Law_law_148 (lv_at hl 0 rfl) ?_
  refine lv_iconst (v := nI 2) hx hb d_Law_law_150 (by decide) ?_
  refine lv_iadd hx hb d_Law_law_151 ?_
  refine lv_topi (fun t9 e9 => ?_)
  obtain rfl : t9 = nI (i + 2) := e9.trans (nI_add _ _)
  refine q_xld E hX (i + 2) rfl (by omega) (by omega) d_Law_law_152 ?_
  refine lv_i2l (v := (xs (i + 2)).toInt64) hx hb d_Law_law_153 rfl ?_
  refine lv_bipush (v := nI 32) hx hb d_Law_law_154 (by decide) ?_
  refine lv_lshl (v := ((xs (i + 2)).toInt64) <<< ((nI 32).toInt64 &&& 63)) hx hb d_Law_law_156 rfl ?_
  refine lv_aload_n hx hb d_Law_law_157 rfl (lv_at hl 4 rfl) ?_
  refine lv_iload hx hb d_Law_law_158 (lv_at hl 0 rfl) ?_
  refine lv_iconst (v := nI 3) hx hb d_Law_law_160 (by decide) ?_
  refine lv_iadd hx hb d_Law_law_161 ?_
  refine lv_topi (fun t9 e9 => ?_)
  obtain rfl : t9 = nI (i + 3) := e9.trans (nI_add _ _)
  refine q_xld E hX (i + 3) rfl (by omega) (by omega) d_Law_law_162 ?_
  refine lv_i2l (v := (xs (i + 3)).toInt64) hx hb d_Law_law_163 rfl ?_
  refine lv_ldc2 (v := 4294967295) hx hb E.2.2.2.1 (E.2.2.2.2.1 _ w_1252) d_Law_law_164 ?_
  refine lv_land hx hb d_Law_law_167 ?_
  refine lv_lor hx hb d_Law_law_168 ?_
  refine lv_aload_n hx hb d_Law_law_169 rfl (lv_at hl 1 rfl) ?_
  refine q_cSH (rest := []) E hw0 (H_feed l g s hxs b pn tn wn mr mq hb0 (xs (i + 1)) ((((xs (i + 2)).toInt64) <<< ((nI 32).toInt64 &&& 63)) ||| (((xs (i + 3)).toInt64) &&& 4294967295)) hno) w_390 w_0 w_388 w_389 hd_Law_feed rfl ⟨by decide, by decide⟩ hG hF hl.1 rfl (Nat.le_of_ble_eq_true rfl) d_Law_law_170 hc (qi (fun r5 H1 locs hq hF => ?_))
  obtain ⟨hq, hfr⟩ := hq
  have hX := hX.kept (hfr sb (Or.inl (Nat.lt_of_lt_of_le hsb hb0)))
  have hM := hM.on (fun q h1 h2 => hfr q (Or.inr ⟨h1, h2⟩))
  refine lv_istore (lv' := [(5, .int r5), (4, .int (nI i)), (3, .ref (b + 510)), (2, .ref (b + 501)), (1, .ref b), (0, .ref sb)]) hx hb d_Law_law_173 hl (by decide) rfl (fun ls hl => ?_)
  refine lv_aload_n hx hb d_Law_law_175 rfl (lv_at hl 3 rfl) ?_
  refine lv_aload_n hx hb d_Law_law_176 rfl (lv_at hl 5 rfl) ?_
  refine lv_iload hx hb d_Law_law_177 (lv_at hl 1 rfl) ?_
  refine lv_iconst (v := nI 1) hx hb d_Law_law_179 (by decide) ?_
  refine lv_iadd hx hb d_Law_law_180 ?_
  refine lv_topi (fun t9 e9 => ?_)
  obtain rfl : t9 = nI (i + 1) := e9.trans (nI_add _ _)
  refine q_xld E hX (i + 1) rfl (by omega) (by omega) d_Law_law_181 ?_
  refine lv_aload_n hx hb d_Law_law_182 rfl (lv_at hl 5 rfl) ?_
  refine lv_iload hx hb d_Law_law_183 (lv_at hl 1 rfl) ?_
  refine lv_iconst (v := nI 2) hx hb d_Law_law_185 (by decide) ?_
  refine lv_iadd hx hb d_Law_law_186 ?_
  refine lv_topi (fun t9 e9 => ?_)
  obtain rfl : t9 = nI (i + 2) := e9.trans (nI_add _ _)
  refine q_xld E hX (i + 2) rfl (by omega) (by omega) d_Law_law_187 ?_
  refine lv_i2l (v := (xs (i + 2)).toInt64) hx hb d_Law_law_188 rfl ?_
  refine lv_bipush (v := nI 32) hx hb d_Law_law_189 (by decide) ?_
  refine lv_lshl (v := ((xs (i + 2)).toInt64) <<< ((nI 32).toInt64 &&& 63)) hx hb d_Law_law_191 rfl ?_
  refine lv_aload_n hx hb d_Law_law_192 rfl (lv_at hl 5 rfl) ?_
  refine lv_iload hx hb d_Law_law_193 (lv_at hl 1 rfl) ?_
  refine lv_iconst (v := nI 3) hx hb d_Law_law_195 (by decide) ?_
  refine lv_iadd hx hb d_Law_law_196 ?_
  refine lv_topi (fun t9 e9 => ?_)
  obtain rfl : t9 = nI (i + 3) := e9.trans (nI_add _ _)
  refine q_xld E hX (i + 3) rfl (by omega) (by omega) d_Law_law_197 ?_
  refine lv_i2l (v := (xs (i + 3)).toInt64) hx hb d_Law_law_198 rfl ?_
  refine lv_ldc2 (v := 4294967295) hx hb E.2.2.2.1 (E.2.2.2.2.1 _ w_1252) d_Law_law_199 ?_
  refine lv_land hx hb d_Law_law_202 ?_
  refine lv_lor hx hb d_Law_law_203 ?_
  obtain ⟨w9, n9, hob⟩ := hM.ob
  refine q_cV (rest := []) E ((G_Model_feed l g (nM (b + 501)) (b + 501) th pn tn wm (xs (i + 1)) ((((xs (i + 2)).toInt64) <<< ((nI 32).toInt64 &&& 63)) ||| (((xs (i + 3)).toInt64) &&& 4294967295))).frI (nM_up hb0)) w_1052 w_15 w_1049 w_1050 w_1051 hd_Model_feed rfl ⟨by decide, by decide⟩ (OB.recv E.2.2.2.2.2 (by rfl) hob) hM hF hl.1 rfl (Nat.le_of_ble_eq_true rfl) d_Law_law_204 hc (qi (fun r6 H2 locs hq6 hF => ?_))
  obtain ⟨hq6, hfr6⟩ := hq6
  have hX := hX.kept (hfr6.2 sb hX.lt (nM_lt hb0 hsb))
  clear hob hM
  rcases hq with ⟨hok, ⟨k9, e9, hf9, rfl, hA, hG⟩ | ⟨hf9, rfl, hG⟩⟩ | ⟨hok, rfl, hG⟩
  · skip
    have h69 : r6 = nI (tn + k9) ∧ MP g (nM (b + 501)) H2 (b + 501) 0 pn (tn + k9) wm := by
      rcases hq6 with ⟨-, ⟨k8, e8, f8, h1, h2⟩ | ⟨h, -⟩⟩ | ⟨h, -⟩
      · exact (by obtain rfl := eq16 (e8.symm.trans e9) (Nat.le_trans (Nat.le_add_left _ _) f8) (Nat.le_trans (Nat.le_add_left _ _) hf9); exact ⟨h1, h2⟩)
      · exact absurd (by rw [e9, nI_add]; exact nI_le hf9 (by decide)) h
      · exact absurd hok h
    obtain ⟨h69, hM⟩ := h69
    subst h69
    refine lv_istore (lv' := [(6, .int (nI (tn + k9))), (5, .int (nI 0)), (4, .int (nI i)), (3, .ref (b + 510)), (2, .ref (b + 501)), (1, .ref b), (0, .ref sb)]) hx hb d_Law_law_207 hl (by decide) rfl (fun ls hl => ?_)
    refine lv_goto (tgt := 1236) hx hb d_Law_law_209 (by decide) ?_
    have hl : lv_has ls 8 [(4, .int (nI i)), (3, .ref (b + 510)), (2, .ref (b + 501)), (1, .ref b), (0, .ref sb)] := lv_sub hl [2, 3, 4, 5, 6] rfl
    exact hN _ _ ls _ _ _ _ _ (hG.frq hb0 hfr6) hM hX hF hl
  · skip
    have hM : MP g (nM (b + 501)) H2 (b + 501) (nI 2) pn tn wm := by
      rcases hq6 with ⟨-, ⟨k8, e8, f8, -, -⟩ | ⟨-, h⟩⟩ | ⟨h, -⟩
      · exact absurd (by rw [e8, nI_add]; exact nI_le f8 (by decide)) hf9
      · exact h
      · exact absurd hok h
    refine lv_istore (lv' := [(6, .int r6), (5, .int (nI 2)), (4, .int (nI i)), (3, .ref (b + 510)), (2, .ref (b + 501)), (1, .ref b), (0, .ref sb)]) hx hb d_Law_law_207 hl (by decide) rfl (fun ls hl => ?_)
    refine lv_goto (tgt := 1236) hx hb d_Law_law_209 (by decide) ?_
    have hl : lv_has ls 8 [(4, .int (nI i)), (3, .ref (b + 510)), (2, .ref (b + 501)), (1, .ref b), (0, .ref sb)] := lv_sub hl [2, 3, 4, 5, 6] rfl
    exact hN _ _ ls _ _ _ _ _ (hG.frq hb0 hfr6) hM hX hF hl
  · skip
    have hM : MP g (nM (b + 501)) H2 (b + 501) 1 pn tn wm := by
      rcases hq6 with ⟨h, -⟩ | ⟨-, h⟩
      · exact absurd h hok
      · exact h
    refine lv_istore (lv' := [(6, .int r6), (5, .int (nI 1)), (4, .int (nI i)), (3, .ref (b + 510)), (2, .ref (b + 501)), (1, .ref b), (0, .ref sb)]) hx hb d_Law_law_207 hl (by decide) rfl (fun ls hl => ?_)
    refine lv_goto (tgt := 1236) hx hb d_Law_law_209 (by decide) ?_
    have hl : lv_has ls 8 [(4, .int (nI i)), (3, .ref (b + 510)), (2, .ref (b + 501)), (1, .ref b), (0, .ref sb)] := lv_sub hl [2, 3, 4, 5, 6] rfl
    exact hN _ _ ls _ _ _ _ _ (hG.frq hb0 hfr6) hM hX hF hl
set_option maxHeartbeats 4000000 in
set_option maxRecDepth 100000 in
theorem k_number {p : Program} {l : Launch} {e : Env} {s : State} {m : MethodId} {below : List Frame} {meth : Method} {c : Code} {g : WG} {sb L : Nat} {xs : Nat → Int32} {b : Nat} {mr mq : Int64} {H : Heap} {locs : List Loc} {ls : Array Slot} {th : Int32} {pn tn wn wm i cells slots : Nat} (E : EV p m c code 8 s #[Value.ref sb] "KateDeskLaw" g) (hr : meth.sig.returnType = ret) (hlk : meth.locks = false) (hb0 : s.heap.size ≤ b) (hsb : sb < s.heap.size) (hxs : XS l s) (hL : L ≤ 3072) (hi : i + 6 ≤ L) (hc : cells + 1 ≤ room_1.cells ∧ slots + 6 ≤ room_1.slots) (hN : LNX p l e s m below meth c g sb L xs b mr mq i (cells + 1) (slots + 6)) (hG : LG g s H b pn tn wn mr mq) (hM : MP g (nM (b + 501)) H (b + 501) th pn tn wm) (hX : va_X sb L xs s H) (hF : ∀ q ∈ locs, HXA s q.base) (hl : lv_has ls 8 [(4, .int (nI i)), (3, .ref (b + 510)), (2, .ref (b + 501)), (1, .ref b), (0, .ref sb)]) : W p l e room_1 s m #[Value.ref sb] below meth c H locs cells slots (lw_Z below #[Value.ref sb] s) (F0 m 212 ls []) := by
  have hx := E.1
  have hb := E.2.1
  have hK := E.2.2.2.2.2
  have hw0 := State.WarmedH.refl s
  have hbd := hM.2.2.2.2.1
  refine lv_aload_n hx hb d_Law_law_212 rfl (lv_at hl 3 rfl) ?_
  refine lv_aload_n hx hb d_Law_law_213 rfl (lv_at hl 4 rfl) ?_
  refine lv_iload hx hb d_Law_law_214 (lv_at hl 0 rfl) ?_
  refine lv_iconst (v := nI 1) hx hb d_Law_law_216 (by decide) ?_
  refine lv_iadd hx hb d_Law_law_217 ?_
  refine lv_topi (fun t9 e9 => ?_)
  obtain rfl : t9 = nI (i + 1) := e9.trans (nI_add _ _)
  refine q_xld E hX (i + 1) rfl (by omega) (by omega) d_Law_law_218 ?_
  refine lv_aload_n hx hb d_Law_law_219 rfl (lv_at hl 1 rfl) ?_
  refine q_cSH (rest := []) E hw0 (H_number l g s hxs b pn tn wn mr mq hb0 (xs (i + 1))) w_487 w_0 w_485 w_486 hd_Law_number rfl ⟨by decide, by decide⟩ hG hF hl.1 rfl (Nat.le_of_ble_eq_true rfl) d_Law_law_220 hc (qi (fun r5 H1 locs hq hF => ?_))
  obtain ⟨hq, hfr⟩ := hq
  have hX := hX.kept (hfr sb (Or.inl (Nat.lt_of_lt_of_le hsb hb0)))
  have hM := hM.on (fun q h1 h2 => hfr q (Or.inr ⟨h1, h2⟩))
  refine lv_istore (lv' := [(5, .int r5), (4, .int (nI i)), (3, .ref (b + 510)), (2, .ref (b + 501)), (1, .ref b), (0, .ref sb)]) hx hb d_Law_law_223 hl (by decide) rfl (fun ls hl => ?_)
  refine lv_aload_n hx hb d_Law_law_225 rfl (lv_at hl 3 rfl) ?_
  refine lv_aload_n hx hb d_Law_law_226 rfl (lv_at hl 5 rfl) ?_
  refine lv_iload hx hb d_Law_law_227 (lv_at hl 1 rfl) ?_
  refine lv_iconst (v := nI 1) hx hb d_Law_law_229 (by decide) ?_
  refine lv_iadd hx hb d_Law_law_230 ?_
  refine lv_topi (fun t9 e9 => ?_)
  obtain rfl : t9 = nI (i + 1) := e9.trans (nI_add _ _)
  refine q_xld E hX (i + 1) rfl (by omega) (by omega) d_Law_law_231 ?_
  obtain ⟨w9, n9, hob⟩ := hM.ob
  refine q_cV (rest := []) E ((G_Model_number l g (nM (b + 501)) (b + 501) th pn tn wm (xs (i + 1))).frI (nM_up hb0)) w_1061 w_15 w_1058 w_1059 w_1060 hd_Model_number rfl ⟨by decide, by decide⟩ (OB.recv E.2.2.2.2.2 (by rfl) hob) hM hF hl.1 rfl (Nat.le_of_ble_eq_true rfl) d_Law_law_232 hc (qi (fun r6 H2 locs hq6 hF => ?_))
  obtain ⟨hq6, hfr6⟩ := hq6
  have hX := hX.kept (hfr6.2 sb hX.lt (nM_lt hb0 hsb))
  clear hob hM
  rcases hq with ⟨hok, rfl, hG⟩ | ⟨hok, rfl, hG⟩
  · skip
    have hM : MP g (nM (b + 501)) H2 (b + 501) 0 pn 0 wm := by
      rcases hq6 with ⟨-, h⟩ | ⟨h, -⟩
      · exact h
      · exact absurd hok h
    refine lv_istore (lv' := [(6, .int r6), (5, .int (nI 0)), (4, .int (nI i)), (3, .ref (b + 510)), (2, .ref (b + 501)), (1, .ref b), (0, .ref sb)]) hx hb d_Law_law_235 hl (by decide) rfl (fun ls hl => ?_)
    refine lv_goto (tgt := 1236) hx hb d_Law_law_237 (by decide) ?_
    have hl : lv_has ls 8 [(4, .int (nI i)), (3, .ref (b + 510)), (2, .ref (b + 501)), (1, .ref b), (0, .ref sb)] := lv_sub hl [2, 3, 4, 5, 6] rfl
    exact hN _ _ ls _ _ _ _ _ (hG.frq hb0 hfr6) hM hX hF hl
  · skip
    have hM : MP g (nM (b + 501)) H2 (b + 501) 1 pn tn wm := by
      rcases hq6 with ⟨h, -⟩ | ⟨-, h⟩
      · exact absurd h hok
      · exact h
    refine lv_istore (lv' := [(6, .int r6), (5, .int (nI 1)), (4, .int (nI i)), (3, .ref (b + 510)), (2, .ref (b + 501)), (1, .ref b), (0, .ref sb)]) hx hb d_Law_law_235 hl (by decide) rfl (fun ls hl => ?_)
    refine lv_goto (tgt := 1236) hx hb d_Law_law_237 (by decide) ?_
    have hl : lv_has ls 8 [(4, .int (nI i)), (3, .ref (b + 510)), (2, .ref (b + 501)), (1, .ref b), (0, .ref sb)] := lv_sub hl [2, 3, 4, 5, 6] rfl
    exact hN _ _ ls _ _ _ _ _ (hG.frq hb0 hfr6) hM hX hF hl
set_option maxHeartbeats 4000000 in
set_option maxRecDepth 100000 in
theorem k_set {p : Program} {l : Launch} {e : Env} {s : State} {m : MethodId} {below : List Frame} {meth : Method} {c : Code} {g : WG} {sb L : Nat} {xs : Nat → Int32} {b : Nat} {mr mq : Int64} {H : Heap} {locs : List Loc} {ls : Array Slot} {th : Int32} {pn tn wn wm i cells slots : Nat} (E : EV p m c code 8 s #[Value.ref sb] "KateDeskLaw" g) (hr : meth.sig.returnType = ret) (hlk : meth.locks = false) (hb0 : s.heap.size ≤ b) (hsb : sb < s.heap.size) (hxs : XS l s) (hL : L ≤ 3072) (hi : i + 6 ≤ L) (hc : cells + 1 ≤ room_1.cells ∧ slots + 6 ≤ room_1.slots) (hN : LNX p l e s m below meth c g sb L xs b mr mq i (cells + 1) (slots + 6)) (hG : LG g s H b pn tn wn mr mq) (hM : MP g (nM (b + 501)) H (b + 501) th pn tn wm) (hX : va_X sb L xs s H) (hF : ∀ q ∈ locs, HXA s q.base) (hl : lv_has ls 8 [(4, .int (nI i)), (3, .ref (b + 510)), (2, .ref (b + 501)), (1, .ref b), (0, .ref sb)]) : W p l e room_1 s m #[Value.ref sb] below meth c H locs cells slots (lw_Z below #[Value.ref sb] s) (F0 m 240 ls []) := by
  have hx := E.1
  have hb := E.2.1
  have hK := E.2.2.2.2.2
  have hw0 := State.WarmedH.refl s
  have hbd := hM.2.2.2.2.1
  refine lv_aload_n hx hb d_Law_law_240 rfl (lv_at hl 3 rfl) ?_
  refine lv_aload_n hx hb d_Law_law_241 rfl (lv_at hl 4 rfl) ?_
  refine lv_iload hx hb d_Law_law_242 (lv_at hl 0 rfl) ?_
  refine lv_iconst (v := nI 1) hx hb d_Law_law_244 (by decide) ?_
  refine lv_iadd hx hb d_Law_law_245 ?_
  refine lv_topi (fun t9 e9 => ?_)
  obtain rfl : t9 = nI (i + 1) := e9.trans (nI_add _ _)
  refine q_xld E hX (i + 1) rfl (by omega) (by omega) d_Law_law_246 ?_
  refine lv_aload_n hx hb d_Law_law_247 rfl (lv_at hl 4 rfl) ?_
  refine lv_iload hx hb d_Law_law_248 (lv_at hl 0 rfl) ?_
  refine lv_iconst (v := nI 2) hx hb d_Law_law_250 (by decide) ?_
  refine lv_iadd hx hb d_Law_law_251 ?_
  refine lv_topi (fun t9 e9 => ?_)
  obtain rfl : t9 = nI (i + 2) := e9.trans (nI_add _ _)
  refine q_xld E hX (i + 2) rfl (by omega) (by omega) d_Law_law_252 ?_
  refine lv_i2l (v := (xs (i + 2)).toInt64) hx hb d_Law_law_253 rfl ?_
  refine lv_bipush (v := nI 32) hx hb d_Law_law_254 (by decide) ?_
  refine lv_lshl (v := ((xs (i + 2)).toInt64) <<< ((nI 32).toInt64 &&& 63)) hx hb d_Law_law_256 rfl ?_
  refine lv_aload_n hx hb d_Law_law_257 rfl (lv_at hl 4 rfl) ?_
  refine lv_iload hx hb d_Law_law_258 (lv_at hl 0 rfl) ?_
  refine lv_iconst (v := nI 3) hx hb d_Law_law_260 (by decide) ?_
  refine lv_iadd hx hb d_Law_law_261 ?_
  refine lv_topi (fun t9 e9 => ?_)
  obtain rfl : t9 = nI (i + 3) := e9.trans (nI_add _ _)
  refine q_xld E hX (i + 3) rfl (by omega) (by omega) d_Law_law_262 ?_
  refine lv_i2l (v := (xs (i + 3)).toInt64) hx hb d_Law_law_263 rfl ?_
  refine lv_ldc2 (v := 4294967295) hx hb E.2.2.2.1 (E.2.2.2.2.1 _ w_1252) d_Law_law_264 ?_
  refine lv_land hx hb d_Law_law_267 ?_
  refine lv_lor hx hb d_Law_law_268 ?_
  refine q_cSH (rest := []) E hw0 (H_set l g s hxs b pn tn wn mr mq hb0 (xs (i + 1)) ((((xs (i + 2)).toInt64) <<< ((nI 32).toInt64 &&& 63)) ||| (((xs (i + 3)).toInt64) &&& 4294967295))) w_515 w_0 w_513 w_514 hd_Law_set rfl ⟨by decide, by decide⟩ hG hF hl.1 rfl (Nat.le_of_ble_eq_true rfl) d_Law_law_269 hc (qi (fun r5 H1 locs hq hF => ?_))
  obtain ⟨hq, hfr⟩ := hq
  have hX := hX.kept (hfr sb (Or.inl (Nat.lt_of_lt_of_le hsb hb0)))
  have hM := hM.on (fun q h1 h2 => hfr q (Or.inr ⟨h1, h2⟩))
  refine lv_istore (lv' := [(5, .int r5), (4, .int (nI i)), (3, .ref (b + 510)), (2, .ref (b + 501)), (1, .ref b), (0, .ref sb)]) hx hb d_Law_law_272 hl (by decide) rfl (fun ls hl => ?_)
  refine lv_aload_n hx hb d_Law_law_274 rfl (lv_at hl 3 rfl) ?_
  refine lv_aload_n hx hb d_Law_law_275 rfl (lv_at hl 5 rfl) ?_
  refine lv_iload hx hb d_Law_law_276 (lv_at hl 1 rfl) ?_
  refine lv_iconst (v := nI 1) hx hb d_Law_law_278 (by decide) ?_
  refine lv_iadd hx hb d_Law_law_279 ?_
  refine lv_topi (fun t9 e9 => ?_)
  obtain rfl : t9 = nI (i + 1) := e9.trans (nI_add _ _)
  refine q_xld E hX (i + 1) rfl (by omega) (by omega) d_Law_law_280 ?_
  refine lv_aload_n hx hb d_Law_law_281 rfl (lv_at hl 5 rfl) ?_
  refine lv_iload hx hb d_Law_law_282 (lv_at hl 1 rfl) ?_
  refine lv_iconst (v := nI 2) hx hb d_Law_law_284 (by decide) ?_
  refine lv_iadd hx hb d_Law_law_285 ?_
  refine lv_topi (fun t9 e9 => ?_)
  obtain rfl : t9 = nI (i + 2) := e9.trans (nI_add _ _)
  refine q_xld E hX (i + 2) rfl (by omega) (by omega) d_Law_law_286 ?_
  refine lv_i2l (v := (xs (i + 2)).toInt64) hx hb d_Law_law_287 rfl ?_
  refine lv_bipush (v := nI 32) hx hb d_Law_law_288 (by decide) ?_
  refine lv_lshl (v := ((xs (i + 2)).toInt64) <<< ((nI 32).toInt64 &&& 63)) hx hb d_Law_law_290 rfl ?_
  refine lv_aload_n hx hb d_Law_law_291 rfl (lv_at hl 5 rfl) ?_
  refine lv_iload hx hb d_Law_law_292 (lv_at hl 1 rfl) ?_
  refine lv_iconst (v := nI 3) hx hb d_Law_law_294 (by decide) ?_
  refine lv_iadd hx hb d_Law_law_295 ?_
  refine lv_topi (fun t9 e9 => ?_)
  obtain rfl : t9 = nI (i + 3) := e9.trans (nI_add _ _)
  refine q_xld E hX (i + 3) rfl (by omega) (by omega) d_Law_law_296 ?_
  refine lv_i2l (v := (xs (i + 3)).toInt64) hx hb d_Law_law_297 rfl ?_
  refine lv_ldc2 (v := 4294967295) hx hb E.2.2.2.1 (E.2.2.2.2.1 _ w_1252) d_Law_law_298 ?_
  refine lv_land hx hb d_Law_law_301 ?_
  refine lv_lor hx hb d_Law_law_302 ?_
  obtain ⟨w9, n9, hob⟩ := hM.ob
  refine q_cV (rest := []) E ((G_Model_set l g (nM (b + 501)) (b + 501) th pn tn wm (xs (i + 1)) ((((xs (i + 2)).toInt64) <<< ((nI 32).toInt64 &&& 63)) ||| (((xs (i + 3)).toInt64) &&& 4294967295))).frV (nM_up hb0)) w_1080 w_15 w_1077 w_1078 w_1079 hd_Model_set rfl ⟨by decide, by decide⟩ (OB.recv E.2.2.2.2.2 (by rfl) hob) hM hF hl.1 rfl (Nat.le_of_ble_eq_true rfl) d_Law_law_303 hc (qv (fun H2 locs hq6 hF => ?_))
  obtain ⟨hq6, hfr6⟩ := hq6
  have hX := hX.kept (hfr6.2 sb hX.lt (nM_lt hb0 hsb))
  clear hob hM
  rcases hq with ⟨hok, rfl, hG⟩ | ⟨hok, rfl, hG⟩
  · skip
    have hM : MP g (nM (b + 501)) H2 (b + 501) 0 pn tn wm := by
      rcases hq6 with ⟨-, h⟩ | ⟨h, -⟩
      · exact h
      · exact absurd hok h
    refine lv_goto (tgt := 1236) hx hb d_Law_law_306 (by decide) ?_
    have hl : lv_has ls 8 [(4, .int (nI i)), (3, .ref (b + 510)), (2, .ref (b + 501)), (1, .ref b), (0, .ref sb)] := lv_sub hl [1, 2, 3, 4, 5] rfl
    exact hN _ _ ls _ _ _ _ _ (hG.frq hb0 hfr6) hM hX hF hl
  · skip
    have hM : MP g (nM (b + 501)) H2 (b + 501) 1 pn tn wm := by
      rcases hq6 with ⟨h, -⟩ | ⟨-, h⟩
      · exact absurd h hok
      · exact h
    refine lv_goto (tgt := 1236) hx hb d_Law_law_306 (by decide) ?_
    have hl : lv_has ls 8 [(4, .int (nI i)), (3, .ref (b + 510)), (2, .ref (b + 501)), (1, .ref b), (0, .ref sb)] := lv_sub hl [1, 2, 3, 4, 5] rfl
    exact hN _ _ ls _ _ _ _ _ (hG.frq hb0 hfr6) hM hX hF hl
set_option maxHeartbeats 4000000 in
set_option maxRecDepth 100000 in
theorem k_word {p : Program} {l : Launch} {e : Env} {s : State} {m : MethodId} {below : List Frame} {meth : Method} {c : Code} {g : WG} {sb L : Nat} {xs : Nat → Int32} {b : Nat} {mr mq : Int64} {H : Heap} {locs : List Loc} {ls : Array Slot} {th : Int32} {pn tn wn wm i cells slots : Nat} (E : EV p m c code 8 s #[Value.ref sb] "KateDeskLaw" g) (hr : meth.sig.returnType = ret) (hlk : meth.locks = false) (hb0 : s.heap.size ≤ b) (hsb : sb < s.heap.size) (hxs : XS l s) (hL : L ≤ 3072) (hi : i + 6 ≤ L) (hc : cells + 1 ≤ room_1.cells ∧ slots + 6 ≤ room_1.slots) (hN : LNX p l e s m below meth c g sb L xs b mr mq i (cells + 1) (slots + 6)) (hG : LG g s H b pn tn wn mr mq) (hM : MP g (nM (b + 501)) H (b + 501) th pn tn wm) (hX : va_X sb L xs s H) (hF : ∀ q ∈ locs, HXA s q.base) (hl : lv_has ls 8 [(4, .int (nI i)), (3, .ref (b + 510)), (2, .ref (b + 501)), (1, .ref b), (0, .ref sb)]) : W p l e room_1 s m #[Value.ref sb] below meth c H locs cells slots (lw_Z below #[Value.ref sb] s) (F0 m 309 ls []) := by
  have hx := E.1
  have hb := E.2.1
  have hK := E.2.2.2.2.2
  have hw0 := State.WarmedH.refl s
  have hbd := hM.2.2.2.2.1
  refine lv_aload_n hx hb d_Law_law_309 rfl (lv_at hl 3 rfl) ?_
  refine lv_aload_n hx hb d_Law_law_310 rfl (lv_at hl 4 rfl) ?_
  refine lv_iload hx hb d_Law_law_311 (lv_at hl 0 rfl) ?_
  refine lv_iconst (v := nI 1) hx hb d_Law_law_313 (by decide) ?_
  refine lv_iadd hx hb d_Law_law_314 ?_
  refine lv_topi (fun t9 e9 => ?_)
  obtain rfl : t9 = nI (i + 1) := e9.trans (nI_add _ _)
  refine q_xld E hX (i + 1) rfl (by omega) (by omega) d_Law_law_315 ?_
  refine lv_aload_n hx hb d_Law_law_316 rfl (lv_at hl 4 rfl) ?_
  refine lv_iload hx hb d_Law_law_317 (lv_at hl 0 rfl) ?_
  refine lv_iconst (v := nI 2) hx hb d_Law_law_319 (by decide) ?_
  refine lv_iadd hx hb d_Law_law_320 ?_
  refine lv_topi (fun t9 e9 => ?_)
  obtain rfl : t9 = nI (i + 2) := e9.trans (nI_add _ _)
  refine q_xld E hX (i + 2) rfl (by omega) (by omega) d_Law_law_321 ?_
  refine lv_aload_n hx hb d_Law_law_322 rfl (lv_at hl 1 rfl) ?_
  refine q_cSH (rest := []) E hw0 (H_word l g s hxs b pn tn wn mr mq hb0 (xs (i + 1)) (xs (i + 2))) w_527 w_0 w_525 w_526 hd_Law_word rfl ⟨by decide, by decide⟩ hG hF hl.1 rfl (Nat.le_of_ble_eq_true rfl) d_Law_law_323 hc (qi (fun r5 H1 locs hq hF => ?_))
  obtain ⟨hq, hfr⟩ := hq
  have hX := hX.kept (hfr sb (Or.inl (Nat.lt_of_lt_of_le hsb hb0)))
  have hM := hM.on (fun q h1 h2 => hfr q (Or.inr ⟨h1, h2⟩))
  refine lv_istore (lv' := [(5, .int r5), (4, .int (nI i)), (3, .ref (b + 510)), (2, .ref (b + 501)), (1, .ref b), (0, .ref sb)]) hx hb d_Law_law_326 hl (by decide) rfl (fun ls hl => ?_)
  refine lv_aload_n hx hb d_Law_law_328 rfl (lv_at hl 3 rfl) ?_
  refine lv_aload_n hx hb d_Law_law_329 rfl (lv_at hl 5 rfl) ?_
  refine lv_iload hx hb d_Law_law_330 (lv_at hl 1 rfl) ?_
  refine lv_iconst (v := nI 1) hx hb d_Law_law_332 (by decide) ?_
  refine lv_iadd hx hb d_Law_law_333 ?_
  refine lv_topi (fun t9 e9 => ?_)
  obtain rfl : t9 = nI (i + 1) := e9.trans (nI_add _ _)
  refine q_xld E hX (i + 1) rfl (by omega) (by omega) d_Law_law_334 ?_
  refine lv_aload_n hx hb d_Law_law_335 rfl (lv_at hl 5 rfl) ?_
  refine lv_iload hx hb d_Law_law_336 (lv_at hl 1 rfl) ?_
  refine lv_iconst (v := nI 2) hx hb d_Law_law_338 (by decide) ?_
  refine lv_iadd hx hb d_Law_law_339 ?_
  refine lv_topi (fun t9 e9 => ?_)
  obtain rfl : t9 = nI (i + 2) := e9.trans (nI_add _ _)
  refine q_xld E hX (i + 2) rfl (by omega) (by omega) d_Law_law_340 ?_
  obtain ⟨w9, n9, hob⟩ := hM.ob
  refine q_cV (rest := []) E ((G_Model_word l g (nM (b + 501)) (b + 501) th pn tn wm (xs (i + 1)) (xs (i + 2))).frL (nM_up hb0)) w_1088 w_15 w_1085 w_1086 w_1087 hd_Model_word rfl ⟨by decide, by decide⟩ (OB.recv E.2.2.2.2.2 (by rfl) hob) hM hF hl.1 rfl (Nat.le_of_ble_eq_true rfl) d_Law_law_341 hc (ql (fun r6 H2 locs hq6 hF => ?_))
  obtain ⟨hq6, hfr6⟩ := hq6
  have hX := hX.kept (hfr6.2 sb hX.lt (nM_lt hb0 hsb))
  clear hob hM
  rcases hq with ⟨hok, rfl, hG⟩ | ⟨hok, rfl, hG⟩
  · skip
    have hM : MP g (nM (b + 501)) H2 (b + 501) 0 pn tn wm := by
      rcases hq6 with ⟨-, h⟩ | ⟨h, -⟩
      · exact h
      · exact absurd hok h
    refine lv_lstore (lv' := [(6, .long r6), (5, .int (nI 0)), (4, .int (nI i)), (3, .ref (b + 510)), (2, .ref (b + 501)), (1, .ref b), (0, .ref sb)]) hx hb d_Law_law_344 hl (by decide) rfl (fun ls hl => ?_)
    refine lv_goto (tgt := 1236) hx hb d_Law_law_346 (by decide) ?_
    have hl : lv_has ls 8 [(4, .int (nI i)), (3, .ref (b + 510)), (2, .ref (b + 501)), (1, .ref b), (0, .ref sb)] := lv_sub hl [2, 3, 4, 5, 6] rfl
    exact hN _ _ ls _ _ _ _ _ (hG.frq hb0 hfr6) hM hX hF hl
  · skip
    have hM : MP g (nM (b + 501)) H2 (b + 501) 1 pn tn wm := by
      rcases hq6 with ⟨h, -⟩ | ⟨-, h⟩
      · exact absurd h hok
      · exact h
    refine lv_lstore (lv' := [(6, .long r6), (5, .int (nI 1)), (4, .int (nI i)), (3, .ref (b + 510)), (2, .ref (b + 501)), (1, .ref b), (0, .ref sb)]) hx hb d_Law_law_344 hl (by decide) rfl (fun ls hl => ?_)
    refine lv_goto (tgt := 1236) hx hb d_Law_law_346 (by decide) ?_
    have hl : lv_has ls 8 [(4, .int (nI i)), (3, .ref (b + 510)), (2, .ref (b + 501)), (1, .ref b), (0, .ref sb)] := lv_sub hl [2, 3, 4, 5, 6] rfl
    exact hN _ _ ls _ _ _ _ _ (hG.frq hb0 hfr6) hM hX hF hl
set_option maxHeartbeats 4000000 in
set_option maxRecDepth 100000 in
theorem k_reckon {p : Program} {l : Launch} {e : Env} {s : State} {m : MethodId} {below : List Frame} {meth : Method} {c : Code} {g : WG} {sb L : Nat} {xs : Nat → Int32} {b : Nat} {mr mq : Int64} {H : Heap} {locs : List Loc} {ls : Array Slot} {th : Int32} {pn tn wn wm i cells slots : Nat} (E : EV p m c code 8 s #[Value.ref sb] "KateDeskLaw" g) (hr : meth.sig.returnType = ret) (hlk : meth.locks = false) (hb0 : s.heap.size ≤ b) (hsb : sb < s.heap.size) (hxs : XS l s) (hno : va_Nc "java/lang/ArithmeticException" "java/lang/IllegalArgumentException" s) (hL : L ≤ 3072) (hi : i + 6 ≤ L) (hc : cells + 1 ≤ room_1.cells ∧ slots + 6 ≤ room_1.slots) (hN : LNX p l e s m below meth c g sb L xs b mr mq i (cells + 1) (slots + 6)) (hG : LG g s H b pn tn wn mr mq) (hM : MP g (nM (b + 501)) H (b + 501) th pn tn wm) (hX : va_X sb L xs s H) (hF : ∀ q ∈ locs, HXA s q.base) (hl : lv_has ls 8 [(4, .int (nI i)), (3, .ref (b + 510)), (2, .ref (b + 501)), (1, .ref b), (0, .ref sb)]) : W p l e room_1 s m #[Value.ref sb] below meth c H locs cells slots (lw_Z below #[Value.ref sb] s) (F0 m 349 ls []) := by
  have hx := E.1
  have hb := E.2.1
  have hK := E.2.2.2.2.2
  have hw0 := State.WarmedH.refl s
  have hbd := hM.2.2.2.2.1
  refine lv_aload_n hx hb d_Law_law_349 rfl (lv_at hl 3 rfl) ?_
  refine lv_aload_n hx hb d_Law_law_350 rfl (lv_at hl 4 rfl) ?_
  refine lv_iload hx hb d_Law_law_351 (lv_at hl 0 rfl) ?_
  refine lv_iconst (v := nI 1) hx hb d_Law_law_353 (by decide) ?_
  refine lv_iadd hx hb d_Law_law_354 ?_
  refine lv_topi (fun t9 e9 => ?_)
  obtain rfl : t9 = nI (i + 1) := e9.trans (nI_add _ _)
  refine q_xld E hX (i + 1) rfl (by omega) (by omega) d_Law_law_355 ?_
  refine lv_aload_n hx hb d_Law_law_356 rfl (lv_at hl 4 rfl) ?_
  refine lv_iload hx hb d_Law_law_357 (lv_at hl 0 rfl) ?_
  refine lv_iconst (v := nI 2) hx hb d_Law_law_359 (by decide) ?_
  refine lv_iadd hx hb d_Law_law_360 ?_
  refine lv_topi (fun t9 e9 => ?_)
  obtain rfl : t9 = nI (i + 2) := e9.trans (nI_add _ _)
  refine q_xld E hX (i + 2) rfl (by omega) (by omega) d_Law_law_361 ?_
  refine lv_aload_n hx hb d_Law_law_362 rfl (lv_at hl 4 rfl) ?_
  refine lv_iload hx hb d_Law_law_363 (lv_at hl 0 rfl) ?_
  refine lv_iconst (v := nI 3) hx hb d_Law_law_365 (by decide) ?_
  refine lv_iadd hx hb d_Law_law_366 ?_
  refine lv_topi (fun t9 e9 => ?_)
  obtain rfl : t9 = nI (i + 3) := e9.trans (nI_add _ _)
  refine q_xld E hX (i + 3) rfl (by omega) (by omega) d_Law_law_367 ?_
  refine lv_aload_n hx hb d_Law_law_368 rfl (lv_at hl 4 rfl) ?_
  refine lv_iload hx hb d_Law_law_369 (lv_at hl 0 rfl) ?_
  refine lv_iconst (v := nI 4) hx hb d_Law_law_371 (by decide) ?_
  refine lv_iadd hx hb d_Law_law_372 ?_
  refine lv_topi (fun t9 e9 => ?_)
  obtain rfl : t9 = nI (i + 4) := e9.trans (nI_add _ _)
  refine q_xld E hX (i + 4) rfl (by omega) (by omega) d_Law_law_373 ?_
  refine q_cSH (rest := []) E hw0 (H_reckon l g s hxs b pn tn wn mr mq hb0 (xs (i + 1)) (xs (i + 2)) (xs (i + 3)) (xs (i + 4)) hno) w_536 w_0 w_534 w_535 hd_Law_reckon rfl ⟨by decide, by decide⟩ hG hF hl.1 rfl (Nat.le_of_ble_eq_true rfl) d_Law_law_374 hc (qi (fun r5 H1 locs hq hF => ?_))
  obtain ⟨hq, hfr⟩ := hq
  have hX := hX.kept (hfr sb (Or.inl (Nat.lt_of_lt_of_le hsb hb0)))
  have hM := hM.on (fun q h1 h2 => hfr q (Or.inr ⟨h1, h2⟩))
  refine lv_istore (lv' := [(5, .int r5), (4, .int (nI i)), (3, .ref (b + 510)), (2, .ref (b + 501)), (1, .ref b), (0, .ref sb)]) hx hb d_Law_law_377 hl (by decide) rfl (fun ls hl => ?_)
  refine lv_aload_n hx hb d_Law_law_379 rfl (lv_at hl 3 rfl) ?_
  refine lv_aload_n hx hb d_Law_law_380 rfl (lv_at hl 5 rfl) ?_
  refine lv_iload hx hb d_Law_law_381 (lv_at hl 1 rfl) ?_
  refine lv_iconst (v := nI 1) hx hb d_Law_law_383 (by decide) ?_
  refine lv_iadd hx hb d_Law_law_384 ?_
  refine lv_topi (fun t9 e9 => ?_)
  obtain rfl : t9 = nI (i + 1) := e9.trans (nI_add _ _)
  refine q_xld E hX (i + 1) rfl (by omega) (by omega) d_Law_law_385 ?_
  refine lv_aload_n hx hb d_Law_law_386 rfl (lv_at hl 5 rfl) ?_
  refine lv_iload hx hb d_Law_law_387 (lv_at hl 1 rfl) ?_
  refine lv_iconst (v := nI 2) hx hb d_Law_law_389 (by decide) ?_
  refine lv_iadd hx hb d_Law_law_390 ?_
  refine lv_topi (fun t9 e9 => ?_)
  obtain rfl : t9 = nI (i + 2) := e9.trans (nI_add _ _)
  refine q_xld E hX (i + 2) rfl (by omega) (by omega) d_Law_law_391 ?_
  refine lv_aload_n hx hb d_Law_law_392 rfl (lv_at hl 5 rfl) ?_
  refine lv_iload hx hb d_Law_law_393 (lv_at hl 1 rfl) ?_
  refine lv_iconst (v := nI 3) hx hb d_Law_law_395 (by decide) ?_
  refine lv_iadd hx hb d_Law_law_396 ?_
  refine lv_topi (fun t9 e9 => ?_)
  obtain rfl : t9 = nI (i + 3) := e9.trans (nI_add _ _)
  refine q_xld E hX (i + 3) rfl (by omega) (by omega) d_Law_law_397 ?_
  refine lv_aload_n hx hb d_Law_law_398 rfl (lv_at hl 5 rfl) ?_
  refine lv_iload hx hb d_Law_law_399 (lv_at hl 1 rfl) ?_
  refine lv_iconst (v := nI 4) hx hb d_Law_law_401 (by decide) ?_
  refine lv_iadd hx hb d_Law_law_402 ?_
  refine lv_topi (fun t9 e9 => ?_)
  obtain rfl : t9 = nI (i + 4) := e9.trans (nI_add _ _)
  refine q_xld E hX (i + 4) rfl (by omega) (by omega) d_Law_law_403 ?_
  obtain ⟨w9, n9, hob⟩ := hM.ob
  refine q_cV (rest := []) E ((G_Model_reckon l g (nM (b + 501)) (b + 501) th pn tn wm (xs (i + 1)) (xs (i + 2)) (xs (i + 3)) (xs (i + 4))).frV (nM_up hb0)) w_1097 w_15 w_1094 w_1095 w_1096 hd_Model_reckon rfl ⟨by decide, by decide⟩ (OB.recv E.2.2.2.2.2 (by rfl) hob) hM hF hl.1 rfl (Nat.le_of_ble_eq_true rfl) d_Law_law_404 hc (qv (fun H2 locs hq6 hF => ?_))
  obtain ⟨hq6, hfr6⟩ := hq6
  have hX := hX.kept (hfr6.2 sb hX.lt (nM_lt hb0 hsb))
  clear hob hM
  rcases hq with ⟨hok, hr5, hG⟩ | ⟨hok, rfl, hG⟩
  · skip
    obtain ⟨th2, hM⟩ : ∃ th2, MP g (nM (b + 501)) H2 (b + 501) th2 pn tn wm := by
      rcases hq6 with ⟨-, h | h⟩ | ⟨h, -⟩
      · exact ⟨_, h⟩
      · exact ⟨_, h⟩
      · exact absurd hok h
    refine lv_goto (tgt := 1236) hx hb d_Law_law_407 (by decide) ?_
    have hl : lv_has ls 8 [(4, .int (nI i)), (3, .ref (b + 510)), (2, .ref (b + 501)), (1, .ref b), (0, .ref sb)] := lv_sub hl [1, 2, 3, 4, 5] rfl
    exact hN _ _ ls _ _ _ _ _ (hG.frq hb0 hfr6) hM hX hF hl
  · skip
    have hM : MP g (nM (b + 501)) H2 (b + 501) 1 pn tn wm := by
      rcases hq6 with ⟨h, -⟩ | ⟨-, h⟩
      · exact absurd h hok
      · exact h
    refine lv_goto (tgt := 1236) hx hb d_Law_law_407 (by decide) ?_
    have hl : lv_has ls 8 [(4, .int (nI i)), (3, .ref (b + 510)), (2, .ref (b + 501)), (1, .ref b), (0, .ref sb)] := lv_sub hl [1, 2, 3, 4, 5] rfl
    exact hN _ _ ls _ _ _ _ _ (hG.frq hb0 hfr6) hM hX hF hl
set_option maxHeartbeats 4000000 in
set_option maxRecDepth 100000 in
theorem k_power {p : Program} {l : Launch} {e : Env} {s : State} {m : MethodId} {below : List Frame} {meth : Method} {c : Code} {g : WG} {sb L : Nat} {xs : Nat → Int32} {b : Nat} {mr mq : Int64} {H : Heap} {locs : List Loc} {ls : Array Slot} {th : Int32} {pn tn wn wm i cells slots : Nat} (E : EV p m c code 8 s #[Value.ref sb] "KateDeskLaw" g) (hr : meth.sig.returnType = ret) (hlk : meth.locks = false) (hb0 : s.heap.size ≤ b) (hsb : sb < s.heap.size) (hxs : XS l s) (hL : L ≤ 3072) (hi : i + 6 ≤ L) (hc : cells + 1 ≤ room_1.cells ∧ slots + 6 ≤ room_1.slots) (hN : LNX p l e s m below meth c g sb L xs b mr mq i (cells + 1) (slots + 6)) (hG : LG g s H b pn tn wn mr mq) (hM : MP g (nM (b + 501)) H (b + 501) th pn tn wm) (hX : va_X sb L xs s H) (hF : ∀ q ∈ locs, HXA s q.base) (hl : lv_has ls 8 [(4, .int (nI i)), (3, .ref (b + 510)), (2, .ref (b + 501)), (1, .ref b), (0, .ref sb)]) : W p l e room_1 s m #[Value.ref sb] below meth c H locs cells slots (lw_Z below #[Value.ref sb] s) (F0 m 410 ls []) := by
  have hx := E.1
  have hb := E.2.1
  have hK := E.2.2.2.2.2
  have hw0 := State.WarmedH.refl s
  have hbd := hM.2.2.2.2.1
  refine lv_aload_n hx hb d_Law_law_410 rfl (lv_at hl 3 rfl) ?_
  refine lv_aload_n hx hb d_Law_law_411 rfl (lv_at hl 4 rfl) ?_
  refine lv_iload hx hb d_Law_law_412 (lv_at hl 0 rfl) ?_
  refine lv_iconst (v := nI 1) hx hb d_Law_law_414 (by decide) ?_
  refine lv_iadd hx hb d_Law_law_415 ?_
  refine lv_topi (fun t9 e9 => ?_)
  obtain rfl : t9 = nI (i + 1) := e9.trans (nI_add _ _)
  refine q_xld E hX (i + 1) rfl (by omega) (by omega) d_Law_law_416 ?_
  refine lv_aload_n hx hb d_Law_law_417 rfl (lv_at hl 4 rfl) ?_
  refine lv_iload hx hb d_Law_law_418 (lv_at hl 0 rfl) ?_
  refine lv_iconst (v := nI 2) hx hb d_Law_law_420 (by decide) ?_
  refine lv_iadd hx hb d_Law_law_421 ?_
  refine lv_topi (fun t9 e9 => ?_)
  obtain rfl : t9 = nI (i + 2) := e9.trans (nI_add _ _)
  refine q_xld E hX (i + 2) rfl (by omega) (by omega) d_Law_law_422 ?_
  refine lv_aload_n hx hb d_Law_law_423 rfl (lv_at hl 4 rfl) ?_
  refine lv_iload hx hb d_Law_law_424 (lv_at hl 0 rfl) ?_
  refine lv_iconst (v := nI 3) hx hb d_Law_law_426 (by decide) ?_
  refine lv_iadd hx hb d_Law_law_427 ?_
  refine lv_topi (fun t9 e9 => ?_)
  obtain rfl : t9 = nI (i + 3) := e9.trans (nI_add _ _)
  refine q_xld E hX (i + 3) rfl (by omega) (by omega) d_Law_law_428 ?_
  refine lv_i2l (v := (xs (i + 3)).toInt64) hx hb d_Law_law_429 rfl ?_
  refine lv_bipush (v := nI 32) hx hb d_Law_law_430 (by decide) ?_
  refine lv_lshl (v := ((xs (i + 3)).toInt64) <<< ((nI 32).toInt64 &&& 63)) hx hb d_Law_law_432 rfl ?_
  refine lv_aload_n hx hb d_Law_law_433 rfl (lv_at hl 4 rfl) ?_
  refine lv_iload hx hb d_Law_law_434 (lv_at hl 0 rfl) ?_
  refine lv_iconst (v := nI 4) hx hb d_Law_law_436 (by decide) ?_
  refine lv_iadd hx hb d_Law_law_437 ?_
  refine lv_topi (fun t9 e9 => ?_)
  obtain rfl : t9 = nI (i + 4) := e9.trans (nI_add _ _)
  refine q_xld E hX (i + 4) rfl (by omega) (by omega) d_Law_law_438 ?_
  refine lv_i2l (v := (xs (i + 4)).toInt64) hx hb d_Law_law_439 rfl ?_
  refine lv_ldc2 (v := 4294967295) hx hb E.2.2.2.1 (E.2.2.2.2.1 _ w_1252) d_Law_law_440 ?_
  refine lv_land hx hb d_Law_law_443 ?_
  refine lv_lor hx hb d_Law_law_444 ?_
  refine q_cSH (rest := []) E hw0 (H_power l g s hxs b pn tn wn mr mq hb0 (xs (i + 1)) (xs (i + 2)) ((((xs (i + 3)).toInt64) <<< ((nI 32).toInt64 &&& 63)) ||| (((xs (i + 4)).toInt64) &&& 4294967295))) w_579 w_0 w_577 w_578 hd_Law_power rfl ⟨by decide, by decide⟩ hG hF hl.1 rfl (Nat.le_of_ble_eq_true rfl) d_Law_law_445 hc (qi (fun r5 H1 locs hq hF => ?_))
  obtain ⟨hq, hfr⟩ := hq
  have hX := hX.kept (hfr sb (Or.inl (Nat.lt_of_lt_of_le hsb hb0)))
  have hM := hM.on (fun q h1 h2 => hfr q (Or.inr ⟨h1, h2⟩))
  refine lv_istore (lv' := [(5, .int r5), (4, .int (nI i)), (3, .ref (b + 510)), (2, .ref (b + 501)), (1, .ref b), (0, .ref sb)]) hx hb d_Law_law_448 hl (by decide) rfl (fun ls hl => ?_)
  refine lv_aload_n hx hb d_Law_law_450 rfl (lv_at hl 3 rfl) ?_
  refine lv_aload_n hx hb d_Law_law_451 rfl (lv_at hl 5 rfl) ?_
  refine lv_iload hx hb d_Law_law_452 (lv_at hl 1 rfl) ?_
  refine lv_iconst (v := nI 1) hx hb d_Law_law_454 (by decide) ?_
  refine lv_iadd hx hb d_Law_law_455 ?_
  refine lv_topi (fun t9 e9 => ?_)
  obtain rfl : t9 = nI (i + 1) := e9.trans (nI_add _ _)
  refine q_xld E hX (i + 1) rfl (by omega) (by omega) d_Law_law_456 ?_
  refine lv_aload_n hx hb d_Law_law_457 rfl (lv_at hl 5 rfl) ?_
  refine lv_iload hx hb d_Law_law_458 (lv_at hl 1 rfl) ?_
  refine lv_iconst (v := nI 2) hx hb d_Law_law_460 (by decide) ?_
  refine lv_iadd hx hb d_Law_law_461 ?_
  refine lv_topi (fun t9 e9 => ?_)
  obtain rfl : t9 = nI (i + 2) := e9.trans (nI_add _ _)
  refine q_xld E hX (i + 2) rfl (by omega) (by omega) d_Law_law_462 ?_
  refine lv_aload_n hx hb d_Law_law_463 rfl (lv_at hl 5 rfl) ?_
  refine lv_iload hx hb d_Law_law_464 (lv_at hl 1 rfl) ?_
  refine lv_iconst (v := nI 3) hx hb d_Law_law_466 (by decide) ?_
  refine lv_iadd hx hb d_Law_law_467 ?_
  refine lv_topi (fun t9 e9 => ?_)
  obtain rfl : t9 = nI (i + 3) := e9.trans (nI_add _ _)
  refine q_xld E hX (i + 3) rfl (by omega) (by omega) d_Law_law_468 ?_
  refine lv_i2l (v := (xs (i + 3)).toInt64) hx hb d_Law_law_469 rfl ?_
  refine lv_bipush (v := nI 32) hx hb d_Law_law_470 (by decide) ?_
  refine lv_lshl (v := ((xs (i + 3)).toInt64) <<< ((nI 32).toInt64 &&& 63)) hx hb d_Law_law_472 rfl ?_
  refine lv_aload_n hx hb d_Law_law_473 rfl (lv_at hl 5 rfl) ?_
  refine lv_iload hx hb d_Law_law_474 (lv_at hl 1 rfl) ?_
  refine lv_iconst (v := nI 4) hx hb d_Law_law_476 (by decide) ?_
  refine lv_iadd hx hb d_Law_law_477 ?_
  refine lv_topi (fun t9 e9 => ?_)
  obtain rfl : t9 = nI (i + 4) := e9.trans (nI_add _ _)
  refine q_xld E hX (i + 4) rfl (by omega) (by omega) d_Law_law_478 ?_
  refine lv_i2l (v := (xs (i + 4)).toInt64) hx hb d_Law_law_479 rfl ?_
  refine lv_ldc2 (v := 4294967295) hx hb E.2.2.2.1 (E.2.2.2.2.1 _ w_1252) d_Law_law_480 ?_
  refine lv_land hx hb d_Law_law_483 ?_
  refine lv_lor hx hb d_Law_law_484 ?_
  obtain ⟨w9, n9, hob⟩ := hM.ob
  refine q_cV (rest := []) E ((G_Model_power l g (nM (b + 501)) (b + 501) th pn tn wm (xs (i + 1)) (xs (i + 2)) ((((xs (i + 3)).toInt64) <<< ((nI 32).toInt64 &&& 63)) ||| (((xs (i + 4)).toInt64) &&& 4294967295))).frV (nM_up hb0)) w_1130 w_15 w_1127 w_1128 w_1129 hd_Model_power rfl ⟨by decide, by decide⟩ (OB.recv E.2.2.2.2.2 (by rfl) hob) hM hF hl.1 rfl (Nat.le_of_ble_eq_true rfl) d_Law_law_485 hc (qv (fun H2 locs hq6 hF => ?_))
  obtain ⟨hq6, hfr6⟩ := hq6
  have hX := hX.kept (hfr6.2 sb hX.lt (nM_lt hb0 hsb))
  clear hob hM
  rcases hq with ⟨hok, rfl, hG⟩ | ⟨hok, rfl, hG⟩
  · skip
    have hM : MP g (nM (b + 501)) H2 (b + 501) 0 pn tn wm := by
      rcases hq6 with ⟨-, h⟩ | ⟨h, -⟩
      · exact h
      · exact absurd hok h
    refine lv_goto (tgt := 1236) hx hb d_Law_law_488 (by decide) ?_
    have hl : lv_has ls 8 [(4, .int (nI i)), (3, .ref (b + 510)), (2, .ref (b + 501)), (1, .ref b), (0, .ref sb)] := lv_sub hl [1, 2, 3, 4, 5] rfl
    exact hN _ _ ls _ _ _ _ _ (hG.frq hb0 hfr6) hM hX hF hl
  · skip
    have hM : MP g (nM (b + 501)) H2 (b + 501) 1 pn tn wm := by
      rcases hq6 with ⟨h, -⟩ | ⟨-, h⟩
      · exact absurd h hok
      · exact h
    refine lv_goto (tgt := 1236) hx hb d_Law_law_488 (by decide) ?_
    have hl : lv_has ls 8 [(4, .int (nI i)), (3, .ref (b + 510)), (2, .ref (b + 501)), (1, .ref b), (0, .ref sb)] := lv_sub hl [1, 2, 3, 4, 5] rfl
    exact hN _ _ ls _ _ _ _ _ (hG.frq hb0 hfr6) hM hX hF hl
set_option maxHeartbeats 4000000 in
set_option maxRecDepth 100000 in
theorem k_unity {p : Program} {l : Launch} {e : Env} {s : State} {m : MethodId} {below : List Frame} {meth : Method} {c : Code} {g : WG} {sb L : Nat} {xs : Nat → Int32} {b : Nat} {mr mq : Int64} {H : Heap} {locs : List Loc} {ls : Array Slot} {th : Int32} {pn tn wn wm i cells slots : Nat} (E : EV p m c code 8 s #[Value.ref sb] "KateDeskLaw" g) (hr : meth.sig.returnType = ret) (hlk : meth.locks = false) (hb0 : s.heap.size ≤ b) (hsb : sb < s.heap.size) (hxs : XS l s) (hL : L ≤ 3072) (hi : i + 6 ≤ L) (hc : cells + 1 ≤ room_1.cells ∧ slots + 6 ≤ room_1.slots) (hN : LNX p l e s m below meth c g sb L xs b mr mq i (cells + 1) (slots + 6)) (hG : LG g s H b pn tn wn mr mq) (hM : MP g (nM (b + 501)) H (b + 501) th pn tn wm) (hX : va_X sb L xs s H) (hF : ∀ q ∈ locs, HXA s q.base) (hl : lv_has ls 8 [(4, .int (nI i)), (3, .ref (b + 510)), (2, .ref (b + 501)), (1, .ref b), (0, .ref sb)]) : W p l e room_1 s m #[Value.ref sb] below meth c H locs cells slots (lw_Z below #[Value.ref sb] s) (F0 m 491 ls []) := by
  have hx := E.1
  have hb := E.2.1
  have hK := E.2.2.2.2.2
  have hw0 := State.WarmedH.refl s
  have hbd := hM.2.2.2.2.1
  refine lv_aload_n hx hb d_Law_law_491 rfl (lv_at hl 3 rfl) ?_
  refine lv_aload_n hx hb d_Law_law_492 rfl (lv_at hl 4 rfl) ?_
  refine lv_iload hx hb d_Law_law_493 (lv_at hl 0 rfl) ?_
  refine lv_iconst (v := nI 1) hx hb d_Law_law_495 (by decide) ?_
  refine lv_iadd hx hb d_Law_law_496 ?_
  refine lv_topi (fun t9 e9 => ?_)
  obtain rfl : t9 = nI (i + 1) := e9.trans (nI_add _ _)
  refine q_xld E hX (i + 1) rfl (by omega) (by omega) d_Law_law_497 ?_
  refine lv_aload_n hx hb d_Law_law_498 rfl (lv_at hl 4 rfl) ?_
  refine lv_iload hx hb d_Law_law_499 (lv_at hl 0 rfl) ?_
  refine lv_iconst (v := nI 2) hx hb d_Law_law_501 (by decide) ?_
  refine lv_iadd hx hb d_Law_law_502 ?_
  refine lv_topi (fun t9 e9 => ?_)
  obtain rfl : t9 = nI (i + 2) := e9.trans (nI_add _ _)
  refine q_xld E hX (i + 2) rfl (by omega) (by omega) d_Law_law_503 ?_
  refine q_cSH (rest := []) E hw0 (H_unity l g s hxs b pn tn wn mr mq hb0 (xs (i + 1)) (xs (i + 2))) w_592 w_0 w_590 w_591 hd_Law_unity rfl ⟨by decide, by decide⟩ hG hF hl.1 rfl (Nat.le_of_ble_eq_true rfl) d_Law_law_504 hc (qi (fun r5 H1 locs hq hF => ?_))
  obtain ⟨hq, hfr⟩ := hq
  have hX := hX.kept (hfr sb (Or.inl (Nat.lt_of_lt_of_le hsb hb0)))
  have hM := hM.on (fun q h1 h2 => hfr q (Or.inr ⟨h1, h2⟩))
  refine lv_istore (lv' := [(5, .int r5), (4, .int (nI i)), (3, .ref (b + 510)), (2, .ref (b + 501)), (1, .ref b), (0, .ref sb)]) hx hb d_Law_law_507 hl (by decide) rfl (fun ls hl => ?_)
  refine lv_aload_n hx hb d_Law_law_509 rfl (lv_at hl 3 rfl) ?_
  refine lv_aload_n hx hb d_Law_law_510 rfl (lv_at hl 5 rfl) ?_
  refine lv_iload hx hb d_Law_law_511 (lv_at hl 1 rfl) ?_
  refine lv_iconst (v := nI 1) hx hb d_Law_law_513 (by decide) ?_
  refine lv_iadd hx hb d_Law_law_514 ?_
  refine lv_topi (fun t9 e9 => ?_)
  obtain rfl : t9 = nI (i + 1) := e9.trans (nI_add _ _)
  refine q_xld E hX (i + 1) rfl (by omega) (by omega) d_Law_law_515 ?_
  refine lv_aload_n hx hb d_Law_law_516 rfl (lv_at hl 5 rfl) ?_
  refine lv_iload hx hb d_Law_law_517 (lv_at hl 1 rfl) ?_
  refine lv_iconst (v := nI 2) hx hb d_Law_law_519 (by decide) ?_
  refine lv_iadd hx hb d_Law_law_520 ?_
  refine lv_topi (fun t9 e9 => ?_)
  obtain rfl : t9 = nI (i + 2) := e9.trans (nI_add _ _)
  refine q_xld E hX (i + 2) rfl (by omega) (by omega) d_Law_law_521 ?_
  obtain ⟨w9, n9, hob⟩ := hM.ob
  refine q_cV (rest := []) E ((G_Model_unity l g (nM (b + 501)) (b + 501) th pn tn wm (xs (i + 1)) (xs (i + 2))).frV (nM_up hb0)) w_1134 w_15 w_1131 w_1132 w_1133 hd_Model_unity rfl ⟨by decide, by decide⟩ (OB.recv E.2.2.2.2.2 (by rfl) hob) hM hF hl.1 rfl (Nat.le_of_ble_eq_true rfl) d_Law_law_522 hc (qv (fun H2 locs hq6 hF => ?_))
  obtain ⟨hq6, hfr6⟩ := hq6
  have hX := hX.kept (hfr6.2 sb hX.lt (nM_lt hb0 hsb))
  clear hob hM
  rcases hq with ⟨hok, rfl, hG⟩ | ⟨hok, rfl, hG⟩
  · skip
    have hM : MP g (nM (b + 501)) H2 (b + 501) 0 pn tn wm := by
      rcases hq6 with ⟨-, h⟩ | ⟨h, -⟩
      · exact h
      · exact absurd hok h
    refine lv_goto (tgt := 1236) hx hb d_Law_law_525 (by decide) ?_
    have hl : lv_has ls 8 [(4, .int (nI i)), (3, .ref (b + 510)), (2, .ref (b + 501)), (1, .ref b), (0, .ref sb)] := lv_sub hl [1, 2, 3, 4, 5] rfl
    exact hN _ _ ls _ _ _ _ _ (hG.frq hb0 hfr6) hM hX hF hl
  · skip
    have hM : MP g (nM (b + 501)) H2 (b + 501) 1 pn tn wm := by
      rcases hq6 with ⟨h, -⟩ | ⟨-, h⟩
      · exact absurd h hok
      · exact h
    refine lv_goto (tgt := 1236) hx hb d_Law_law_525 (by decide) ?_
    have hl : lv_has ls 8 [(4, .int (nI i)), (3, .ref (b + 510)), (2, .ref (b + 501)), (1, .ref b), (0, .ref sb)] := lv_sub hl [1, 2, 3, 4, 5] rfl
    exact hN _ _ ls _ _ _ _ _ (hG.frq hb0 hfr6) hM hX hF hl
set_option maxHeartbeats 4000000 in
set_option maxRecDepth 100000 in
theorem k_point {p : Program} {l : Launch} {e : Env} {s : State} {m : MethodId} {below : List Frame} {meth : Method} {c : Code} {g : WG} {sb L : Nat} {xs : Nat → Int32} {b : Nat} {mr mq : Int64} {H : Heap} {locs : List Loc} {ls : Array Slot} {th : Int32} {pn tn wn wm i cells slots : Nat} (E : EV p m c code 8 s #[Value.ref sb] "KateDeskLaw" g) (hr : meth.sig.returnType = ret) (hlk : meth.locks = false) (hb0 : s.heap.size ≤ b) (hsb : sb < s.heap.size) (hxs : XS l s) (hL : L ≤ 3072) (hi : i + 6 ≤ L) (hc : cells + 1 ≤ room_1.cells ∧ slots + 6 ≤ room_1.slots) (hN : LNX p l e s m below meth c g sb L xs b mr mq i (cells + 1) (slots + 6)) (hG : LG g s H b pn tn wn mr mq) (hM : MP g (nM (b + 501)) H (b + 501) th pn tn wm) (hX : va_X sb L xs s H) (hF : ∀ q ∈ locs, HXA s q.base) (hl : lv_has ls 8 [(4, .int (nI i)), (3, .ref (b + 510)), (2, .ref (b + 501)), (1, .ref b), (0, .ref sb)]) : W p l e room_1 s m #[Value.ref sb] below meth c H locs cells slots (lw_Z below #[Value.ref sb] s) (F0 m 528 ls []) := by
  have hx := E.1
  have hb := E.2.1
  have hK := E.2.2.2.2.2
  have hw0 := State.WarmedH.refl s
  have hbd := hM.2.2.2.2.1
  refine lv_aload_n hx hb d_Law_law_528 rfl (lv_at hl 3 rfl) ?_
  refine lv_aload_n hx hb d_Law_law_529 rfl (lv_at hl 4 rfl) ?_
  refine lv_iload hx hb d_Law_law_530 (lv_at hl 0 rfl) ?_
  refine lv_iconst (v := nI 1) hx hb d_Law_law_532 (by decide) ?_
  refine lv_iadd hx hb d_Law_law_533 ?_
  refine lv_topi (fun t9 e9 => ?_)
  obtain rfl : t9 = nI (i + 1) := e9.trans (nI_add _ _)
  refine q_xld E hX (i + 1) rfl (by omega) (by omega) d_Law_law_534 ?_
  refine lv_aload_n hx hb d_Law_law_535 rfl (lv_at hl 1 rfl) ?_
  refine q_cSH (rest := []) E hw0 (H_point l g s hxs b pn tn wn mr mq hb0 (xs (i + 1))) w_615 w_0 w_613 w_614 hd_Law_point rfl ⟨by decide, by decide⟩ hG hF hl.1 rfl (Nat.le_of_ble_eq_true rfl) d_Law_law_536 hc (qi (fun r5 H1 locs hq hF => ?_))
  obtain ⟨hq, hfr⟩ := hq
  have hX := hX.kept (hfr sb (Or.inl (Nat.lt_of_lt_of_le hsb hb0)))
  have hM := hM.on (fun q h1 h2 => hfr q (Or.inr ⟨h1, h2⟩))
  refine lv_istore (lv' := [(5, .int r5), (4, .int (nI i)), (3, .ref (b + 510)), (2, .ref (b + 501)), (1, .ref b), (0, .ref sb)]) hx hb d_Law_law_539 hl (by decide) rfl (fun ls hl => ?_)
  refine lv_aload_n hx hb d_Law_law_541 rfl (lv_at hl 3 rfl) ?_
  refine lv_aload_n hx hb d_Law_law_542 rfl (lv_at hl 5 rfl) ?_
  refine lv_iload hx hb d_Law_law_543 (lv_at hl 1 rfl) ?_
  refine lv_iconst (v := nI 1) hx hb d_Law_law_545 (by decide) ?_
  refine lv_iadd hx hb d_Law_law_546 ?_
  refine lv_topi (fun t9 e9 => ?_)
  obtain rfl : t9 = nI (i + 1) := e9.trans (nI_add _ _)
  refine q_xld E hX (i + 1) rfl (by omega) (by omega) d_Law_law_547 ?_
  obtain ⟨w9, n9, hob⟩ := hM.ob
  refine q_cV (rest := []) E ((G_Model_point l g (nM (b + 501)) (b + 501) th pn tn wm (xs (i + 1))).frI (nM_up hb0)) w_1148 w_15 w_1145 w_1146 w_1147 hd_Model_point rfl ⟨by decide, by decide⟩ (OB.recv E.2.2.2.2.2 (by rfl) hob) hM hF hl.1 rfl (Nat.le_of_ble_eq_true rfl) d_Law_law_548 hc (qi (fun r6 H2 locs hq6 hF => ?_))
  obtain ⟨hq6, hfr6⟩ := hq6
  have hX := hX.kept (hfr6.2 sb hX.lt (nM_lt hb0 hsb))
  clear hob hM
  rcases hq with ⟨hok, rfl, hG⟩ | ⟨hok, rfl, hG⟩
  · skip
    have hM : MP g (nM (b + 501)) H2 (b + 501) 0 pn 0 wm := by
      rcases hq6 with ⟨-, h⟩ | ⟨h, -⟩
      · exact h
      · exact absurd hok h
    refine lv_istore (lv' := [(6, .int r6), (5, .int (nI 0)), (4, .int (nI i)), (3, .ref (b + 510)), (2, .ref (b + 501)), (1, .ref b), (0, .ref sb)]) hx hb d_Law_law_551 hl (by decide) rfl (fun ls hl => ?_)
    refine lv_goto (tgt := 1236) hx hb d_Law_law_553 (by decide) ?_
    have hl : lv_has ls 8 [(4, .int (nI i)), (3, .ref (b + 510)), (2, .ref (b + 501)), (1, .ref b), (0, .ref sb)] := lv_sub hl [2, 3, 4, 5, 6] rfl
    exact hN _ _ ls _ _ _ _ _ (hG.frq hb0 hfr6) hM hX hF hl
  · skip
    have hM : MP g (nM (b + 501)) H2 (b + 501) 1 pn tn wm := by
      rcases hq6 with ⟨h, -⟩ | ⟨-, h⟩
      · exact absurd h hok
      · exact h
    refine lv_istore (lv' := [(6, .int r6), (5, .int (nI 1)), (4, .int (nI i)), (3, .ref (b + 510)), (2, .ref (b + 501)), (1, .ref b), (0, .ref sb)]) hx hb d_Law_law_551 hl (by decide) rfl (fun ls hl => ?_)
    refine lv_goto (tgt := 1236) hx hb d_Law_law_553 (by decide) ?_
    have hl : lv_has ls 8 [(4, .int (nI i)), (3, .ref (b + 510)), (2, .ref (b + 501)), (1, .ref b), (0, .ref sb)] := lv_sub hl [2, 3, 4, 5, 6] rfl
    exact hN _ _ ls _ _ _ _ _ (hG.frq hb0 hfr6) hM hX hF hl
set_option maxHeartbeats 4000000 in
set_option maxRecDepth 100000 in
theorem k_bytes {p : Program} {l : Launch} {e : Env} {s : State} {m : MethodId} {below : List Frame} {meth : Method} {c : Code} {g : WG} {sb L : Nat} {xs : Nat → Int32} {b : Nat} {mr mq : Int64} {H : Heap} {locs : List Loc} {ls : Array Slot} {th : Int32} {pn tn wn wm i cells slots : Nat} (E : EV p m c code 8 s #[Value.ref sb] "KateDeskLaw" g) (hr : meth.sig.returnType = ret) (hlk : meth.locks = false) (hb0 : s.heap.size ≤ b) (hsb : sb < s.heap.size) (hxs : XS l s) (hL : L ≤ 3072) (hi : i + 6 ≤ L) (hc : cells + 1 ≤ room_1.cells ∧ slots + 6 ≤ room_1.slots) (hN : LNX p l e s m below meth c g sb L xs b mr mq i (cells + 1) (slots + 6)) (hG : LG g s H b pn tn wn mr mq) (hM : MP g (nM (b + 501)) H (b + 501) th pn tn wm) (hX : va_X sb L xs s H) (hF : ∀ q ∈ locs, HXA s q.base) (hl : lv_has ls 8 [(4, .int (nI i)), (3, .ref (b + 510)), (2, .ref (b + 501)), (1, .ref b), (0, .ref sb)]) : W p l e room_1 s m #[Value.ref sb] below meth c H locs cells slots (lw_Z below #[Value.ref sb] s) (F0 m 556 ls []) := by
  have hx := E.1
  have hb := E.2.1
  have hK := E.2.2.2.2.2
  have hw0 := State.WarmedH.refl s
  have hbd := hM.2.2.2.2.1
  by_cases hzb : xs (i + 2) = 0
  · skip
    refine lv_aload_n hx hb d_Law_law_556 rfl (lv_at hl 3 rfl) ?_
    refine lv_aload_n hx hb d_Law_law_557 rfl (lv_at hl 4 rfl) ?_
    refine lv_iload hx hb d_Law_law_558 (lv_at hl 0 rfl) ?_
    refine lv_iconst (v := nI 1) hx hb d_Law_law_560 (by decide) ?_
    refine lv_iadd hx hb d_Law_law_561 ?_
    refine lv_topi (fun t9 e9 => ?_)
    obtain rfl : t9 = nI (i + 1) := e9.trans (nI_add _ _)
    refine q_xld E hX (i + 1) rfl (by omega) (by omega) d_Law_law_562 ?_
    refine lv_aload_n hx hb d_Law_law_563 rfl (lv_at hl 4 rfl) ?_
    refine lv_iload hx hb d_Law_law_564 (lv_at hl 0 rfl) ?_
    refine lv_iconst (v := nI 2) hx hb d_Law_law_566 (by decide) ?_
    refine lv_iadd hx hb d_Law_law_567 ?_
    refine lv_topi (fun t9 e9 => ?_)
    obtain rfl : t9 = nI (i + 2) := e9.trans (nI_add _ _)
    refine q_xld E hX (i + 2) rfl (by omega) (by omega) d_Law_law_568 ?_
    refine lv_if_eq (tgt := 576) hx hb d_Law_law_569 (by decide) (fun _ => ?_) (fun h9 => absurd (hzb) h9)
    refine lv_iconst (v := nI 0) hx hb d_Law_law_576 (by decide) ?_
    refine q_cSH (rest := []) E hw0 (H_bytes l g s hxs b pn tn wn mr mq hb0 (xs (i + 1)) (nI 0)) w_733 w_0 w_731 w_732 hd_Law_bytes rfl ⟨by decide, by decide⟩ hG hF hl.1 rfl (Nat.le_of_ble_eq_true rfl) d_Law_law_577 hc (qi (fun r5 H1 locs hq hF => ?_))
    obtain ⟨hq, hfr⟩ := hq
    have hX := hX.kept (hfr sb (Or.inl (Nat.lt_of_lt_of_le hsb hb0)))
    have hM := hM.on (fun q h1 h2 => hfr q (Or.inr ⟨h1, h2⟩))
    refine lv_istore (lv' := [(5, .int r5), (4, .int (nI i)), (3, .ref (b + 510)), (2, .ref (b + 501)), (1, .ref b), (0, .ref sb)]) hx hb d_Law_law_580 hl (by decide) rfl (fun ls hl => ?_)
    refine lv_aload_n hx hb d_Law_law_582 rfl (lv_at hl 3 rfl) ?_
    refine lv_aload_n hx hb d_Law_law_583 rfl (lv_at hl 5 rfl) ?_
    refine lv_iload hx hb d_Law_law_584 (lv_at hl 1 rfl) ?_
    refine lv_iconst (v := nI 1) hx hb d_Law_law_586 (by decide) ?_
    refine lv_iadd hx hb d_Law_law_587 ?_
    refine lv_topi (fun t9 e9 => ?_)
    obtain rfl : t9 = nI (i + 1) := e9.trans (nI_add _ _)
    refine q_xld E hX (i + 1) rfl (by omega) (by omega) d_Law_law_588 ?_
    refine lv_aload_n hx hb d_Law_law_589 rfl (lv_at hl 5 rfl) ?_
    refine lv_iload hx hb d_Law_law_590 (lv_at hl 1 rfl) ?_
    refine lv_iconst (v := nI 2) hx hb d_Law_law_592 (by decide) ?_
    refine lv_iadd hx hb d_Law_law_593 ?_
    refine lv_topi (fun t9 e9 => ?_)
    obtain rfl : t9 = nI (i + 2) := e9.trans (nI_add _ _)
    refine q_xld E hX (i + 2) rfl (by omega) (by omega) d_Law_law_594 ?_
    refine lv_if_eq (tgt := 602) hx hb d_Law_law_595 (by decide) (fun _ => ?_) (fun h9 => absurd (hzb) h9)
    refine lv_iconst (v := nI 0) hx hb d_Law_law_602 (by decide) ?_
    obtain ⟨w9, n9, hob⟩ := hM.ob
    refine q_cV (rest := []) E ((G_Model_bytes l g (nM (b + 501)) (b + 501) th pn tn wm (xs (i + 1)) (nI 0)).frV (nM_up hb0)) w_1183 w_15 w_1180 w_1181 w_1182 hd_Model_bytes rfl ⟨by decide, by decide⟩ (OB.recv E.2.2.2.2.2 (by rfl) hob) hM hF hl.1 rfl (Nat.le_of_ble_eq_true rfl) d_Law_law_603 hc (qv (fun H2 locs hq6 hF => ?_))
    obtain ⟨hq6, hfr6⟩ := hq6
    have hX := hX.kept (hfr6.2 sb hX.lt (nM_lt hb0 hsb))
    clear hob hM
    rcases hq with ⟨hok, rfl, hG⟩ | ⟨hok, rfl, hG⟩
    · skip
      obtain ⟨w8, hG⟩ := hG
      have h69 : ∃ w7, MP g (nM (b + 501)) H2 (b + 501) 0 pn tn w7 := by
        rcases hq6 with ⟨-, h⟩ | ⟨h, -⟩
        · exact h
        · exact absurd hok h
      obtain ⟨w7, hM⟩ := h69
      refine lv_goto (tgt := 1236) hx hb d_Law_law_606 (by decide) ?_
      have hl : lv_has ls 8 [(4, .int (nI i)), (3, .ref (b + 510)), (2, .ref (b + 501)), (1, .ref b), (0, .ref sb)] := lv_sub hl [1, 2, 3, 4, 5] rfl
      exact hN _ _ ls _ _ _ _ _ (hG.frq hb0 hfr6) hM hX hF hl
    · skip
      have hM : MP g (nM (b + 501)) H2 (b + 501) 1 pn tn wm := by
        rcases hq6 with ⟨h, -⟩ | ⟨-, h⟩
        · exact absurd h hok
        · exact h
      refine lv_goto (tgt := 1236) hx hb d_Law_law_606 (by decide) ?_
      have hl : lv_has ls 8 [(4, .int (nI i)), (3, .ref (b + 510)), (2, .ref (b + 501)), (1, .ref b), (0, .ref sb)] := lv_sub hl [1, 2, 3, 4, 5] rfl
      exact hN _ _ ls _ _ _ _ _ (hG.frq hb0 hfr6) hM hX hF hl
  · skip
    refine lv_aload_n hx hb d_Law_law_556 rfl (lv_at hl 3 rfl) ?_
    refine lv_aload_n hx hb d_Law_law_557 rfl (lv_at hl 4 rfl) ?_
    refine lv_iload hx hb d_Law_law_558 (lv_at hl 0 rfl) ?_
    refine lv_iconst (v := nI 1) hx hb d_Law_law_560 (by decide) ?_
    refine lv_iadd hx hb d_Law_law_561 ?_
    refine lv_topi (fun t9 e9 => ?_)
    obtain rfl : t9 = nI (i + 1) := e9.trans (nI_add _ _)
    refine q_xld E hX (i + 1) rfl (by omega) (by omega) d_Law_law_562 ?_
    refine lv_aload_n hx hb d_Law_law_563 rfl (lv_at hl 4 rfl) ?_
    refine lv_iload hx hb d_Law_law_564 (lv_at hl 0 rfl) ?_
    refine lv_iconst (v := nI 2) hx hb d_Law_law_566 (by decide) ?_
    refine lv_iadd hx hb d_Law_law_567 ?_
    refine lv_topi (fun t9 e9 => ?_)
    obtain rfl : t9 = nI (i + 2) := e9.trans (nI_add _ _)
    refine q_xld E hX (i + 2) rfl (by omega) (by omega) d_Law_law_568 ?_
    refine lv_if_eq (tgt := 576) hx hb d_Law_law_569 (by decide) (fun h9 => absurd h9 (hzb)) (fun _ => ?_)
    refine lv_iconst (v := nI 1) hx hb d_Law_law_572 (by decide) ?_
    refine lv_goto (tgt := 577) hx hb d_Law_law_573 (by decide) ?_
    refine q_cSH (rest := []) E hw0 (H_bytes l g s hxs b pn tn wn mr mq hb0 (xs (i + 1)) (nI 1)) w_733 w_0 w_731 w_732 hd_Law_bytes rfl ⟨by decide, by decide⟩ hG hF hl.1 rfl (Nat.le_of_ble_eq_true rfl) d_Law_law_577 hc (qi (fun r5 H1 locs hq hF => ?_))
    obtain ⟨hq, hfr⟩ := hq
    have hX := hX.kept (hfr sb (Or.inl (Nat.lt_of_lt_of_le hsb hb0)))
    have hM := hM.on (fun q h1 h2 => hfr q (Or.inr ⟨h1, h2⟩))
    refine lv_istore (lv' := [(5, .int r5), (4, .int (nI i)), (3, .ref (b + 510)), (2, .ref (b + 501)), (1, .ref b), (0, .ref sb)]) hx hb d_Law_law_580 hl (by decide) rfl (fun ls hl => ?_)
    refine lv_aload_n hx hb d_Law_law_582 rfl (lv_at hl 3 rfl) ?_
    refine lv_aload_n hx hb d_Law_law_583 rfl (lv_at hl 5 rfl) ?_
    refine lv_iload hx hb d_Law_law_584 (lv_at hl 1 rfl) ?_
    refine lv_iconst (v := nI 1) hx hb d_Law_law_586 (by decide) ?_
    refine lv_iadd hx hb d_Law_law_587 ?_
    refine lv_topi (fun t9 e9 => ?_)
    obtain rfl : t9 = nI (i + 1) := e9.trans (nI_add _ _)
    refine q_xld E hX (i + 1) rfl (by omega) (by omega) d_Law_law_588 ?_
    refine lv_aload_n hx hb d_Law_law_589 rfl (lv_at hl 5 rfl) ?_
    refine lv_iload hx hb d_Law_law_590 (lv_at hl 1 rfl) ?_
    refine lv_iconst (v := nI 2) hx hb d_Law_law_592 (by decide) ?_
    refine lv_iadd hx hb d_Law_law_593 ?_
    refine lv_topi (fun t9 e9 => ?_)
    obtain rfl : t9 = nI (i + 2) := e9.trans (nI_add _ _)
    refine q_xld E hX (i + 2) rfl (by omega) (by omega) d_Law_law_594 ?_
    refine lv_if_eq (tgt := 602) hx hb d_Law_law_595 (by decide) (fun h9 => absurd h9 (hzb)) (fun _ => ?_)
    refine lv_iconst (v := nI 1) hx hb d_Law_law_598 (by decide) ?_
    refine lv_goto (tgt := 603) hx hb d_Law_law_599 (by decide) ?_
    obtain ⟨w9, n9, hob⟩ := hM.ob
    refine q_cV (rest := []) E ((G_Model_bytes l g (nM (b + 501)) (b + 501) th pn tn wm (xs (i + 1)) (nI 1)).frV (nM_up hb0)) w_1183 w_15 w_1180 w_1181 w_1182 hd_Model_bytes rfl ⟨by decide, by decide⟩ (OB.recv E.2.2.2.2.2 (by rfl) hob) hM hF hl.1 rfl (Nat.le_of_ble_eq_true rfl) d_Law_law_603 hc (qv (fun H2 locs hq6 hF => ?_))
    obtain ⟨hq6, hfr6⟩ := hq6
    have hX := hX.kept (hfr6.2 sb hX.lt (nM_lt hb0 hsb))
    clear hob hM
    rcases hq with ⟨hok, rfl, hG⟩ | ⟨hok, rfl, hG⟩
    · skip
      obtain ⟨w8, hG⟩ := hG
      have h69 : ∃ w7, MP g (nM (b + 501)) H2 (b + 501) 0 pn tn w7 := by
        rcases hq6 with ⟨-, h⟩ | ⟨h, -⟩
        · exact h
        · exact absurd hok h
      obtain ⟨w7, hM⟩ := h69
      refine lv_goto (tgt := 1236) hx hb d_Law_law_606 (by decide) ?_
      have hl : lv_has ls 8 [(4, .int (nI i)), (3, .ref (b + 510)), (2, .ref (b + 501)), (1, .ref b), (0, .ref sb)] := lv_sub hl [1, 2, 3, 4, 5] rfl
      exact hN _ _ ls _ _ _ _ _ (hG.frq hb0 hfr6) hM hX hF hl
    · skip
      have hM : MP g (nM (b + 501)) H2 (b + 501) 1 pn tn wm := by
        rcases hq6 with ⟨h, -⟩ | ⟨-, h⟩
        · exact absurd h hok
        · exact h
      refine lv_goto (tgt := 1236) hx hb d_Law_law_606 (by decide) ?_
      have hl : lv_has ls 8 [(4, .int (nI i)), (3, .ref (b + 510)), (2, .ref (b + 501)), (1, .ref b), (0, .ref sb)] := lv_sub hl [1, 2, 3, 4, 5] rfl
      exact hN _ _ ls _ _ _ _ _ (hG.frq hb0 hfr6) hM hX hF hl
set_option maxHeartbeats 4000000 in
set_option maxRecDepth 100000 in
theorem k_out {p : Program} {l : Launch} {e : Env} {s : State} {m : MethodId} {below : List Frame} {meth : Method} {c : Code} {g : WG} {sb L : Nat} {xs : Nat → Int32} {b : Nat} {mr mq : Int64} {H : Heap} {locs : List Loc} {ls : Array Slot} {th : Int32} {pn tn wn wm i cells slots : Nat} (E : EV p m c code 8 s #[Value.ref sb] "KateDeskLaw" g) (hr : meth.sig.returnType = ret) (hlk : meth.locks = false) (hb0 : s.heap.size ≤ b) (hsb : sb < s.heap.size) (hxs : XS l s) (hL : L ≤ 3072) (hi : i + 6 ≤ L) (hc : cells + 1 ≤ room_1.cells ∧ slots + 6 ≤ room_1.slots) (hN : LNX p l e s m below meth c g sb L xs b mr mq i (cells + 1) (slots + 6)) (hG : LG g s H b pn tn wn mr mq) (hM : MP g (nM (b + 501)) H (b + 501) th pn tn wm) (hX : va_X sb L xs s H) (hF : ∀ q ∈ locs, HXA s q.base) (hl : lv_has ls 8 [(4, .int (nI i)), (3, .ref (b + 510)), (2, .ref (b + 501)), (1, .ref b), (0, .ref sb)]) : W p l e room_1 s m #[Value.ref sb] below meth c H locs cells slots (lw_Z below #[Value.ref sb] s) (F0 m 609 ls []) := by
  have hx := E.1
  have hb := E.2.1
  have hK := E.2.2.2.2.2
  have hw0 := State.WarmedH.refl s
  have hbd := hM.2.2.2.2.1
  refine lv_aload_n hx hb d_Law_law_609 rfl (lv_at hl 3 rfl) ?_
  refine lv_aload_n hx hb d_Law_law_610 rfl (lv_at hl 4 rfl) ?_
  refine lv_iload hx hb d_Law_law_611 (lv_at hl 0 rfl) ?_
  refine lv_iconst (v := nI 1) hx hb d_Law_law_613 (by decide) ?_
  refine lv_iadd hx hb d_Law_law_614 ?_
  refine lv_topi (fun t9 e9 => ?_)
  obtain rfl : t9 = nI (i + 1) := e9.trans (nI_add _ _)
  refine q_xld E hX (i + 1) rfl (by omega) (by omega) d_Law_law_615 ?_
  refine lv_aload_n hx hb d_Law_law_616 rfl (lv_at hl 1 rfl) ?_
  refine q_cSH (rest := []) E hw0 (H_out l g s hxs b pn tn wn mr mq hb0 (xs (i + 1))) w_751 w_0 w_749 w_750 hd_Law_out rfl ⟨by decide, by decide⟩ hG hF hl.1 rfl (Nat.le_of_ble_eq_true rfl) d_Law_law_617 hc (qi (fun r5 H1 locs hq hF => ?_))
  obtain ⟨hq, hfr⟩ := hq
  have hX := hX.kept (hfr sb (Or.inl (Nat.lt_of_lt_of_le hsb hb0)))
  have hM := hM.on (fun q h1 h2 => hfr q (Or.inr ⟨h1, h2⟩))
  refine lv_istore (lv' := [(5, .int r5), (4, .int (nI i)), (3, .ref (b + 510)), (2, .ref (b + 501)), (1, .ref b), (0, .ref sb)]) hx hb d_Law_law_620 hl (by decide) rfl (fun ls hl => ?_)
  refine lv_aload_n hx hb d_Law_law_622 rfl (lv_at hl 3 rfl) ?_
  refine lv_aload_n hx hb d_Law_law_623 rfl (lv_at hl 5 rfl) ?_
  refine lv_iload hx hb d_Law_law_624 (lv_at hl 1 rfl) ?_
  refine lv_iconst (v := nI 1) hx hb d_Law_law_626 (by decide) ?_
  refine lv_iadd hx hb d_Law_law_627 ?_
  refine lv_topi (fun t9 e9 => ?_)
  obtain rfl : t9 = nI (i + 1) := e9.trans (nI_add _ _)
  refine q_xld E hX (i + 1) rfl (by omega) (by omega) d_Law_law_628 ?_
  obtain ⟨w9, n9, hob⟩ := hM.ob
  refine q_cV (rest := []) E ((G_Model_out l g (nM (b + 501)) (b + 501) th pn tn wm (xs (i + 1))).frL (nM_up hb0)) w_1191 w_15 w_1188 w_1189 w_1190 hd_Model_out rfl ⟨by decide, by decide⟩ (OB.recv E.2.2.2.2.2 (by rfl) hob) hM hF hl.1 rfl (Nat.le_of_ble_eq_true rfl) d_Law_law_629 hc (ql (fun r6 H2 locs hq6 hF => ?_))
  obtain ⟨hq6, hfr6⟩ := hq6
  have hX := hX.kept (hfr6.2 sb hX.lt (nM_lt hb0 hsb))
  clear hob hM
  rcases hq with ⟨hok, rfl, hG⟩ | ⟨hok, rfl, hG⟩
  · skip
    obtain ⟨th2, hM⟩ : ∃ th2, MP g (nM (b + 501)) H2 (b + 501) th2 pn tn wm := by
      rcases hq6 with ⟨-, h⟩ | ⟨-, h⟩
      · exact ⟨_, h⟩
      · exact ⟨_, h⟩
    refine lv_lstore (lv' := [(6, .long r6), (5, .int (nI 0)), (4, .int (nI i)), (3, .ref (b + 510)), (2, .ref (b + 501)), (1, .ref b), (0, .ref sb)]) hx hb d_Law_law_632 hl (by decide) rfl (fun ls hl => ?_)
    refine lv_goto (tgt := 1236) hx hb d_Law_law_634 (by decide) ?_
    have hl : lv_has ls 8 [(4, .int (nI i)), (3, .ref (b + 510)), (2, .ref (b + 501)), (1, .ref b), (0, .ref sb)] := lv_sub hl [2, 3, 4, 5, 6] rfl
    exact hN _ _ ls _ _ _ _ _ (hG.frq hb0 hfr6) hM hX hF hl
  · skip
    obtain ⟨th2, hM⟩ : ∃ th2, MP g (nM (b + 501)) H2 (b + 501) th2 pn tn wm := by
      rcases hq6 with ⟨-, h⟩ | ⟨-, h⟩
      · exact ⟨_, h⟩
      · exact ⟨_, h⟩
    refine lv_lstore (lv' := [(6, .long r6), (5, .int (nI 1)), (4, .int (nI i)), (3, .ref (b + 510)), (2, .ref (b + 501)), (1, .ref b), (0, .ref sb)]) hx hb d_Law_law_632 hl (by decide) rfl (fun ls hl => ?_)
    refine lv_goto (tgt := 1236) hx hb d_Law_law_634 (by decide) ?_
    have hl : lv_has ls 8 [(4, .int (nI i)), (3, .ref (b + 510)), (2, .ref (b + 501)), (1, .ref b), (0, .ref sb)] := lv_sub hl [2, 3, 4, 5, 6] rfl
    exact hN _ _ ls _ _ _ _ _ (hG.frq hb0 hfr6) hM hX hF hl
set_option maxHeartbeats 4000000 in
set_option maxRecDepth 100000 in
theorem k_join {p : Program} {l : Launch} {e : Env} {s : State} {m : MethodId} {below : List Frame} {meth : Method} {c : Code} {g : WG} {sb L : Nat} {xs : Nat → Int32} {b : Nat} {mr mq : Int64} {H : Heap} {locs : List Loc} {ls : Array Slot} {th : Int32} {pn tn wn wm i cells slots : Nat} (E : EV p m c code 8 s #[Value.ref sb] "KateDeskLaw" g) (hr : meth.sig.returnType = ret) (hlk : meth.locks = false) (hb0 : s.heap.size ≤ b) (hsb : sb < s.heap.size) (hxs : XS l s) (hL : L ≤ 3072) (hi : i + 6 ≤ L) (hc : cells + 1 ≤ room_1.cells ∧ slots + 6 ≤ room_1.slots) (hN : LNX p l e s m below meth c g sb L xs b mr mq i (cells + 1) (slots + 6)) (hG : LG g s H b pn tn wn mr mq) (hM : MP g (nM (b + 501)) H (b + 501) th pn tn wm) (hX : va_X sb L xs s H) (hF : ∀ q ∈ locs, HXA s q.base) (hl : lv_has ls 8 [(4, .int (nI i)), (3, .ref (b + 510)), (2, .ref (b + 501)), (1, .ref b), (0, .ref sb)]) : W p l e room_1 s m #[Value.ref sb] below meth c H locs cells slots (lw_Z below #[Value.ref sb] s) (F0 m 637 ls []) := by
  have hx := E.1
  have hb := E.2.1
  have hK := E.2.2.2.2.2
  have hw0 := State.WarmedH.refl s
  have hbd := hM.2.2.2.2.1
  refine lv_aload_n hx hb d_Law_law_637 rfl (lv_at hl 3 rfl) ?_
  refine lv_aload_n hx hb d_Law_law_638 rfl (lv_at hl 4 rfl) ?_
  refine lv_iload hx hb d_Law_law_639 (lv_at hl 0 rfl) ?_
  refine lv_iconst (v := nI 1) hx hb d_Law_law_641 (by decide) ?_
  refine lv_iadd hx hb d_Law_law_642 ?_
  refine lv_topi (fun t9 e9 => ?_)
  obtain rfl : t9 = nI (i + 1) := e9.trans (nI_add _ _)
  refine q_xld E hX (i + 1) rfl (by omega) (by omega) d_Law_law_643 ?_
  refine lv_aload_n hx hb d_Law_law_644 rfl (lv_at hl 4 rfl) ?_
  refine lv_iload hx hb d_Law_law_645 (lv_at hl 0 rfl) ?_
  refine lv_iconst (v := nI 2) hx hb d_Law_law_647 (by decide) ?_
  refine lv_iadd hx hb d_Law_law_648 ?_
  refine lv_topi (fun t9 e9 => ?_)
  obtain rfl : t9 = nI (i + 2) := e9.trans (nI_add _ _)
  refine q_xld E hX (i + 2) rfl (by omega) (by omega) d_Law_law_649 ?_
  refine lv_aload_n hx hb d_Law_law_650 rfl (lv_at hl 4 rfl) ?_
  refine lv_iload hx hb d_Law_law_651 (lv_at hl 0 rfl) ?_
  refine lv_iconst (v := nI 3) hx hb d_Law_law_653 (by decide) ?_
  refine lv_iadd hx hb d_Law_law_654 ?_
  refine lv_topi (fun t9 e9 => ?_)
  obtain rfl : t9 = nI (i + 3) := e9.trans (nI_add _ _)
  refine q_xld E hX (i + 3) rfl (by omega) (by omega) d_Law_law_655 ?_
  refine lv_aload_n hx hb d_Law_law_656 rfl (lv_at hl 4 rfl) ?_
  refine lv_iload hx hb d_Law_law_657 (lv_at hl 0 rfl) ?_
  refine lv_iconst (v := nI 4) hx hb d_Law_law_659 (by decide) ?_
  refine lv_iadd hx hb d_Law_law_660 ?_
  refine lv_topi (fun t9 e9 => ?_)
  obtain rfl : t9 = nI (i + 4) := e9.trans (nI_add _ _)
  refine q_xld E hX (i + 4) rfl (by omega) (by omega) d_Law_law_661 ?_
  refine q_cSH (rest := []) E hw0 (H_join l g s hxs b pn tn wn mr mq hb0 (xs (i + 1)) (xs (i + 2)) (xs (i + 3)) (xs (i + 4))) w_775 w_0 w_773 w_774 hd_Law_join rfl ⟨by decide, by decide⟩ hG hF hl.1 rfl (Nat.le_of_ble_eq_true rfl) d_Law_law_662 hc (qi (fun r5 H1 locs hq hF => ?_))
  obtain ⟨hq, hfr⟩ := hq
  have hX := hX.kept (hfr sb (Or.inl (Nat.lt_of_lt_of_le hsb hb0)))
  have hM := hM.on (fun q h1 h2 => hfr q (Or.inr ⟨h1, h2⟩))
  refine lv_istore (lv' := [(5, .int r5), (4, .int (nI i)), (3, .ref (b + 510)), (2, .ref (b + 501)), (1, .ref b), (0, .ref sb)]) hx hb d_Law_law_665 hl (by decide) rfl (fun ls hl => ?_)
  refine lv_aload_n hx hb d_Law_law_667 rfl (lv_at hl 3 rfl) ?_
  refine lv_aload_n hx hb d_Law_law_668 rfl (lv_at hl 5 rfl) ?_
  refine lv_iload hx hb d_Law_law_669 (lv_at hl 1 rfl) ?_
  refine lv_iconst (v := nI 1) hx hb d_Law_law_671 (by decide) ?_
  refine lv_iadd hx hb d_Law_law_672 ?_
  refine lv_topi (fun t9 e9 => ?_)
  obtain rfl : t9 = nI (i + 1) := e9.trans (nI_add _ _)
  refine q_xld E hX (i + 1) rfl (by omega) (by omega) d_Law_law_673 ?_
  refine lv_aload_n hx hb d_Law_law_674 rfl (lv_at hl 5 rfl) ?_
  refine lv_iload hx hb d_Law_law_675 (lv_at hl 1 rfl) ?_
  refine lv_iconst (v := nI 2) hx hb d_Law_law_677 (by decide) ?_
  refine lv_iadd hx hb d_Law_law_678 ?_
  refine lv_topi (fun t9 e9 => ?_)
  obtain rfl : t9 = nI (i + 2) := e9.trans (nI_add _ _)
  refine q_xld E hX (i + 2) rfl (by omega) (by omega) d_Law_law_679 ?_
  refine lv_aload_n hx hb d_Law_law_680 rfl (lv_at hl 5 rfl) ?_
  refine lv_iload hx hb d_Law_law_681 (lv_at hl 1 rfl) ?_
  refine lv_iconst (v := nI 3) hx hb d_Law_law_683 (by decide) ?_
  refine lv_iadd hx hb d_Law_law_684 ?_
  refine lv_topi (fun t9 e9 => ?_)
  obtain rfl : t9 = nI (i + 3) := e9.trans (nI_add _ _)
  refine q_xld E hX (i + 3) rfl (by omega) (by omega) d_Law_law_685 ?_
  refine lv_aload_n hx hb d_Law_law_686 rfl (lv_at hl 5 rfl) ?_
  refine lv_iload hx hb d_Law_law_687 (lv_at hl 1 rfl) ?_
  refine lv_iconst (v := nI 4) hx hb d_Law_law_689 (by decide) ?_
  refine lv_iadd hx hb d_Law_law_690 ?_
  refine lv_topi (fun t9 e9 => ?_)
  obtain rfl : t9 = nI (i + 4) := e9.trans (nI_add _ _)
  refine q_xld E hX (i + 4) rfl (by omega) (by omega) d_Law_law_691 ?_
  obtain ⟨w9, n9, hob⟩ := hM.ob
  refine q_cV (rest := []) E ((G_Model_join l g (nM (b + 501)) (b + 501) th pn tn wm (xs (i + 1)) (xs (i + 2)) (xs (i + 3)) (xs (i + 4))).frV (nM_up hb0)) w_1195 w_15 w_1192 w_1193 w_1194 hd_Model_join rfl ⟨by decide, by decide⟩ (OB.recv E.2.2.2.2.2 (by rfl) hob) hM hF hl.1 rfl (Nat.le_of_ble_eq_true rfl) d_Law_law_692 hc (qv (fun H2 locs hq6 hF => ?_))
  obtain ⟨hq6, hfr6⟩ := hq6
  have hX := hX.kept (hfr6.2 sb hX.lt (nM_lt hb0 hsb))
  clear hob hM
  rcases hq with ⟨hok, rfl, hG⟩ | ⟨hok, rfl, hG⟩
  · skip
    have hM : MP g (nM (b + 501)) H2 (b + 501) 0 pn tn wm := by
      rcases hq6 with ⟨-, h⟩ | ⟨h, -⟩
      · exact h
      · exact absurd hok h
    refine lv_goto (tgt := 1236) hx hb d_Law_law_695 (by decide) ?_
    have hl : lv_has ls 8 [(4, .int (nI i)), (3, .ref (b + 510)), (2, .ref (b + 501)), (1, .ref b), (0, .ref sb)] := lv_sub hl [1, 2, 3, 4, 5] rfl
    exact hN _ _ ls _ _ _ _ _ (hG.frq hb0 hfr6) hM hX hF hl
  · skip
    have hM : MP g (nM (b + 501)) H2 (b + 501) 1 pn tn wm := by
      rcases hq6 with ⟨h, -⟩ | ⟨-, h⟩
      · exact absurd h hok
      · exact h
    refine lv_goto (tgt := 1236) hx hb d_Law_law_695 (by decide) ?_
    have hl : lv_has ls 8 [(4, .int (nI i)), (3, .ref (b + 510)), (2, .ref (b + 501)), (1, .ref b), (0, .ref sb)] := lv_sub hl [1, 2, 3, 4, 5] rfl
    exact hN _ _ ls _ _ _ _ _ (hG.frq hb0 hfr6) hM hX hF hl
set_option maxHeartbeats 4000000 in
set_option maxRecDepth 100000 in
theorem k_times {p : Program} {l : Launch} {e : Env} {s : State} {m : MethodId} {below : List Frame} {meth : Method} {c : Code} {g : WG} {sb L : Nat} {xs : Nat → Int32} {b : Nat} {mr mq : Int64} {H : Heap} {locs : List Loc} {ls : Array Slot} {th : Int32} {pn tn wn wm i cells slots : Nat} (E : EV p m c code 8 s #[Value.ref sb] "KateDeskLaw" g) (hr : meth.sig.returnType = ret) (hlk : meth.locks = false) (hb0 : s.heap.size ≤ b) (hsb : sb < s.heap.size) (hxs : XS l s) (hL : L ≤ 3072) (hi : i + 6 ≤ L) (hc : cells + 1 ≤ room_1.cells ∧ slots + 6 ≤ room_1.slots) (hN : LNX p l e s m below meth c g sb L xs b mr mq i (cells + 1) (slots + 6)) (hG : LG g s H b pn tn wn mr mq) (hM : MP g (nM (b + 501)) H (b + 501) th pn tn wm) (hX : va_X sb L xs s H) (hF : ∀ q ∈ locs, HXA s q.base) (hl : lv_has ls 8 [(4, .int (nI i)), (3, .ref (b + 510)), (2, .ref (b + 501)), (1, .ref b), (0, .ref sb)]) : W p l e room_1 s m #[Value.ref sb] below meth c H locs cells slots (lw_Z below #[Value.ref sb] s) (F0 m 698 ls []) := by
  have hx := E.1
  have hb := E.2.1
  have hK := E.2.2.2.2.2
  have hw0 := State.WarmedH.refl s
  have hbd := hM.2.2.2.2.1
  refine lv_aload_n hx hb d_Law_law_698 rfl (lv_at hl 3 rfl) ?_
  refine lv_aload_n hx hb d_Law_law_699 rfl (lv_at hl 4 rfl) ?_
  refine lv_iload hx hb d_Law_law_700 (lv_at hl 0 rfl) ?_
  refine lv_iconst (v := nI 1) hx hb d_Law_law_702 (by decide) ?_
  refine lv_iadd hx hb d_Law_law_703 ?_
  refine lv_topi (fun t9 e9 => ?_)
  obtain rfl : t9 = nI (i + 1) := e9.trans (nI_add _ _)
  refine q_xld E hX (i + 1) rfl (by omega) (by omega) d_Law_law_704 ?_
  refine lv_aload_n hx hb d_Law_law_705 rfl (lv_at hl 4 rfl) ?_
  refine lv_iload hx hb d_Law_law_706 (lv_at hl 0 rfl) ?_
  refine lv_iconst (v := nI 2) hx hb d_Law_law_708 (by decide) ?_
  refine lv_iadd hx hb d_Law_law_709 ?_
  refine lv_topi (fun t9 e9 => ?_)
  obtain rfl : t9 = nI (i + 2) := e9.trans (nI_add _ _)
  refine q_xld E hX (i + 2) rfl (by omega) (by omega) d_Law_law_710 ?_
  refine lv_aload_n hx hb d_Law_law_711 rfl (lv_at hl 4 rfl) ?_
  refine lv_iload hx hb d_Law_law_712 (lv_at hl 0 rfl) ?_
  refine lv_iconst (v := nI 3) hx hb d_Law_law_714 (by decide) ?_
  refine lv_iadd hx hb d_Law_law_715 ?_
  refine lv_topi (fun t9 e9 => ?_)
  obtain rfl : t9 = nI (i + 3) := e9.trans (nI_add _ _)
  refine q_xld E hX (i + 3) rfl (by omega) (by omega) d_Law_law_716 ?_
  refine q_cSH (rest := []) E hw0 (H_times l g s hxs b pn tn wn mr mq hb0 (xs (i + 1)) (xs (i + 2)) (xs (i + 3))) w_784 w_0 w_782 w_783 hd_Law_times rfl ⟨by decide, by decide⟩ hG hF hl.1 rfl (Nat.le_of_ble_eq_true rfl) d_Law_law_717 hc (qi (fun r5 H1 locs hq hF => ?_))
  obtain ⟨hq, hfr⟩ := hq
  have hX := hX.kept (hfr sb (Or.inl (Nat.lt_of_lt_of_le hsb hb0)))
  have hM := hM.on (fun q h1 h2 => hfr q (Or.inr ⟨h1, h2⟩))
  refine lv_istore (lv' := [(5, .int r5), (4, .int (nI i)), (3, .ref (b + 510)), (2, .ref (b + 501)), (1, .ref b), (0, .ref sb)]) hx hb d_Law_law_720 hl (by decide) rfl (fun ls hl => ?_)
  refine lv_aload_n hx hb d_Law_law_722 rfl (lv_at hl 3 rfl) ?_
  refine lv_aload_n hx hb d_Law_law_723 rfl (lv_at hl 5 rfl) ?_
  refine lv_iload hx hb d_Law_law_724 (lv_at hl 1 rfl) ?_
  refine lv_iconst (v := nI 1) hx hb d_Law_law_726 (by decide) ?_
  refine lv_iadd hx hb d_Law_law_727 ?_
  refine lv_topi (fun t9 e9 => ?_)
  obtain rfl : t9 = nI (i + 1) := e9.trans (nI_add _ _)
  refine q_xld E hX (i + 1) rfl (by omega) (by omega) d_Law_law_728 ?_
  refine lv_aload_n hx hb d_Law_law_729 rfl (lv_at hl 5 rfl) ?_
  refine lv_iload hx hb d_Law_law_730 (lv_at hl 1 rfl) ?_
  refine lv_iconst (v := nI 2) hx hb d_Law_law_732 (by decide) ?_
  refine lv_iadd hx hb d_Law_law_733 ?_
  refine lv_topi (fun t9 e9 => ?_)
  obtain rfl : t9 = nI (i + 2) := e9.trans (nI_add _ _)
  refine q_xld E hX (i + 2) rfl (by omega) (by omega) d_Law_law_734 ?_
  refine lv_aload_n hx hb d_Law_law_735 rfl (lv_at hl 5 rfl) ?_
  refine lv_iload hx hb d_Law_law_736 (lv_at hl 1 rfl) ?_
  refine lv_iconst (v := nI 3) hx hb d_Law_law_738 (by decide) ?_
  refine lv_iadd hx hb d_Law_law_739 ?_
  refine lv_topi (fun t9 e9 => ?_)
  obtain rfl : t9 = nI (i + 3) := e9.trans (nI_add _ _)
  refine q_xld E hX (i + 3) rfl (by omega) (by omega) d_Law_law_740 ?_
  obtain ⟨w9, n9, hob⟩ := hM.ob
  refine q_cV (rest := []) E ((G_Model_times l g (nM (b + 501)) (b + 501) th pn tn wm (xs (i + 1)) (xs (i + 2)) (xs (i + 3))).frV (nM_up hb0)) w_1199 w_15 w_1196 w_1197 w_1198 hd_Model_times rfl ⟨by decide, by decide⟩ (OB.recv E.2.2.2.2.2 (by rfl) hob) hM hF hl.1 rfl (Nat.le_of_ble_eq_true rfl) d_Law_law_741 hc (qv (fun H2 locs hq6 hF => ?_))
  obtain ⟨hq6, hfr6⟩ := hq6
  have hX := hX.kept (hfr6.2 sb hX.lt (nM_lt hb0 hsb))
  clear hob hM
  rcases hq with ⟨hok, rfl, hG⟩ | ⟨hok, rfl, hG⟩
  · skip
    have hM : MP g (nM (b + 501)) H2 (b + 501) 0 pn tn wm := by
      rcases hq6 with ⟨-, h⟩ | ⟨h, -⟩
      · exact h
      · exact absurd hok h
    refine lv_goto (tgt := 1236) hx hb d_Law_law_744 (by decide) ?_
    have hl : lv_has ls 8 [(4, .int (nI i)), (3, .ref (b + 510)), (2, .ref (b + 501)), (1, .ref b), (0, .ref sb)] := lv_sub hl [1, 2, 3, 4, 5] rfl
    exact hN _ _ ls _ _ _ _ _ (hG.frq hb0 hfr6) hM hX hF hl
  · skip
    have hM : MP g (nM (b + 501)) H2 (b + 501) 1 pn tn wm := by
      rcases hq6 with ⟨h, -⟩ | ⟨-, h⟩
      · exact absurd h hok
      · exact h
    refine lv_goto (tgt := 1236) hx hb d_Law_law_744 (by decide) ?_
    have hl : lv_has ls 8 [(4, .int (nI i)), (3, .ref (b + 510)), (2, .ref (b + 501)), (1, .ref b), (0, .ref sb)] := lv_sub hl [1, 2, 3, 4, 5] rfl
    exact hN _ _ ls _ _ _ _ _ (hG.frq hb0 hfr6) hM hX hF hl
set_option maxHeartbeats 4000000 in
set_option maxRecDepth 100000 in
theorem k_combine {p : Program} {l : Launch} {e : Env} {s : State} {m : MethodId} {below : List Frame} {meth : Method} {c : Code} {g : WG} {sb L : Nat} {xs : Nat → Int32} {b : Nat} {mr mq : Int64} {H : Heap} {locs : List Loc} {ls : Array Slot} {th : Int32} {pn tn wn wm i cells slots : Nat} (E : EV p m c code 8 s #[Value.ref sb] "KateDeskLaw" g) (hr : meth.sig.returnType = ret) (hlk : meth.locks = false) (hb0 : s.heap.size ≤ b) (hsb : sb < s.heap.size) (hxs : XS l s) (hL : L ≤ 3072) (hi : i + 6 ≤ L) (hc : cells + 1 ≤ room_1.cells ∧ slots + 6 ≤ room_1.slots) (hN : LNX p l e s m below meth c g sb L xs b mr mq i (cells + 1) (slots + 6)) (hG : LG g s H b pn tn wn mr mq) (hM : MP g (nM (b + 501)) H (b + 501) th pn tn wm) (hX : va_X sb L xs s H) (hF : ∀ q ∈ locs, HXA s q.base) (hl : lv_has ls 8 [(4, .int (nI i)), (3, .ref (b + 510)), (2, .ref (b + 501)), (1, .ref b), (0, .ref sb)]) : W p l e room_1 s m #[Value.ref sb] below meth c H locs cells slots (lw_Z below #[Value.ref sb] s) (F0 m 747 ls []) := by
  have hx := E.1
  have hb := E.2.1
  have hK := E.2.2.2.2.2
  have hw0 := State.WarmedH.refl s
  have hbd := hM.2.2.2.2.1
  refine lv_aload_n hx hb d_Law_law_747 rfl (lv_at hl 3 rfl) ?_
  refine lv_aload_n hx hb d_Law_law_748 rfl (lv_at hl 4 rfl) ?_
  refine lv_iload hx hb d_Law_law_749 (lv_at hl 0 rfl) ?_
  refine lv_iconst (v := nI 1) hx hb d_Law_law_751 (by decide) ?_
  refine lv_iadd hx hb d_Law_law_752 ?_
  refine lv_topi (fun t9 e9 => ?_)
  obtain rfl : t9 = nI (i + 1) := e9.trans (nI_add _ _)
  refine q_xld E hX (i + 1) rfl (by omega) (by omega) d_Law_law_753 ?_
  refine lv_aload_n hx hb d_Law_law_754 rfl (lv_at hl 4 rfl) ?_
  refine lv_iload hx hb d_Law_law_755 (lv_at hl 0 rfl) ?_
  refine lv_iconst (v := nI 2) hx hb d_Law_law_757 (by decide) ?_
  refine lv_iadd hx hb d_Law_law_758 ?_
  refine lv_topi (fun t9 e9 => ?_)
  obtain rfl : t9 = nI (i + 2) := e9.trans (nI_add _ _)
  refine q_xld E hX (i + 2) rfl (by omega) (by omega) d_Law_law_759 ?_
  refine lv_aload_n hx hb d_Law_law_760 rfl (lv_at hl 4 rfl) ?_
  refine lv_iload hx hb d_Law_law_761 (lv_at hl 0 rfl) ?_
  refine lv_iconst (v := nI 3) hx hb d_Law_law_763 (by decide) ?_
  refine lv_iadd hx hb d_Law_law_764 ?_
  refine lv_topi (fun t9 e9 => ?_)
  obtain rfl : t9 = nI (i + 3) := e9.trans (nI_add _ _)
  refine q_xld E hX (i + 3) rfl (by omega) (by omega) d_Law_law_765 ?_
  refine lv_aload_n hx hb d_Law_law_766 rfl (lv_at hl 4 rfl) ?_
  refine lv_iload hx hb d_Law_law_767 (lv_at hl 0 rfl) ?_
  refine lv_iconst (v := nI 4) hx hb d_Law_law_769 (by decide) ?_
  refine lv_iadd hx hb d_Law_law_770 ?_
  refine lv_topi (fun t9 e9 => ?_)
  obtain rfl : t9 = nI (i + 4) := e9.trans (nI_add _ _)
  refine q_xld E hX (i + 4) rfl (by omega) (by omega) d_Law_law_771 ?_
  refine q_cSH (rest := []) E hw0 (H_combine l g s hxs b pn tn wn mr mq hb0 (xs (i + 1)) (xs (i + 2)) (xs (i + 3)) (xs (i + 4))) w_791 w_0 w_789 w_790 hd_Law_combine rfl ⟨by decide, by decide⟩ hG hF hl.1 rfl (Nat.le_of_ble_eq_true rfl) d_Law_law_772 hc (qi (fun r5 H1 locs hq hF => ?_))
  obtain ⟨hq, hfr⟩ := hq
  have hX := hX.kept (hfr sb (Or.inl (Nat.lt_of_lt_of_le hsb hb0)))
  have hM := hM.on (fun q h1 h2 => hfr q (Or.inr ⟨h1, h2⟩))
  refine lv_istore (lv' := [(5, .int r5), (4, .int (nI i)), (3, .ref (b + 510)), (2, .ref (b + 501)), (1, .ref b), (0, .ref sb)]) hx hb d_Law_law_775 hl (by decide) rfl (fun ls hl => ?_)
  refine lv_aload_n hx hb d_Law_law_777 rfl (lv_at hl 3 rfl) ?_
  refine lv_aload_n hx hb d_Law_law_778 rfl (lv_at hl 5 rfl) ?_
  refine lv_iload hx hb d_Law_law_779 (lv_at hl 1 rfl) ?_
  refine lv_iconst (v := nI 1) hx hb d_Law_law_781 (by decide) ?_
  refine lv_iadd hx hb d_Law_law_782 ?_
  refine lv_topi (fun t9 e9 => ?_)
  obtain rfl : t9 = nI (i + 1) := e9.trans (nI_add _ _)
  refine q_xld E hX (i + 1) rfl (by omega) (by omega) d_Law_law_783 ?_
  refine lv_aload_n hx hb d_Law_law_784 rfl (lv_at hl 5 rfl) ?_
  refine lv_iload hx hb d_Law_law_785 (lv_at hl 1 rfl) ?_
  refine lv_iconst (v := nI 2) hx hb d_Law_law_787 (by decide) ?_
  refine lv_iadd hx hb d_Law_law_788 ?_
  refine lv_topi (fun t9 e9 => ?_)
  obtain rfl : t9 = nI (i + 2) := e9.trans (nI_add _ _)
  refine q_xld E hX (i + 2) rfl (by omega) (by omega) d_Law_law_789 ?_
  refine lv_aload_n hx hb d_Law_law_790 rfl (lv_at hl 5 rfl) ?_
  refine lv_iload hx hb d_Law_law_791 (lv_at hl 1 rfl) ?_
  refine lv_iconst (v := nI 3) hx hb d_Law_law_793 (by decide) ?_
  refine lv_iadd hx hb d_Law_law_794 ?_
  refine lv_topi (fun t9 e9 => ?_)
  obtain rfl : t9 = nI (i + 3) := e9.trans (nI_add _ _)
  refine q_xld E hX (i + 3) rfl (by omega) (by omega) d_Law_law_795 ?_
  refine lv_aload_n hx hb d_Law_law_796 rfl (lv_at hl 5 rfl) ?_
  refine lv_iload hx hb d_Law_law_797 (lv_at hl 1 rfl) ?_
  refine lv_iconst (v := nI 4) hx hb d_Law_law_799 (by decide) ?_
  refine lv_iadd hx hb d_Law_law_800 ?_
  refine lv_topi (fun t9 e9 => ?_)
  obtain rfl : t9 = nI (i + 4) := e9.trans (nI_add _ _)
  refine q_xld E hX (i + 4) rfl (by omega) (by omega) d_Law_law_801 ?_
  obtain ⟨w9, n9, hob⟩ := hM.ob
  refine q_cV (rest := []) E ((G_Model_combine l g (nM (b + 501)) (b + 501) th pn tn wm (xs (i + 1)) (xs (i + 2)) (xs (i + 3)) (xs (i + 4))).frV (nM_up hb0)) w_1203 w_15 w_1200 w_1201 w_1202 hd_Model_combine rfl ⟨by decide, by decide⟩ (OB.recv E.2.2.2.2.2 (by rfl) hob) hM hF hl.1 rfl (Nat.le_of_ble_eq_true rfl) d_Law_law_802 hc (qv (fun H2 locs hq6 hF => ?_))
  obtain ⟨hq6, hfr6⟩ := hq6
  have hX := hX.kept (hfr6.2 sb hX.lt (nM_lt hb0 hsb))
  clear hob hM
  rcases hq with ⟨hok, rfl, hG⟩ | ⟨hok, rfl, hG⟩
  · skip
    have hM : MP g (nM (b + 501)) H2 (b + 501) 0 pn tn wm := by
      rcases hq6 with ⟨-, h⟩ | ⟨h, -⟩
      · exact h
      · exact absurd hok h
    refine lv_goto (tgt := 1236) hx hb d_Law_law_805 (by decide) ?_
    have hl : lv_has ls 8 [(4, .int (nI i)), (3, .ref (b + 510)), (2, .ref (b + 501)), (1, .ref b), (0, .ref sb)] := lv_sub hl [1, 2, 3, 4, 5] rfl
    exact hN _ _ ls _ _ _ _ _ (hG.frq hb0 hfr6) hM hX hF hl
  · skip
    have hM : MP g (nM (b + 501)) H2 (b + 501) 1 pn tn wm := by
      rcases hq6 with ⟨h, -⟩ | ⟨-, h⟩
      · exact absurd h hok
      · exact h
    refine lv_goto (tgt := 1236) hx hb d_Law_law_805 (by decide) ?_
    have hl : lv_has ls 8 [(4, .int (nI i)), (3, .ref (b + 510)), (2, .ref (b + 501)), (1, .ref b), (0, .ref sb)] := lv_sub hl [1, 2, 3, 4, 5] rfl
    exact hN _ _ ls _ _ _ _ _ (hG.frq hb0 hfr6) hM hX hF hl
set_option maxHeartbeats 4000000 in
set_option maxRecDepth 100000 in
theorem k_same {p : Program} {l : Launch} {e : Env} {s : State} {m : MethodId} {below : List Frame} {meth : Method} {c : Code} {g : WG} {sb L : Nat} {xs : Nat → Int32} {b : Nat} {mr mq : Int64} {H : Heap} {locs : List Loc} {ls : Array Slot} {th : Int32} {pn tn wn wm i cells slots : Nat} (E : EV p m c code 8 s #[Value.ref sb] "KateDeskLaw" g) (hr : meth.sig.returnType = ret) (hlk : meth.locks = false) (hb0 : s.heap.size ≤ b) (hsb : sb < s.heap.size) (hxs : XS l s) (hL : L ≤ 3072) (hi : i + 6 ≤ L) (hc : cells + 1 ≤ room_1.cells ∧ slots + 6 ≤ room_1.slots) (hN : LNX p l e s m below meth c g sb L xs b mr mq i (cells + 1) (slots + 6)) (hG : LG g s H b pn tn wn mr mq) (hM : MP g (nM (b + 501)) H (b + 501) th pn tn wm) (hX : va_X sb L xs s H) (hF : ∀ q ∈ locs, HXA s q.base) (hl : lv_has ls 8 [(4, .int (nI i)), (3, .ref (b + 510)), (2, .ref (b + 501)), (1, .ref b), (0, .ref sb)]) : W p l e room_1 s m #[Value.ref sb] below meth c H locs cells slots (lw_Z below #[Value.ref sb] s) (F0 m 808 ls []) := by
  have hx := E.1
  have hb := E.2.1
  have hK := E.2.2.2.2.2
  have hw0 := State.WarmedH.refl s
  have hbd := hM.2.2.2.2.1
  refine lv_aload_n hx hb d_Law_law_808 rfl (lv_at hl 3 rfl) ?_
  refine lv_aload_n hx hb d_Law_law_809 rfl (lv_at hl 4 rfl) ?_
  refine lv_iload hx hb d_Law_law_810 (lv_at hl 0 rfl) ?_
  refine lv_iconst (v := nI 1) hx hb d_Law_law_812 (by decide) ?_
  refine lv_iadd hx hb d_Law_law_813 ?_
  refine lv_topi (fun t9 e9 => ?_)
  obtain rfl : t9 = nI (i + 1) := e9.trans (nI_add _ _)
  refine q_xld E hX (i + 1) rfl (by omega) (by omega) d_Law_law_814 ?_
  refine lv_aload_n hx hb d_Law_law_815 rfl (lv_at hl 4 rfl) ?_
  refine lv_iload hx hb d_Law_law_816 (lv_at hl 0 rfl) ?_
  refine lv_iconst (v := nI 2) hx hb d_Law_law_818 (by decide) ?_
  refine lv_iadd hx hb d_Law_law_819 ?_
  refine lv_topi (fun t9 e9 => ?_)
  obtain rfl : t9 = nI (i + 2) := e9.trans (nI_add _ _)
  refine q_xld E hX (i + 2) rfl (by omega) (by omega) d_Law_law_820 ?_
  refine lv_aload_n hx hb d_Law_law_821 rfl (lv_at hl 1 rfl) ?_
  refine q_cSH (rest := []) E hw0 (H_same l g s hxs b pn tn wn mr mq hb0 (xs (i + 1)) (xs (i + 2))) w_802 w_0 w_800 w_801 hd_Law_same rfl ⟨by decide, by decide⟩ hG hF hl.1 rfl (Nat.le_of_ble_eq_true rfl) d_Law_law_822 hc (qi (fun r5 H1 locs hq hF => ?_))
  obtain ⟨hq, hfr⟩ := hq
  have hX := hX.kept (hfr sb (Or.inl (Nat.lt_of_lt_of_le hsb hb0)))
  have hM := hM.on (fun q h1 h2 => hfr q (Or.inr ⟨h1, h2⟩))
  refine lv_istore (lv' := [(5, .int r5), (4, .int (nI i)), (3, .ref (b + 510)), (2, .ref (b + 501)), (1, .ref b), (0, .ref sb)]) hx hb d_Law_law_825 hl (by decide) rfl (fun ls hl => ?_)
  refine lv_aload_n hx hb d_Law_law_827 rfl (lv_at hl 3 rfl) ?_
  refine lv_aload_n hx hb d_Law_law_828 rfl (lv_at hl 5 rfl) ?_
  refine lv_iload hx hb d_Law_law_829 (lv_at hl 1 rfl) ?_
  refine lv_iconst (v := nI 1) hx hb d_Law_law_831 (by decide) ?_
  refine lv_iadd hx hb d_Law_law_832 ?_
  refine lv_topi (fun t9 e9 => ?_)
  obtain rfl : t9 = nI (i + 1) := e9.trans (nI_add _ _)
  refine q_xld E hX (i + 1) rfl (by omega) (by omega) d_Law_law_833 ?_
  refine lv_aload_n hx hb d_Law_law_834 rfl (lv_at hl 5 rfl) ?_
  refine lv_iload hx hb d_Law_law_835 (lv_at hl 1 rfl) ?_
  refine lv_iconst (v := nI 2) hx hb d_Law_law_837 (by decide) ?_
  refine lv_iadd hx hb d_Law_law_838 ?_
  refine lv_topi (fun t9 e9 => ?_)
  obtain rfl : t9 = nI (i + 2) := e9.trans (nI_add _ _)
  refine q_xld E hX (i + 2) rfl (by omega) (by omega) d_Law_law_839 ?_
  obtain ⟨w9, n9, hob⟩ := hM.ob
  refine q_cV (rest := []) E ((G_Model_same l g (nM (b + 501)) (b + 501) th pn tn wm (xs (i + 1)) (xs (i + 2))).frI (nM_up hb0)) w_1214 w_15 w_1211 w_1212 w_1213 hd_Model_same rfl ⟨by decide, by decide⟩ (OB.recv E.2.2.2.2.2 (by rfl) hob) hM hF hl.1 rfl (Nat.le_of_ble_eq_true rfl) d_Law_law_840 hc (qi (fun r6 H2 locs hq6 hF => ?_))
  obtain ⟨hq6, hfr6⟩ := hq6
  have hX := hX.kept (hfr6.2 sb hX.lt (nM_lt hb0 hsb))
  clear hob hM
  rcases hq with ⟨hok, rfl, hG⟩ | ⟨hok, rfl, hG⟩
  · skip
    have hM : MP g (nM (b + 501)) H2 (b + 501) 0 pn tn wm := by
      rcases hq6 with ⟨-, h⟩ | ⟨h, -⟩
      · exact h
      · exact absurd hok h
    refine lv_istore (lv' := [(6, .int r6), (5, .int (nI 0)), (4, .int (nI i)), (3, .ref (b + 510)), (2, .ref (b + 501)), (1, .ref b), (0, .ref sb)]) hx hb d_Law_law_843 hl (by decide) rfl (fun ls hl => ?_)
    refine lv_goto (tgt := 1236) hx hb d_Law_law_845 (by decide) ?_
    have hl : lv_has ls 8 [(4, .int (nI i)), (3, .ref (b + 510)), (2, .ref (b + 501)), (1, .ref b), (0, .ref sb)] := lv_sub hl [2, 3, 4, 5, 6] rfl
    exact hN _ _ ls _ _ _ _ _ (hG.frq hb0 hfr6) hM hX hF hl
  · skip
    have hM : MP g (nM (b + 501)) H2 (b + 501) 1 pn tn wm := by
      rcases hq6 with ⟨h, -⟩ | ⟨-, h⟩
      · exact absurd h hok
      · exact h
    refine lv_istore (lv' := [(6, .int r6), (5, .int (nI 1)), (4, .int (nI i)), (3, .ref (b + 510)), (2, .ref (b + 501)), (1, .ref b), (0, .ref sb)]) hx hb d_Law_law_843 hl (by decide) rfl (fun ls hl => ?_)
    refine lv_goto (tgt := 1236) hx hb d_Law_law_845 (by decide) ?_
    have hl : lv_has ls 8 [(4, .int (nI i)), (3, .ref (b + 510)), (2, .ref (b + 501)), (1, .ref b), (0, .ref sb)] := lv_sub hl [2, 3, 4, 5, 6] rfl
    exact hN _ _ ls _ _ _ _ _ (hG.frq hb0 hfr6) hM hX hF hl
set_option maxHeartbeats 4000000 in
set_option maxRecDepth 100000 in
theorem k_setup {p : Program} {l : Launch} {e : Env} {s : State} {m : MethodId} {below : List Frame} {meth : Method} {c : Code} {g : WG} {sb L : Nat} {xs : Nat → Int32} {b : Nat} {mr mq : Int64} {H : Heap} {locs : List Loc} {ls : Array Slot} {th : Int32} {pn tn wn wm i cells slots : Nat} (E : EV p m c code 8 s #[Value.ref sb] "KateDeskLaw" g) (hr : meth.sig.returnType = ret) (hlk : meth.locks = false) (hb0 : s.heap.size ≤ b) (hsb : sb < s.heap.size) (hxs : XS l s) (hL : L ≤ 3072) (hi : i + 6 ≤ L) (hc : cells + 1 ≤ room_1.cells ∧ slots + 6 ≤ room_1.slots) (hN : LNX p l e s m below meth c g sb L xs b mr mq i (cells + 1) (slots + 6)) (hG : LG g s H b pn tn wn mr mq) (hM : MP g (nM (b + 501)) H (b + 501) th pn tn wm) (hX : va_X sb L xs s H) (hF : ∀ q ∈ locs, HXA s q.base) (hl : lv_has ls 8 [(4, .int (nI i)), (3, .ref (b + 510)), (2, .ref (b + 501)), (1, .ref b), (0, .ref sb)]) : W p l e room_1 s m #[Value.ref sb] below meth c H locs cells slots (lw_Z below #[Value.ref sb] s) (F0 m 848 ls []) := by
  have hx := E.1
  have hb := E.2.1
  have hK := E.2.2.2.2.2
  have hw0 := State.WarmedH.refl s
  have hbd := hM.2.2.2.2.1
  refine lv_aload_n hx hb d_Law_law_848 rfl (lv_at hl 3 rfl) ?_
  refine lv_aload_n hx hb d_Law_law_849 rfl (lv_at hl 4 rfl) ?_
  refine lv_iload hx hb d_Law_law_850 (lv_at hl 0 rfl) ?_
  refine lv_iconst (v := nI 1) hx hb d_Law_law_852 (by decide) ?_
  refine lv_iadd hx hb d_Law_law_853 ?_
  refine lv_topi (fun t9 e9 => ?_)
  obtain rfl : t9 = nI (i + 1) := e9.trans (nI_add _ _)
  refine q_xld E hX (i + 1) rfl (by omega) (by omega) d_Law_law_854 ?_
  refine lv_aload_n hx hb d_Law_law_855 rfl (lv_at hl 4 rfl) ?_
  refine lv_iload hx hb d_Law_law_856 (lv_at hl 0 rfl) ?_
  refine lv_iconst (v := nI 2) hx hb d_Law_law_858 (by decide) ?_
  refine lv_iadd hx hb d_Law_law_859 ?_
  refine lv_topi (fun t9 e9 => ?_)
  obtain rfl : t9 = nI (i + 2) := e9.trans (nI_add _ _)
  refine q_xld E hX (i + 2) rfl (by omega) (by omega) d_Law_law_860 ?_
  refine q_cSH (rest := []) E hw0 (H_setup l g s hxs b pn tn wn mr mq hb0 (xs (i + 1)) (xs (i + 2))) w_818 w_0 w_816 w_817 hd_Law_setup rfl ⟨by decide, by decide⟩ hG hF hl.1 rfl (Nat.le_of_ble_eq_true rfl) d_Law_law_861 hc (qi (fun r5 H1 locs hq hF => ?_))
  obtain ⟨hq, hfr⟩ := hq
  have hX := hX.kept (hfr sb (Or.inl (Nat.lt_of_lt_of_le hsb hb0)))
  have hM := hM.on (fun q h1 h2 => hfr q (Or.inr ⟨h1, h2⟩))
  refine lv_istore (lv' := [(5, .int r5), (4, .int (nI i)), (3, .ref (b + 510)), (2, .ref (b + 501)), (1, .ref b), (0, .ref sb)]) hx hb d_Law_law_864 hl (by decide) rfl (fun ls hl => ?_)
  refine lv_aload_n hx hb d_Law_law_866 rfl (lv_at hl 3 rfl) ?_
  refine lv_aload_n hx hb d_Law_law_867 rfl (lv_at hl 5 rfl) ?_
  refine lv_iload hx hb d_Law_law_868 (lv_at hl 1 rfl) ?_
  refine lv_iconst (v := nI 1) hx hb d_Law_law_870 (by decide) ?_
  refine lv_iadd hx hb d_Law_law_871 ?_
  refine lv_topi (fun t9 e9 => ?_)
  obtain rfl : t9 = nI (i + 1) := e9.trans (nI_add _ _)
  refine q_xld E hX (i + 1) rfl (by omega) (by omega) d_Law_law_872 ?_
  refine lv_aload_n hx hb d_Law_law_873 rfl (lv_at hl 5 rfl) ?_
  refine lv_iload hx hb d_Law_law_874 (lv_at hl 1 rfl) ?_
  refine lv_iconst (v := nI 2) hx hb d_Law_law_876 (by decide) ?_
  refine lv_iadd hx hb d_Law_law_877 ?_
  refine lv_topi (fun t9 e9 => ?_)
  obtain rfl : t9 = nI (i + 2) := e9.trans (nI_add _ _)
  refine q_xld E hX (i + 2) rfl (by omega) (by omega) d_Law_law_878 ?_
  obtain ⟨w9, n9, hob⟩ := hM.ob
  refine q_cV (rest := []) E ((G_Model_setup l g (nM (b + 501)) (b + 501) th pn tn wm (xs (i + 1)) (xs (i + 2))).frV (nM_up hb0)) w_1222 w_15 w_1219 w_1220 w_1221 hd_Model_setup rfl ⟨by decide, by decide⟩ (OB.recv E.2.2.2.2.2 (by rfl) hob) hM hF hl.1 rfl (Nat.le_of_ble_eq_true rfl) d_Law_law_879 hc (qv (fun H2 locs hq6 hF => ?_))
  obtain ⟨hq6, hfr6⟩ := hq6
  have hX := hX.kept (hfr6.2 sb hX.lt (nM_lt hb0 hsb))
  clear hob hM
  rcases hq with ⟨hok, rfl, hG⟩ | ⟨hok, rfl, hG⟩
  · skip
    obtain ⟨k9, e9, hG⟩ := hG
    have h69 : ∃ k8, (xs (i + 2)) = nI k8 ∧ MP g (nM (b + 501)) H2 (b + 501) 0 k8 tn wm := by
      rcases hq6 with ⟨-, h⟩ | ⟨h, -⟩
      · exact h
      · exact absurd hok h
    obtain ⟨k8, e8, hM⟩ := h69
    obtain rfl := eq16 (e8.symm.trans e9) (Nat.le_trans hM.2.2.2.2.1.1 (by decide)) (Nat.le_trans hG.d.2.2.2.2.1 (by decide))
    refine lv_aload_n hx hb d_Law_law_882 rfl (lv_at hl 3 rfl) ?_
    obtain ⟨w9, n9, hob⟩ := hM.ob
    refine q_cV (rest := []) E ((c_Model_thrown l g (nM (b + 501)) (b + 501) 0).up (nM_up hb0)) w_1048 w_15 w_1045 w_1046 w_1047 hd_Model_thrown rfl ⟨by decide, by decide⟩ (OB.recv E.2.2.2.2.2 (by rfl) hob) hM.th hF hl.1 rfl (Nat.le_of_ble_eq_true rfl) d_Law_law_883 hc (qi (fun r7 H3 locs hq7 hF => ?_))
    obtain ⟨rfl, hH7⟩ := hq7
    have hH7 := hH7.symm
    subst hH7
    refine lv_iload hx hb d_Law_law_886 (lv_at hl 0 rfl) ?_
    refine lv_icmp_eq (tgt := 893) hx hb d_Law_law_888 (by decide) (fun _ => ?_) (fun h9 => absurd (rfl) h9)
    refine lv_goto (tgt := 1236) hx hb d_Law_law_893 (by decide) ?_
    have hl : lv_has ls 8 [(4, .int (nI i)), (3, .ref (b + 510)), (2, .ref (b + 501)), (1, .ref b), (0, .ref sb)] := lv_sub hl [1, 2, 3, 4, 5] rfl
    exact hN _ _ ls _ _ _ _ _ (hG.frq hb0 hfr6) hM hX hF hl
  · skip
    have hM : MP g (nM (b + 501)) H2 (b + 501) 1 pn tn wm := by
      rcases hq6 with ⟨h, -⟩ | ⟨-, h⟩
      · exact absurd h hok
      · exact h
    refine lv_aload_n hx hb d_Law_law_882 rfl (lv_at hl 3 rfl) ?_
    obtain ⟨w9, n9, hob⟩ := hM.ob
    refine q_cV (rest := []) E ((c_Model_thrown l g (nM (b + 501)) (b + 501) 1).up (nM_up hb0)) w_1048 w_15 w_1045 w_1046 w_1047 hd_Model_thrown rfl ⟨by decide, by decide⟩ (OB.recv E.2.2.2.2.2 (by rfl) hob) hM.th hF hl.1 rfl (Nat.le_of_ble_eq_true rfl) d_Law_law_883 hc (qi (fun r7 H3 locs hq7 hF => ?_))
    obtain ⟨rfl, hH7⟩ := hq7
    have hH7 := hH7.symm
    subst hH7
    refine lv_iload hx hb d_Law_law_886 (lv_at hl 0 rfl) ?_
    refine lv_icmp_eq (tgt := 893) hx hb d_Law_law_888 (by decide) (fun _ => ?_) (fun h9 => absurd (rfl) h9)
    refine lv_goto (tgt := 1236) hx hb d_Law_law_893 (by decide) ?_
    have hl : lv_has ls 8 [(4, .int (nI i)), (3, .ref (b + 510)), (2, .ref (b + 501)), (1, .ref b), (0, .ref sb)] := lv_sub hl [1, 2, 3, 4, 5] rfl
    exact hN _ _ ls _ _ _ _ _ (hG.frq hb0 hfr6) hM hX hF hl
set_option maxHeartbeats 4000000 in
set_option maxRecDepth 100000 in
theorem k_commit {p : Program} {l : Launch} {e : Env} {s : State} {m : MethodId} {below : List Frame} {meth : Method} {c : Code} {g : WG} {sb L : Nat} {xs : Nat → Int32} {b : Nat} {mr mq : Int64} {H : Heap} {locs : List Loc} {ls : Array Slot} {th : Int32} {pn tn wn wm i cells slots : Nat} (E : EV p m c code 8 s #[Value.ref sb] "KateDeskLaw" g) (hr : meth.sig.returnType = ret) (hlk : meth.locks = false) (hb0 : s.heap.size ≤ b) (hsb : sb < s.heap.size) (hxs : XS l s) (hno : va_Nc "java/lang/IllegalStateException" "java/lang/IllegalArgumentException" s) (hL : L ≤ 3072) (hi : i + 6 ≤ L) (hc : cells + 1 ≤ room_1.cells ∧ slots + 6 ≤ room_1.slots) (hN : LNX p l e s m below meth c g sb L xs b mr mq i (cells + 1) (slots + 6)) (hG : LG g s H b pn tn wn mr mq) (hM : MP g (nM (b + 501)) H (b + 501) th pn tn wm) (hX : va_X sb L xs s H) (hF : ∀ q ∈ locs, HXA s q.base) (hl : lv_has ls 8 [(4, .int (nI i)), (3, .ref (b + 510)), (2, .ref (b + 501)), (1, .ref b), (0, .ref sb)]) : W p l e room_1 s m #[Value.ref sb] below meth c H locs cells slots (lw_Z below #[Value.ref sb] s) (F0 m 896 ls []) := by
  have hx := E.1
  have hb := E.2.1
  have hK := E.2.2.2.2.2
  have hw0 := State.WarmedH.refl s
  have hbd := hM.2.2.2.2.1
  refine lv_aload_n hx hb d_Law_law_896 rfl (lv_at hl 3 rfl) ?_
  refine lv_aload_n hx hb d_Law_law_897 rfl (lv_at hl 4 rfl) ?_
  refine lv_iload hx hb d_Law_law_898 (lv_at hl 0 rfl) ?_
  refine lv_iconst (v := nI 1) hx hb d_Law_law_900 (by decide) ?_
  refine lv_iadd hx hb d_Law_law_901 ?_
  refine lv_topi (fun t9 e9 => ?_)
  obtain rfl : t9 = nI (i + 1) := e9.trans (nI_add _ _)
  refine q_xld E hX (i + 1) rfl (by omega) (by omega) d_Law_law_902 ?_
  refine lv_aload_n hx hb d_Law_law_903 rfl (lv_at hl 4 rfl) ?_
  refine lv_iload hx hb d_Law_law_904 (lv_at hl 0 rfl) ?_
  refine lv_iconst (v := nI 2) hx hb d_Law_law_906 (by decide) ?_
  refine lv_iadd hx hb d_Law_law_907 ?_
  refine lv_topi (fun t9 e9 => ?_)
  obtain rfl : t9 = nI (i + 2) := e9.trans (nI_add _ _)
  refine q_xld E hX (i + 2) rfl (by omega) (by omega) d_Law_law_908 ?_
  refine lv_aload_n hx hb d_Law_law_909 rfl (lv_at hl 4 rfl) ?_
  refine lv_iload hx hb d_Law_law_910 (lv_at hl 0 rfl) ?_
  refine lv_iconst (v := nI 3) hx hb d_Law_law_912 (by decide) ?_
  refine lv_iadd hx hb d_Law_law_913 ?_
  refine lv_topi (fun t9 e9 => ?_)
  obtain rfl : t9 = nI (i + 3) := e9.trans (nI_add _ _)
  refine q_xld E hX (i + 3) rfl (by omega) (by omega) d_Law_law_914 ?_
  refine q_cSH (rest := []) E hw0 (H_commit l g s hxs b pn tn wn mr mq hb0 (xs (i + 1)) (xs (i + 2)) (xs (i + 3)) hno) w_836 w_0 w_834 w_835 hd_Law_commit rfl ⟨by decide, by decide⟩ hG hF hl.1 rfl (Nat.le_of_ble_eq_true rfl) d_Law_law_915 hc (qi (fun r5 H1 locs hq hF => ?_))
  obtain ⟨hq, hfr⟩ := hq
  have hX := hX.kept (hfr sb (Or.inl (Nat.lt_of_lt_of_le hsb hb0)))
  have hM := hM.on (fun q h1 h2 => hfr q (Or.inr ⟨h1, h2⟩))
  refine lv_istore (lv' := [(5, .int r5), (4, .int (nI i)), (3, .ref (b + 510)), (2, .ref (b + 501)), (1, .ref b), (0, .ref sb)]) hx hb d_Law_law_918 hl (by decide) rfl (fun ls hl => ?_)
  refine lv_aload_n hx hb d_Law_law_920 rfl (lv_at hl 3 rfl) ?_
  refine lv_aload_n hx hb d_Law_law_921 rfl (lv_at hl 5 rfl) ?_
  refine lv_iload hx hb d_Law_law_922 (lv_at hl 1 rfl) ?_
  refine lv_iconst (v := nI 1) hx hb d_Law_law_924 (by decide) ?_
  refine lv_iadd hx hb d_Law_law_925 ?_
  refine lv_topi (fun t9 e9 => ?_)
  obtain rfl : t9 = nI (i + 1) := e9.trans (nI_add _ _)
  refine q_xld E hX (i + 1) rfl (by omega) (by omega) d_Law_law_926 ?_
  refine lv_aload_n hx hb d_Law_law_927 rfl (lv_at hl 5 rfl) ?_
  refine lv_iload hx hb d_Law_law_928 (lv_at hl 1 rfl) ?_
  refine lv_iconst (v := nI 2) hx hb d_Law_law_930 (by decide) ?_
  refine lv_iadd hx hb d_Law_law_931 ?_
  refine lv_topi (fun t9 e9 => ?_)
  obtain rfl : t9 = nI (i + 2) := e9.trans (nI_add _ _)
  refine q_xld E hX (i + 2) rfl (by omega) (by omega) d_Law_law_932 ?_
  refine lv_aload_n hx hb d_Law_law_933 rfl (lv_at hl 5 rfl) ?_
  refine lv_iload hx hb d_Law_law_934 (lv_at hl 1 rfl) ?_
  refine lv_iconst (v := nI 3) hx hb d_Law_law_936 (by decide) ?_
  refine lv_iadd hx hb d_Law_law_937 ?_
  refine lv_topi (fun t9 e9 => ?_)
  obtain rfl : t9 = nI (i + 3) := e9.trans (nI_add _ _)
  refine q_xld E hX (i + 3) rfl (by omega) (by omega) d_Law_law_938 ?_
  obtain ⟨w9, n9, hob⟩ := hM.ob
  refine q_cV (rest := []) E ((G_Model_commit l g (nM (b + 501)) (b + 501) th pn tn wm (xs (i + 1)) (xs (i + 2)) (xs (i + 3))).frV (nM_up hb0)) w_1227 w_15 w_1224 w_1225 w_1226 hd_Model_commit rfl ⟨by decide, by decide⟩ (OB.recv E.2.2.2.2.2 (by rfl) hob) hM hF hl.1 rfl (Nat.le_of_ble_eq_true rfl) d_Law_law_939 hc (qv (fun H2 locs hq6 hF => ?_))
  obtain ⟨hq6, hfr6⟩ := hq6
  have hX := hX.kept (hfr6.2 sb hX.lt (nM_lt hb0 hsb))
  clear hob hM
  rcases hq with ⟨hok, ⟨h3, rfl, hG⟩ | ⟨h3, rfl, hG⟩⟩ | ⟨hok, rfl, hG⟩
  · skip
    have hM : MP g (nM (b + 501)) H2 (b + 501) 0 pn tn wm := by
      rcases hq6 with ⟨-, ⟨-, h⟩ | ⟨h, -⟩⟩ | ⟨h, -⟩
      · exact h
      · exact absurd h3 h
      · exact absurd hok h
    refine lv_goto (tgt := 1236) hx hb d_Law_law_942 (by decide) ?_
    have hl : lv_has ls 8 [(4, .int (nI i)), (3, .ref (b + 510)), (2, .ref (b + 501)), (1, .ref b), (0, .ref sb)] := lv_sub hl [1, 2, 3, 4, 5] rfl
    exact hN _ _ ls _ _ _ _ _ (hG.frq hb0 hfr6) hM hX hF hl
  · skip
    have hM : MP g (nM (b + 501)) H2 (b + 501) (nI 2) pn tn wm := by
      rcases hq6 with ⟨-, ⟨h, -⟩ | ⟨-, h⟩⟩ | ⟨h, -⟩
      · exact absurd h h3
      · exact h
      · exact absurd hok h
    refine lv_goto (tgt := 1236) hx hb d_Law_law_942 (by decide) ?_
    have hl : lv_has ls 8 [(4, .int (nI i)), (3, .ref (b + 510)), (2, .ref (b + 501)), (1, .ref b), (0, .ref sb)] := lv_sub hl [1, 2, 3, 4, 5] rfl
    exact hN _ _ ls _ _ _ _ _ (hG.frq hb0 hfr6) hM hX hF hl
  · skip
    have hM : MP g (nM (b + 501)) H2 (b + 501) 1 pn tn wm := by
      rcases hq6 with ⟨h, -⟩ | ⟨-, h⟩
      · exact absurd h hok
      · exact h
    refine lv_goto (tgt := 1236) hx hb d_Law_law_942 (by decide) ?_
    have hl : lv_has ls 8 [(4, .int (nI i)), (3, .ref (b + 510)), (2, .ref (b + 501)), (1, .ref b), (0, .ref sb)] := lv_sub hl [1, 2, 3, 4, 5] rfl
    exact hN _ _ ls _ _ _ _ _ (hG.frq hb0 hfr6) hM hX hF hl
set_option maxHeartbeats 4000000 in
set_option maxRecDepth 100000 in
theorem k_open {p : Program} {l : Launch} {e : Env} {s : State} {m : MethodId} {below : List Frame} {meth : Method} {c : Code} {g : WG} {sb L : Nat} {xs : Nat → Int32} {b : Nat} {mr mq : Int64} {H : Heap} {locs : List Loc} {ls : Array Slot} {th : Int32} {pn tn wn wm i cells slots : Nat} (E : EV p m c code 8 s #[Value.ref sb] "KateDeskLaw" g) (hr : meth.sig.returnType = ret) (hlk : meth.locks = false) (hb0 : s.heap.size ≤ b) (hsb : sb < s.heap.size) (hxs : XS l s) (hL : L ≤ 3072) (hi : i + 6 ≤ L) (hc : cells + 1 ≤ room_1.cells ∧ slots + 6 ≤ room_1.slots) (hN : LNX p l e s m below meth c g sb L xs b mr mq i (cells + 1) (slots + 6)) (hG : LG g s H b pn tn wn mr mq) (hM : MP g (nM (b + 501)) H (b + 501) th pn tn wm) (hX : va_X sb L xs s H) (hF : ∀ q ∈ locs, HXA s q.base) (hl : lv_has ls 8 [(4, .int (nI i)), (3, .ref (b + 510)), (2, .ref (b + 501)), (1, .ref b), (0, .ref sb)]) : W p l e room_1 s m #[Value.ref sb] below meth c H locs cells slots (lw_Z below #[Value.ref sb] s) (F0 m 945 ls []) := by
  have hx := E.1
  have hb := E.2.1
  have hK := E.2.2.2.2.2
  have hw0 := State.WarmedH.refl s
  have hbd := hM.2.2.2.2.1
  refine lv_aload_n hx hb d_Law_law_945 rfl (lv_at hl 3 rfl) ?_
  refine lv_aload_n hx hb d_Law_law_946 rfl (lv_at hl 4 rfl) ?_
  refine lv_iload hx hb d_Law_law_947 (lv_at hl 0 rfl) ?_
  refine lv_iconst (v := nI 1) hx hb d_Law_law_949 (by decide) ?_
  refine lv_iadd hx hb d_Law_law_950 ?_
  refine lv_topi (fun t9 e9 => ?_)
  obtain rfl : t9 = nI (i + 1) := e9.trans (nI_add _ _)
  refine q_xld E hX (i + 1) rfl (by omega) (by omega) d_Law_law_951 ?_
  refine lv_aload_n hx hb d_Law_law_952 rfl (lv_at hl 4 rfl) ?_
  refine lv_iload hx hb d_Law_law_953 (lv_at hl 0 rfl) ?_
  refine lv_iconst (v := nI 2) hx hb d_Law_law_955 (by decide) ?_
  refine lv_iadd hx hb d_Law_law_956 ?_
  refine lv_topi (fun t9 e9 => ?_)
  obtain rfl : t9 = nI (i + 2) := e9.trans (nI_add _ _)
  refine q_xld E hX (i + 2) rfl (by omega) (by omega) d_Law_law_957 ?_
  refine lv_aload_n hx hb d_Law_law_958 rfl (lv_at hl 4 rfl) ?_
  refine lv_iload hx hb d_Law_law_959 (lv_at hl 0 rfl) ?_
  refine lv_iconst (v := nI 3) hx hb d_Law_law_961 (by decide) ?_
  refine lv_iadd hx hb d_Law_law_962 ?_
  refine lv_topi (fun t9 e9 => ?_)
  obtain rfl : t9 = nI (i + 3) := e9.trans (nI_add _ _)
  refine q_xld E hX (i + 3) rfl (by omega) (by omega) d_Law_law_963 ?_
  refine lv_aload_n hx hb d_Law_law_964 rfl (lv_at hl 4 rfl) ?_
  refine lv_iload hx hb d_Law_law_965 (lv_at hl 0 rfl) ?_
  refine lv_iconst (v := nI 4) hx hb d_Law_law_967 (by decide) ?_
  refine lv_iadd hx hb d_Law_law_968 ?_
  refine lv_topi (fun t9 e9 => ?_)
  obtain rfl : t9 = nI (i + 4) := e9.trans (nI_add _ _)
  refine q_xld E hX (i + 4) rfl (by omega) (by omega) d_Law_law_969 ?_
  refine q_cSH (rest := []) E hw0 (H_open l g s hxs b pn tn wn mr mq hb0 (xs (i + 1)) (xs (i + 2)) (xs (i + 3)) (xs (i + 4))) w_844 w_0 w_842 w_843 hd_Law_open rfl ⟨by decide, by decide⟩ hG hF hl.1 rfl (Nat.le_of_ble_eq_true rfl) d_Law_law_970 hc (qi (fun r5 H1 locs hq hF => ?_))
  obtain ⟨hq, hfr⟩ := hq
  have hX := hX.kept (hfr sb (Or.inl (Nat.lt_of_lt_of_le hsb hb0)))
  have hM := hM.on (fun q h1 h2 => hfr q (Or.inr ⟨h1, h2⟩))
  refine lv_istore (lv' := [(5, .int r5), (4, .int (nI i)), (3, .ref (b + 510)), (2, .ref (b + 501)), (1, .ref b), (0, .ref sb)]) hx hb d_Law_law_973 hl (by decide) rfl (fun ls hl => ?_)
  refine lv_aload_n hx hb d_Law_law_975 rfl (lv_at hl 3 rfl) ?_
  refine lv_aload_n hx hb d_Law_law_976 rfl (lv_at hl 5 rfl) ?_
  refine lv_iload hx hb d_Law_law_977 (lv_at hl 1 rfl) ?_
  refine lv_iconst (v := nI 1) hx hb d_Law_law_979 (by decide) ?_
  refine lv_iadd hx hb d_Law_law_980 ?_
  refine lv_topi (fun t9 e9 => ?_)
  obtain rfl : t9 = nI (i + 1) := e9.trans (nI_add _ _)
  refine q_xld E hX (i + 1) rfl (by omega) (by omega) d_Law_law_981 ?_
  refine lv_aload_n hx hb d_Law_law_982 rfl (lv_at hl 5 rfl) ?_
  refine lv_iload hx hb d_Law_law_983 (lv_at hl 1 rfl) ?_
  refine lv_iconst (v := nI 2) hx hb d_Law_law_985 (by decide) ?_
  refine lv_iadd hx hb d_Law_law_986 ?_
  refine lv_topi (fun t9 e9 => ?_)
  obtain rfl : t9 = nI (i + 2) := e9.trans (nI_add _ _)
  refine q_xld E hX (i + 2) rfl (by omega) (by omega) d_Law_law_987 ?_
  refine lv_aload_n hx hb d_Law_law_988 rfl (lv_at hl 5 rfl) ?_
  refine lv_iload hx hb d_Law_law_989 (lv_at hl 1 rfl) ?_
  refine lv_iconst (v := nI 3) hx hb d_Law_law_991 (by decide) ?_
  refine lv_iadd hx hb d_Law_law_992 ?_
  refine lv_topi (fun t9 e9 => ?_)
  obtain rfl : t9 = nI (i + 3) := e9.trans (nI_add _ _)
  refine q_xld E hX (i + 3) rfl (by omega) (by omega) d_Law_law_993 ?_
  refine lv_aload_n hx hb d_Law_law_994 rfl (lv_at hl 5 rfl) ?_
  refine lv_iload hx hb d_Law_law_995 (lv_at hl 1 rfl) ?_
  refine lv_iconst (v := nI 4) hx hb d_Law_law_997 (by decide) ?_
  refine lv_iadd hx hb d_Law_law_998 ?_
  refine lv_topi (fun t9 e9 => ?_)
  obtain rfl : t9 = nI (i + 4) := e9.trans (nI_add _ _)
  refine q_xld E hX (i + 4) rfl (by omega) (by omega) d_Law_law_999 ?_
  obtain ⟨w9, n9, hob⟩ := hM.ob
  refine q_cV (rest := []) E ((G_Model_open l g (nM (b + 501)) (b + 501) th pn tn wm (xs (i + 1)) (xs (i + 2)) (xs (i + 3)) (xs (i + 4))).frV (nM_up hb0)) w_1231 w_15 w_1228 w_1229 w_1230 hd_Model_open rfl ⟨by decide, by decide⟩ (OB.recv E.2.2.2.2.2 (by rfl) hob) hM hF hl.1 rfl (Nat.le_of_ble_eq_true rfl) d_Law_law_1000 hc (qv (fun H2 locs hq6 hF => ?_))
  obtain ⟨hq6, hfr6⟩ := hq6
  have hX := hX.kept (hfr6.2 sb hX.lt (nM_lt hb0 hsb))
  clear hob hM
  rcases hq with ⟨hok, rfl, hG⟩ | ⟨hok, rfl, hG⟩
  · skip
    have hM : MP g (nM (b + 501)) H2 (b + 501) 0 pn tn wm := by
      rcases hq6 with ⟨-, h⟩ | ⟨h, -⟩
      · exact h
      · exact absurd hok h
    refine lv_goto (tgt := 1236) hx hb d_Law_law_1003 (by decide) ?_
    have hl : lv_has ls 8 [(4, .int (nI i)), (3, .ref (b + 510)), (2, .ref (b + 501)), (1, .ref b), (0, .ref sb)] := lv_sub hl [1, 2, 3, 4, 5] rfl
    exact hN _ _ ls _ _ _ _ _ (hG.frq hb0 hfr6) hM hX hF hl
  · skip
    have hM : MP g (nM (b + 501)) H2 (b + 501) 1 pn tn wm := by
      rcases hq6 with ⟨h, -⟩ | ⟨-, h⟩
      · exact absurd h hok
      · exact h
    refine lv_goto (tgt := 1236) hx hb d_Law_law_1003 (by decide) ?_
    have hl : lv_has ls 8 [(4, .int (nI i)), (3, .ref (b + 510)), (2, .ref (b + 501)), (1, .ref b), (0, .ref sb)] := lv_sub hl [1, 2, 3, 4, 5] rfl
    exact hN _ _ ls _ _ _ _ _ (hG.frq hb0 hfr6) hM hX hF hl
set_option maxHeartbeats 4000000 in
set_option maxRecDepth 100000 in
theorem k_checks {p : Program} {l : Launch} {e : Env} {s : State} {m : MethodId} {below : List Frame} {meth : Method} {c : Code} {g : WG} {sb L : Nat} {xs : Nat → Int32} {b : Nat} {mr mq : Int64} {H : Heap} {locs : List Loc} {ls : Array Slot} {th : Int32} {pn tn wn wm i cells slots : Nat} (E : EV p m c code 8 s #[Value.ref sb] "KateDeskLaw" g) (hr : meth.sig.returnType = ret) (hlk : meth.locks = false) (hb0 : s.heap.size ≤ b) (hsb : sb < s.heap.size) (hxs : XS l s) (hL : L ≤ 3072) (hi : i + 6 ≤ L) (hc : cells + 1 ≤ room_1.cells ∧ slots + 6 ≤ room_1.slots) (hN : LNX p l e s m below meth c g sb L xs b mr mq i (cells + 1) (slots + 6)) (hG : LG g s H b pn tn wn mr mq) (hM : MP g (nM (b + 501)) H (b + 501) th pn tn wm) (hX : va_X sb L xs s H) (hF : ∀ q ∈ locs, HXA s q.base) (hl : lv_has ls 8 [(4, .int (nI i)), (3, .ref (b + 510)), (2, .ref (b + 501)), (1, .ref b), (0, .ref sb)]) : W p l e room_1 s m #[Value.ref sb] below meth c H locs cells slots (lw_Z below #[Value.ref sb] s) (F0 m 1006 ls []) := by
  have hx := E.1
  have hb := E.2.1
  have hK := E.2.2.2.2.2
  have hw0 := State.WarmedH.refl s
  have hbd := hM.2.2.2.2.1
  refine lv_aload_n hx hb d_Law_law_1006 rfl (lv_at hl 3 rfl) ?_
  refine lv_aload_n hx hb d_Law_law_1007 rfl (lv_at hl 4 rfl) ?_
  refine lv_iload hx hb d_Law_law_1008 (lv_at hl 0 rfl) ?_
  refine lv_iconst (v := nI 1) hx hb d_Law_law_1010 (by decide) ?_
  refine lv_iadd hx hb d_Law_law_1011 ?_
  refine lv_topi (fun t9 e9 => ?_)
  obtain rfl : t9 = nI (i + 1) := e9.trans (nI_add _ _)
  refine q_xld E hX (i + 1) rfl (by omega) (by omega) d_Law_law_1012 ?_
  refine lv_aload_n hx hb d_Law_law_1013 rfl (lv_at hl 4 rfl) ?_
  refine lv_iload hx hb d_Law_law_1014 (lv_at hl 0 rfl) ?_
  refine lv_iconst (v := nI 2) hx hb d_Law_law_1016 (by decide) ?_
  refine lv_iadd hx hb d_Law_law_1017 ?_
  refine lv_topi (fun t9 e9 => ?_)
  obtain rfl : t9 = nI (i + 2) := e9.trans (nI_add _ _)
  refine q_xld E hX (i + 2) rfl (by omega) (by omega) d_Law_law_1018 ?_
  refine lv_aload_n hx hb d_Law_law_1019 rfl (lv_at hl 4 rfl) ?_
  refine lv_iload hx hb d_Law_law_1020 (lv_at hl 0 rfl) ?_
  refine lv_iconst (v := nI 3) hx hb d_Law_law_1022 (by decide) ?_
  refine lv_iadd hx hb d_Law_law_1023 ?_
  refine lv_topi (fun t9 e9 => ?_)
  obtain rfl : t9 = nI (i + 3) := e9.trans (nI_add _ _)
  refine q_xld E hX (i + 3) rfl (by omega) (by omega) d_Law_law_1024 ?_
  refine lv_aload_n hx hb d_Law_law_1025 rfl (lv_at hl 4 rfl) ?_
  refine lv_iload hx hb d_Law_law_1026 (lv_at hl 0 rfl) ?_
  refine lv_iconst (v := nI 4) hx hb d_Law_law_1028 (by decide) ?_
  refine lv_iadd hx hb d_Law_law_1029 ?_
  refine lv_topi (fun t9 e9 => ?_)
  obtain rfl : t9 = nI (i + 4) := e9.trans (nI_add _ _)
  refine q_xld E hX (i + 4) rfl (by omega) (by omega) d_Law_law_1030 ?_
  refine lv_aload_n hx hb d_Law_law_1031 rfl (lv_at hl 4 rfl) ?_
  refine lv_iload hx hb d_Law_law_1032 (lv_at hl 0 rfl) ?_
  refine lv_iconst (v := nI 5) hx hb d_Law_law_1034 (by decide) ?_
  refine lv_iadd hx hb d_Law_law_1035 ?_
  refine lv_topi (fun t9 e9 => ?_)
  obtain rfl : t9 = nI (i + 5) := e9.trans (nI_add _ _)
  refine q_xld E hX (i + 5) rfl (by omega) (by omega) d_Law_law_1036 ?_
  refine lv_aload_n hx hb d_Law_law_1037 rfl (lv_at hl 1 rfl) ?_
  refine q_cSH (rest := []) E hw0 (H_checks l g s hxs b pn tn wn mr mq hb0 (xs (i + 1)) (xs (i + 2)) (xs (i + 3)) (xs (i + 4)) (xs (i + 5))) w_859 w_0 w_857 w_858 hd_Law_checks rfl ⟨by decide, by decide⟩ hG hF hl.1 rfl (Nat.le_of_ble_eq_true rfl) d_Law_law_1038 hc (qi (fun r5 H1 locs hq hF => ?_))
  obtain ⟨hq, hfr⟩ := hq
  have hX := hX.kept (hfr sb (Or.inl (Nat.lt_of_lt_of_le hsb hb0)))
  have hM := hM.on (fun q h1 h2 => hfr q (Or.inr ⟨h1, h2⟩))
  refine lv_istore (lv' := [(5, .int r5), (4, .int (nI i)), (3, .ref (b + 510)), (2, .ref (b + 501)), (1, .ref b), (0, .ref sb)]) hx hb d_Law_law_1041 hl (by decide) rfl (fun ls hl => ?_)
  refine lv_aload_n hx hb d_Law_law_1043 rfl (lv_at hl 3 rfl) ?_
  refine lv_aload_n hx hb d_Law_law_1044 rfl (lv_at hl 5 rfl) ?_
  refine lv_iload hx hb d_Law_law_1045 (lv_at hl 1 rfl) ?_
  refine lv_iconst (v := nI 1) hx hb d_Law_law_1047 (by decide) ?_
  refine lv_iadd hx hb d_Law_law_1048 ?_
  refine lv_topi (fun t9 e9 => ?_)
  obtain rfl : t9 = nI (i + 1) := e9.trans (nI_add _ _)
  refine q_xld E hX (i + 1) rfl (by omega) (by omega) d_Law_law_1049 ?_
  refine lv_aload_n hx hb d_Law_law_1050 rfl (lv_at hl 5 rfl) ?_
  refine lv_iload hx hb d_Law_law_1051 (lv_at hl 1 rfl) ?_
  refine lv_iconst (v := nI 2) hx hb d_Law_law_1053 (by decide) ?_
  refine lv_iadd hx hb d_Law_law_1054 ?_
  refine lv_topi (fun t9 e9 => ?_)
  obtain rfl : t9 = nI (i + 2) := e9.trans (nI_add _ _)
  refine q_xld E hX (i + 2) rfl (by omega) (by omega) d_Law_law_1055 ?_
  refine lv_aload_n hx hb d_Law_law_1056 rfl (lv_at hl 5 rfl) ?_
  refine lv_iload hx hb d_Law_law_1057 (lv_at hl 1 rfl) ?_
  refine lv_iconst (v := nI 3) hx hb d_Law_law_1059 (by decide) ?_
  refine lv_iadd hx hb d_Law_law_1060 ?_
  refine lv_topi (fun t9 e9 => ?_)
  obtain rfl : t9 = nI (i + 3) := e9.trans (nI_add _ _)
  refine q_xld E hX (i + 3) rfl (by omega) (by omega) d_Law_law_1061 ?_
  refine lv_aload_n hx hb d_Law_law_1062 rfl (lv_at hl 5 rfl) ?_
  refine lv_iload hx hb d_Law_law_1063 (lv_at hl 1 rfl) ?_
  refine lv_iconst (v := nI 4) hx hb d_Law_law_1065 (by decide) ?_
  refine lv_iadd hx hb d_Law_law_1066 ?_
  refine lv_topi (fun t9 e9 => ?_)
  obtain rfl : t9 = nI (i + 4) := e9.trans (nI_add _ _)
  refine q_xld E hX (i + 4) rfl (by omega) (by omega) d_Law_law_1067 ?_
  refine lv_aload_n hx hb d_Law_law_1068 rfl (lv_at hl 5 rfl) ?_
  refine lv_iload hx hb d_Law_law_1069 (lv_at hl 1 rfl) ?_
  refine lv_iconst (v := nI 5) hx hb d_Law_law_1071 (by decide) ?_
  refine lv_iadd hx hb d_Law_law_1072 ?_
  refine lv_topi (fun t9 e9 => ?_)
  obtain rfl : t9 = nI (i + 5) := e9.trans (nI_add _ _)
  refine q_xld E hX (i + 5) rfl (by omega) (by omega) d_Law_law_1073 ?_
  obtain ⟨w9, n9, hob⟩ := hM.ob
  refine q_cV (rest := []) E ((G_Model_checks l g (nM (b + 501)) (b + 501) th pn tn wm (xs (i + 1)) (xs (i + 2)) (xs (i + 3)) (xs (i + 4)) (xs (i + 5))).frI (nM_up hb0)) w_1239 w_15 w_1236 w_1237 w_1238 hd_Model_checks rfl ⟨by decide, by decide⟩ (OB.recv E.2.2.2.2.2 (by rfl) hob) hM hF hl.1 rfl (Nat.le_of_ble_eq_true rfl) d_Law_law_1074 hc (qi (fun r6 H2 locs hq6 hF => ?_))
  obtain ⟨hq6, hfr6⟩ := hq6
  have hX := hX.kept (hfr6.2 sb hX.lt (nM_lt hb0 hsb))
  clear hob hM
  rcases hq with ⟨hok, rfl, hG⟩ | ⟨hok, rfl, hG⟩
  · skip
    have hM : MP g (nM (b + 501)) H2 (b + 501) 0 pn tn wm := by
      rcases hq6 with ⟨-, h⟩ | ⟨h, -⟩
      · exact h
      · exact absurd hok h
    refine lv_istore (lv' := [(6, .int r6), (5, .int (nI 0)), (4, .int (nI i)), (3, .ref (b + 510)), (2, .ref (b + 501)), (1, .ref b), (0, .ref sb)]) hx hb d_Law_law_1077 hl (by decide) rfl (fun ls hl => ?_)
    refine lv_goto (tgt := 1236) hx hb d_Law_law_1079 (by decide) ?_
    have hl : lv_has ls 8 [(4, .int (nI i)), (3, .ref (b + 510)), (2, .ref (b + 501)), (1, .ref b), (0, .ref sb)] := lv_sub hl [2, 3, 4, 5, 6] rfl
    exact hN _ _ ls _ _ _ _ _ (hG.frq hb0 hfr6) hM hX hF hl
  · skip
    have hM : MP g (nM (b + 501)) H2 (b + 501) 1 pn tn wm := by
      rcases hq6 with ⟨h, -⟩ | ⟨-, h⟩
      · exact absurd h hok
      · exact h
    refine lv_istore (lv' := [(6, .int r6), (5, .int (nI 1)), (4, .int (nI i)), (3, .ref (b + 510)), (2, .ref (b + 501)), (1, .ref b), (0, .ref sb)]) hx hb d_Law_law_1077 hl (by decide) rfl (fun ls hl => ?_)
    refine lv_goto (tgt := 1236) hx hb d_Law_law_1079 (by decide) ?_
    have hl : lv_has ls 8 [(4, .int (nI i)), (3, .ref (b + 510)), (2, .ref (b + 501)), (1, .ref b), (0, .ref sb)] := lv_sub hl [2, 3, 4, 5, 6] rfl
    exact hN _ _ ls _ _ _ _ _ (hG.frq hb0 hfr6) hM hX hF hl
set_option maxHeartbeats 4000000 in
set_option maxRecDepth 100000 in
theorem k_transform {p : Program} {l : Launch} {e : Env} {s : State} {m : MethodId} {below : List Frame} {meth : Method} {c : Code} {g : WG} {sb L : Nat} {xs : Nat → Int32} {b : Nat} {mr mq : Int64} {H : Heap} {locs : List Loc} {ls : Array Slot} {th : Int32} {pn tn wn wm i cells slots : Nat} (E : EV p m c code 8 s #[Value.ref sb] "KateDeskLaw" g) (hr : meth.sig.returnType = ret) (hlk : meth.locks = false) (hb0 : s.heap.size ≤ b) (hsb : sb < s.heap.size) (hxs : XS l s) (hL : L ≤ 3072) (hi : i + 6 ≤ L) (hc : cells + 1 ≤ room_1.cells ∧ slots + 6 ≤ room_1.slots) (hN : LNX p l e s m below meth c g sb L xs b mr mq i (cells + 1) (slots + 6)) (hG : LG g s H b pn tn wn mr mq) (hM : MP g (nM (b + 501)) H (b + 501) th pn tn wm) (hX : va_X sb L xs s H) (hF : ∀ q ∈ locs, HXA s q.base) (hl : lv_has ls 8 [(4, .int (nI i)), (3, .ref (b + 510)), (2, .ref (b + 501)), (1, .ref b), (0, .ref sb)]) : W p l e room_1 s m #[Value.ref sb] below meth c H locs cells slots (lw_Z below #[Value.ref sb] s) (F0 m 1082 ls []) := by
  have hx := E.1
  have hb := E.2.1
  have hK := E.2.2.2.2.2
  have hw0 := State.WarmedH.refl s
  have hbd := hM.2.2.2.2.1
  by_cases hzb : xs (i + 3) = 0
  · skip
    refine lv_aload_n hx hb d_Law_law_1082 rfl (lv_at hl 3 rfl) ?_
    refine lv_aload_n hx hb d_Law_law_1083 rfl (lv_at hl 4 rfl) ?_
    refine lv_iload hx hb d_Law_law_1084 (lv_at hl 0 rfl) ?_
    refine lv_iconst (v := nI 1) hx hb d_Law_law_1086 (by decide) ?_
    refine lv_iadd hx hb d_Law_law_1087 ?_
    refine lv_topi (fun t9 e9 => ?_)
    obtain rfl : t9 = nI (i + 1) := e9.trans (nI_add _ _)
    refine q_xld E hX (i + 1) rfl (by omega) (by omega) d_Law_law_1088 ?_
    refine lv_aload_n hx hb d_Law_law_1089 rfl (lv_at hl 4 rfl) ?_
    refine lv_iload hx hb d_Law_law_1090 (lv_at hl 0 rfl) ?_
    refine lv_iconst (v := nI 2) hx hb d_Law_law_1092 (by decide) ?_
    refine lv_iadd hx hb d_Law_law_1093 ?_
    refine lv_topi (fun t9 e9 => ?_)
    obtain rfl : t9 = nI (i + 2) := e9.trans (nI_add _ _)
    refine q_xld E hX (i + 2) rfl (by omega) (by omega) d_Law_law_1094 ?_
    refine lv_aload_n hx hb d_Law_law_1095 rfl (lv_at hl 4 rfl) ?_
    refine lv_iload hx hb d_Law_law_1096 (lv_at hl 0 rfl) ?_
    refine lv_iconst (v := nI 3) hx hb d_Law_law_1098 (by decide) ?_
    refine lv_iadd hx hb d_Law_law_1099 ?_
    refine lv_topi (fun t9 e9 => ?_)
    obtain rfl : t9 = nI (i + 3) := e9.trans (nI_add _ _)
    refine q_xld E hX (i + 3) rfl (by omega) (by omega) d_Law_law_1100 ?_
    refine lv_if_eq (tgt := 1108) hx hb d_Law_law_1101 (by decide) (fun _ => ?_) (fun h9 => absurd (hzb) h9)
    refine lv_iconst (v := nI 0) hx hb d_Law_law_1108 (by decide) ?_
    refine q_cSH (rest := []) E hw0 (H_transform l g s hxs b pn tn wn mr mq hb0 (xs (i + 1)) (xs (i + 2)) (nI 0)) w_866 w_0 w_864 w_865 hd_Law_transform rfl ⟨by decide, by decide⟩ hG hF hl.1 rfl (Nat.le_of_ble_eq_true rfl) d_Law_law_1109 hc (qi (fun r5 H1 locs hq hF => ?_))
    obtain ⟨hq, hfr⟩ := hq
    have hX := hX.kept (hfr sb (Or.inl (Nat.lt_of_lt_of_le hsb hb0)))
    have hM := hM.on (fun q h1 h2 => hfr q (Or.inr ⟨h1, h2⟩))
    refine lv_istore (lv' := [(5, .int r5), (4, .int (nI i)), (3, .ref (b + 510)), (2, .ref (b + 501)), (1, .ref b), (0, .ref sb)]) hx hb d_Law_law_1112 hl (by decide) rfl (fun ls hl => ?_)
    refine lv_aload_n hx hb d_Law_law_1114 rfl (lv_at hl 3 rfl) ?_
    refine lv_aload_n hx hb d_Law_law_1115 rfl (lv_at hl 5 rfl) ?_
    refine lv_iload hx hb d_Law_law_1116 (lv_at hl 1 rfl) ?_
    refine lv_iconst (v := nI 1) hx hb d_Law_law_1118 (by decide) ?_
    refine lv_iadd hx hb d_Law_law_1119 ?_
    refine lv_topi (fun t9 e9 => ?_)
    obtain rfl : t9 = nI (i + 1) := e9.trans (nI_add _ _)
    refine q_xld E hX (i + 1) rfl (by omega) (by omega) d_Law_law_1120 ?_
    refine lv_aload_n hx hb d_Law_law_1121 rfl (lv_at hl 5 rfl) ?_
    refine lv_iload hx hb d_Law_law_1122 (lv_at hl 1 rfl) ?_
    refine lv_iconst (v := nI 2) hx hb d_Law_law_1124 (by decide) ?_
    refine lv_iadd hx hb d_Law_law_1125 ?_
    refine lv_topi (fun t9 e9 => ?_)
    obtain rfl : t9 = nI (i + 2) := e9.trans (nI_add _ _)
    refine q_xld E hX (i + 2) rfl (by omega) (by omega) d_Law_law_1126 ?_
    refine lv_aload_n hx hb d_Law_law_1127 rfl (lv_at hl 5 rfl) ?_
    refine lv_iload hx hb d_Law_law_1128 (lv_at hl 1 rfl) ?_
    refine lv_iconst (v := nI 3) hx hb d_Law_law_1130 (by decide) ?_
    refine lv_iadd hx hb d_Law_law_1131 ?_
    refine lv_topi (fun t9 e9 => ?_)
    obtain rfl : t9 = nI (i + 3) := e9.trans (nI_add _ _)
    refine q_xld E hX (i + 3) rfl (by omega) (by omega) d_Law_law_1132 ?_
    refine lv_if_eq (tgt := 1140) hx hb d_Law_law_1133 (by decide) (fun _ => ?_) (fun h9 => absurd (hzb) h9)
    refine lv_iconst (v := nI 0) hx hb d_Law_law_1140 (by decide) ?_
    obtain ⟨w9, n9, hob⟩ := hM.ob
    refine q_cV (rest := []) E ((G_Model_transform l g (nM (b + 501)) (b + 501) th pn tn wm (xs (i + 1)) (xs (i + 2)) (nI 0)).frV (nM_up hb0)) w_1243 w_15 w_1240 w_1241 w_1242 hd_Model_transform rfl ⟨by decide, by decide⟩ (OB.recv E.2.2.2.2.2 (by rfl) hob) hM hF hl.1 rfl (Nat.le_of_ble_eq_true rfl) d_Law_law_1141 hc (qv (fun H2 locs hq6 hF => ?_))
    obtain ⟨hq6, hfr6⟩ := hq6
    have hX := hX.kept (hfr6.2 sb hX.lt (nM_lt hb0 hsb))
    clear hob hM
    rcases hq with ⟨hok, rfl, hG⟩ | ⟨hok, rfl, hG⟩
    · skip
      have hM : MP g (nM (b + 501)) H2 (b + 501) 0 pn tn wm := by
        rcases hq6 with ⟨-, h⟩ | ⟨h, -⟩
        · exact h
        · exact absurd hok h
      refine lv_goto (tgt := 1236) hx hb d_Law_law_1144 (by decide) ?_
      have hl : lv_has ls 8 [(4, .int (nI i)), (3, .ref (b + 510)), (2, .ref (b + 501)), (1, .ref b), (0, .ref sb)] := lv_sub hl [1, 2, 3, 4, 5] rfl
      exact hN _ _ ls _ _ _ _ _ (hG.frq hb0 hfr6) hM hX hF hl
    · skip
      have hM : MP g (nM (b + 501)) H2 (b + 501) 1 pn tn wm := by
        rcases hq6 with ⟨h, -⟩ | ⟨-, h⟩
        · exact absurd h hok
        · exact h
      refine lv_goto (tgt := 1236) hx hb d_Law_law_1144 (by decide) ?_
      have hl : lv_has ls 8 [(4, .int (nI i)), (3, .ref (b + 510)), (2, .ref (b + 501)), (1, .ref b), (0, .ref sb)] := lv_sub hl [1, 2, 3, 4, 5] rfl
      exact hN _ _ ls _ _ _ _ _ (hG.frq hb0 hfr6) hM hX hF hl
  · skip
    refine lv_aload_n hx hb d_Law_law_1082 rfl (lv_at hl 3 rfl) ?_
    refine lv_aload_n hx hb d_Law_law_1083 rfl (lv_at hl 4 rfl) ?_
    refine lv_iload hx hb d_Law_law_1084 (lv_at hl 0 rfl) ?_
    refine lv_iconst (v := nI 1) hx hb d_Law_law_1086 (by decide) ?_
    refine lv_iadd hx hb d_Law_law_1087 ?_
    refine lv_topi (fun t9 e9 => ?_)
    obtain rfl : t9 = nI (i + 1) := e9.trans (nI_add _ _)
    refine q_xld E hX (i + 1) rfl (by omega) (by omega) d_Law_law_1088 ?_
    refine lv_aload_n hx hb d_Law_law_1089 rfl (lv_at hl 4 rfl) ?_
    refine lv_iload hx hb d_Law_law_1090 (lv_at hl 0 rfl) ?_
    refine lv_iconst (v := nI 2) hx hb d_Law_law_1092 (by decide) ?_
    refine lv_iadd hx hb d_Law_law_1093 ?_
    refine lv_topi (fun t9 e9 => ?_)
    obtain rfl : t9 = nI (i + 2) := e9.trans (nI_add _ _)
    refine q_xld E hX (i + 2) rfl (by omega) (by omega) d_Law_law_1094 ?_
    refine lv_aload_n hx hb d_Law_law_1095 rfl (lv_at hl 4 rfl) ?_
    refine lv_iload hx hb d_Law_law_1096 (lv_at hl 0 rfl) ?_
    refine lv_iconst (v := nI 3) hx hb d_Law_law_1098 (by decide) ?_
    refine lv_iadd hx hb d_Law_law_1099 ?_
    refine lv_topi (fun t9 e9 => ?_)
    obtain rfl : t9 = nI (i + 3) := e9.trans (nI_add _ _)
    refine q_xld E hX (i + 3) rfl (by omega) (by omega) d_Law_law_1100 ?_
    refine lv_if_eq (tgt := 1108) hx hb d_Law_law_1101 (by decide) (fun h9 => absurd h9 (hzb)) (fun _ => ?_)
    refine lv_iconst (v := nI 1) hx hb d_Law_law_1104 (by decide) ?_
    refine lv_goto (tgt := 1109) hx hb d_Law_law_1105 (by decide) ?_
    refine q_cSH (rest := []) E hw0 (H_transform l g s hxs b pn tn wn mr mq hb0 (xs (i + 1)) (xs (i + 2)) (nI 1)) w_866 w_0 w_864 w_865 hd_Law_transform rfl ⟨by decide, by decide⟩ hG hF hl.1 rfl (Nat.le_of_ble_eq_true rfl) d_Law_law_1109 hc (qi (fun r5 H1 locs hq hF => ?_))
    obtain ⟨hq, hfr⟩ := hq
    have hX := hX.kept (hfr sb (Or.inl (Nat.lt_of_lt_of_le hsb hb0)))
    have hM := hM.on (fun q h1 h2 => hfr q (Or.inr ⟨h1, h2⟩))
    refine lv_istore (lv' := [(5, .int r5), (4, .int (nI i)), (3, .ref (b + 510)), (2, .ref (b + 501)), (1, .ref b), (0, .ref sb)]) hx hb d_Law_law_1112 hl (by decide) rfl (fun ls hl => ?_)
    refine lv_aload_n hx hb d_Law_law_1114 rfl (lv_at hl 3 rfl) ?_
    refine lv_aload_n hx hb d_Law_law_1115 rfl (lv_at hl 5 rfl) ?_
    refine lv_iload hx hb d_Law_law_1116 (lv_at hl 1 rfl) ?_
    refine lv_iconst (v := nI 1) hx hb d_Law_law_1118 (by decide) ?_
    refine lv_iadd hx hb d_Law_law_1119 ?_
    refine lv_topi (fun t9 e9 => ?_)
    obtain rfl : t9 = nI (i + 1) := e9.trans (nI_add _ _)
    refine q_xld E hX (i + 1) rfl (by omega) (by omega) d_Law_law_1120 ?_
    refine lv_aload_n hx hb d_Law_law_1121 rfl (lv_at hl 5 rfl) ?_
    refine lv_iload hx hb d_Law_law_1122 (lv_at hl 1 rfl) ?_
    refine lv_iconst (v := nI 2) hx hb d_Law_law_1124 (by decide) ?_
    refine lv_iadd hx hb d_Law_law_1125 ?_
    refine lv_topi (fun t9 e9 => ?_)
    obtain rfl : t9 = nI (i + 2) := e9.trans (nI_add _ _)
    refine q_xld E hX (i + 2) rfl (by omega) (by omega) d_Law_law_1126 ?_
    refine lv_aload_n hx hb d_Law_law_1127 rfl (lv_at hl 5 rfl) ?_
    refine lv_iload hx hb d_Law_law_1128 (lv_at hl 1 rfl) ?_
    refine lv_iconst (v := nI 3) hx hb d_Law_law_1130 (by decide) ?_
    refine lv_iadd hx hb d_Law_law_1131 ?_
    refine lv_topi (fun t9 e9 => ?_)
    obtain rfl : t9 = nI (i + 3) := e9.trans (nI_add _ _)
    refine q_xld E hX (i + 3) rfl (by omega) (by omega) d_Law_law_1132 ?_
    refine lv_if_eq (tgt := 1140) hx hb d_Law_law_1133 (by decide) (fun h9 => absurd h9 (hzb)) (fun _ => ?_)
    refine lv_iconst (v := nI 1) hx hb d_Law_law_1136 (by decide) ?_
    refine lv_goto (tgt := 1141) hx hb d_Law_law_1137 (by decide) ?_
    obtain ⟨w9, n9, hob⟩ := hM.ob
    refine q_cV (rest := []) E ((G_Model_transform l g (nM (b + 501)) (b + 501) th pn tn wm (xs (i + 1)) (xs (i + 2)) (nI 1)).frV (nM_up hb0)) w_1243 w_15 w_1240 w_1241 w_1242 hd_Model_transform rfl ⟨by decide, by decide⟩ (OB.recv E.2.2.2.2.2 (by rfl) hob) hM hF hl.1 rfl (Nat.le_of_ble_eq_true rfl) d_Law_law_1141 hc (qv (fun H2 locs hq6 hF => ?_))
    obtain ⟨hq6, hfr6⟩ := hq6
    have hX := hX.kept (hfr6.2 sb hX.lt (nM_lt hb0 hsb))
    clear hob hM
    rcases hq with ⟨hok, rfl, hG⟩ | ⟨hok, rfl, hG⟩
    · skip
      have hM : MP g (nM (b + 501)) H2 (b + 501) 0 pn tn wm := by
        rcases hq6 with ⟨-, h⟩ | ⟨h, -⟩
        · exact h
        · exact absurd hok h
      refine lv_goto (tgt := 1236) hx hb d_Law_law_1144 (by decide) ?_
      have hl : lv_has ls 8 [(4, .int (nI i)), (3, .ref (b + 510)), (2, .ref (b + 501)), (1, .ref b), (0, .ref sb)] := lv_sub hl [1, 2, 3, 4, 5] rfl
      exact hN _ _ ls _ _ _ _ _ (hG.frq hb0 hfr6) hM hX hF hl
    · skip
      have hM : MP g (nM (b + 501)) H2 (b + 501) 1 pn tn wm := by
        rcases hq6 with ⟨h, -⟩ | ⟨-, h⟩
        · exact absurd h hok
        · exact h
      refine lv_goto (tgt := 1236) hx hb d_Law_law_1144 (by decide) ?_
      have hl : lv_has ls 8 [(4, .int (nI i)), (3, .ref (b + 510)), (2, .ref (b + 501)), (1, .ref b), (0, .ref sb)] := lv_sub hl [1, 2, 3, 4, 5] rfl
      exact hN _ _ ls _ _ _ _ _ (hG.frq hb0 hfr6) hM hX hF hl
set_option maxHeartbeats 4000000 in
set_option maxRecDepth 100000 in
theorem k_lagrange {p : Program} {l : Launch} {e : Env} {s : State} {m : MethodId} {below : List Frame} {meth : Method} {c : Code} {g : WG} {sb L : Nat} {xs : Nat → Int32} {b : Nat} {mr mq : Int64} {H : Heap} {locs : List Loc} {ls : Array Slot} {th : Int32} {pn tn wn wm i cells slots : Nat} (E : EV p m c code 8 s #[Value.ref sb] "KateDeskLaw" g) (hr : meth.sig.returnType = ret) (hlk : meth.locks = false) (hb0 : s.heap.size ≤ b) (hsb : sb < s.heap.size) (hxs : XS l s) (hL : L ≤ 3072) (hi : i + 6 ≤ L) (hc : cells + 1 ≤ room_1.cells ∧ slots + 6 ≤ room_1.slots) (hN : LNX p l e s m below meth c g sb L xs b mr mq i (cells + 1) (slots + 6)) (hG : LG g s H b pn tn wn mr mq) (hM : MP g (nM (b + 501)) H (b + 501) th pn tn wm) (hX : va_X sb L xs s H) (hF : ∀ q ∈ locs, HXA s q.base) (hl : lv_has ls 8 [(4, .int (nI i)), (3, .ref (b + 510)), (2, .ref (b + 501)), (1, .ref b), (0, .ref sb)]) : W p l e room_1 s m #[Value.ref sb] below meth c H locs cells slots (lw_Z below #[Value.ref sb] s) (F0 m 1147 ls []) := by
  have hx := E.1
  have hb := E.2.1
  have hK := E.2.2.2.2.2
  have hw0 := State.WarmedH.refl s
  have hbd := hM.2.2.2.2.1
  refine lv_aload_n hx hb d_Law_law_1147 rfl (lv_at hl 3 rfl) ?_
  refine lv_aload_n hx hb d_Law_law_1148 rfl (lv_at hl 4 rfl) ?_
  refine lv_iload hx hb d_Law_law_1149 (lv_at hl 0 rfl) ?_
  refine lv_iconst (v := nI 1) hx hb d_Law_law_1151 (by decide) ?_
  refine lv_iadd hx hb d_Law_law_1152 ?_
  refine lv_topi (fun t9 e9 => ?_)
  obtain rfl : t9 = nI (i + 1) := e9.trans (nI_add _ _)
  refine q_xld E hX (i + 1) rfl (by omega) (by omega) d_Law_law_1153 ?_
  refine lv_aload_n hx hb d_Law_law_1154 rfl (lv_at hl 4 rfl) ?_
  refine lv_iload hx hb d_Law_law_1155 (lv_at hl 0 rfl) ?_
  refine lv_iconst (v := nI 2) hx hb d_Law_law_1157 (by decide) ?_
  refine lv_iadd hx hb d_Law_law_1158 ?_
  refine lv_topi (fun t9 e9 => ?_)
  obtain rfl : t9 = nI (i + 2) := e9.trans (nI_add _ _)
  refine q_xld E hX (i + 2) rfl (by omega) (by omega) d_Law_law_1159 ?_
  refine lv_aload_n hx hb d_Law_law_1160 rfl (lv_at hl 4 rfl) ?_
  refine lv_iload hx hb d_Law_law_1161 (lv_at hl 0 rfl) ?_
  refine lv_iconst (v := nI 3) hx hb d_Law_law_1163 (by decide) ?_
  refine lv_iadd hx hb d_Law_law_1164 ?_
  refine lv_topi (fun t9 e9 => ?_)
  obtain rfl : t9 = nI (i + 3) := e9.trans (nI_add _ _)
  refine q_xld E hX (i + 3) rfl (by omega) (by omega) d_Law_law_1165 ?_
  refine lv_aload_n hx hb d_Law_law_1166 rfl (lv_at hl 4 rfl) ?_
  refine lv_iload hx hb d_Law_law_1167 (lv_at hl 0 rfl) ?_
  refine lv_iconst (v := nI 4) hx hb d_Law_law_1169 (by decide) ?_
  refine lv_iadd hx hb d_Law_law_1170 ?_
  refine lv_topi (fun t9 e9 => ?_)
  obtain rfl : t9 = nI (i + 4) := e9.trans (nI_add _ _)
  refine q_xld E hX (i + 4) rfl (by omega) (by omega) d_Law_law_1171 ?_
  refine q_cSH (rest := []) E hw0 (H_lagrange l g s hxs b pn tn wn mr mq hb0 (xs (i + 1)) (xs (i + 2)) (xs (i + 3)) (xs (i + 4))) w_890 w_0 w_888 w_889 hd_Law_lagrange rfl ⟨by decide, by decide⟩ hG hF hl.1 rfl (Nat.le_of_ble_eq_true rfl) d_Law_law_1172 hc (qi (fun r5 H1 locs hq hF => ?_))
  obtain ⟨hq, hfr⟩ := hq
  have hX := hX.kept (hfr sb (Or.inl (Nat.lt_of_lt_of_le hsb hb0)))
  have hM := hM.on (fun q h1 h2 => hfr q (Or.inr ⟨h1, h2⟩))
  refine lv_istore (lv' := [(5, .int r5), (4, .int (nI i)), (3, .ref (b + 510)), (2, .ref (b + 501)), (1, .ref b), (0, .ref sb)]) hx hb d_Law_law_1175 hl (by decide) rfl (fun ls hl => ?_)
  refine lv_aload_n hx hb d_Law_law_1177 rfl (lv_at hl 3 rfl) ?_
  refine lv_aload_n hx hb d_Law_law_1178 rfl (lv_at hl 5 rfl) ?_
  refine lv_iload hx hb d_Law_law_1179 (lv_at hl 1 rfl) ?_
  refine lv_iconst (v := nI 1) hx hb d_Law_law_1181 (by decide) ?_
  refine lv_iadd hx hb d_Law_law_1182 ?_
  refine lv_topi (fun t9 e9 => ?_)
  obtain rfl : t9 = nI (i + 1) := e9.trans (nI_add _ _)
  refine q_xld E hX (i + 1) rfl (by omega) (by omega) d_Law_law_1183 ?_
  refine lv_aload_n hx hb d_Law_law_1184 rfl (lv_at hl 5 rfl) ?_
  refine lv_iload hx hb d_Law_law_1185 (lv_at hl 1 rfl) ?_
  refine lv_iconst (v := nI 2) hx hb d_Law_law_1187 (by decide) ?_
  refine lv_iadd hx hb d_Law_law_1188 ?_
  refine lv_topi (fun t9 e9 => ?_)
  obtain rfl : t9 = nI (i + 2) := e9.trans (nI_add _ _)
  refine q_xld E hX (i + 2) rfl (by omega) (by omega) d_Law_law_1189 ?_
  refine lv_aload_n hx hb d_Law_law_1190 rfl (lv_at hl 5 rfl) ?_
  refine lv_iload hx hb d_Law_law_1191 (lv_at hl 1 rfl) ?_
  refine lv_iconst (v := nI 3) hx hb d_Law_law_1193 (by decide) ?_
  refine lv_iadd hx hb d_Law_law_1194 ?_
  refine lv_topi (fun t9 e9 => ?_)
  obtain rfl : t9 = nI (i + 3) := e9.trans (nI_add _ _)
  refine q_xld E hX (i + 3) rfl (by omega) (by omega) d_Law_law_1195 ?_
  refine lv_aload_n hx hb d_Law_law_1196 rfl (lv_at hl 5 rfl) ?_
  refine lv_iload hx hb d_Law_law_1197 (lv_at hl 1 rfl) ?_
  refine lv_iconst (v := nI 4) hx hb d_Law_law_1199 (by decide) ?_
  refine lv_iadd hx hb d_Law_law_1200 ?_
  refine lv_topi (fun t9 e9 => ?_)
  obtain rfl : t9 = nI (i + 4) := e9.trans (nI_add _ _)
  refine q_xld E hX (i + 4) rfl (by omega) (by omega) d_Law_law_1201 ?_
  obtain ⟨w9, n9, hob⟩ := hM.ob
  refine q_cV (rest := []) E ((G_Model_lagrange l g (nM (b + 501)) (b + 501) th pn tn wm (xs (i + 1)) (xs (i + 2)) (xs (i + 3)) (xs (i + 4))).frV (nM_up hb0)) w_1247 w_15 w_1244 w_1245 w_1246 hd_Model_lagrange rfl ⟨by decide, by decide⟩ (OB.recv E.2.2.2.2.2 (by rfl) hob) hM hF hl.1 rfl (Nat.le_of_ble_eq_true rfl) d_Law_law_1202 hc (qv (fun H2 locs hq6 hF => ?_))
  obtain ⟨hq6, hfr6⟩ := hq6
  have hX := hX.kept (hfr6.2 sb hX.lt (nM_lt hb0 hsb))
  clear hob hM
  rcases hq with ⟨hok, rfl, hG⟩ | ⟨hok, rfl, hG⟩
  · skip
    have hM : MP g (nM (b + 501)) H2 (b + 501) 0 pn tn wm := by
      rcases hq6 with ⟨-, h⟩ | ⟨h, -⟩
      · exact h
      · exact absurd hok h
    refine lv_goto (tgt := 1236) hx hb d_Law_law_1205 (by decide) ?_
    have hl : lv_has ls 8 [(4, .int (nI i)), (3, .ref (b + 510)), (2, .ref (b + 501)), (1, .ref b), (0, .ref sb)] := lv_sub hl [1, 2, 3, 4, 5] rfl
    exact hN _ _ ls _ _ _ _ _ (hG.frq hb0 hfr6) hM hX hF hl
  · skip
    have hM : MP g (nM (b + 501)) H2 (b + 501) 1 pn tn wm := by
      rcases hq6 with ⟨h, -⟩ | ⟨-, h⟩
      · exact absurd h hok
      · exact h
    refine lv_goto (tgt := 1236) hx hb d_Law_law_1205 (by decide) ?_
    have hl : lv_has ls 8 [(4, .int (nI i)), (3, .ref (b + 510)), (2, .ref (b + 501)), (1, .ref b), (0, .ref sb)] := lv_sub hl [1, 2, 3, 4, 5] rfl
    exact hN _ _ ls _ _ _ _ _ (hG.frq hb0 hfr6) hM hX hF hl
set_option maxHeartbeats 4000000 in
set_option maxRecDepth 100000 in
theorem k_look {p : Program} {l : Launch} {e : Env} {s : State} {m : MethodId} {below : List Frame} {meth : Method} {c : Code} {g : WG} {sb L : Nat} {xs : Nat → Int32} {b : Nat} {mr mq : Int64} {H : Heap} {locs : List Loc} {ls : Array Slot} {th : Int32} {pn tn wn wm i cells slots : Nat} (E : EV p m c code 8 s #[Value.ref sb] "KateDeskLaw" g) (hr : meth.sig.returnType = ret) (hlk : meth.locks = false) (hb0 : s.heap.size ≤ b) (hsb : sb < s.heap.size) (hxs : XS l s) (hL : L ≤ 3072) (hi : i + 6 ≤ L) (hc : cells + 1 ≤ room_1.cells ∧ slots + 6 ≤ room_1.slots) (hN : LNX p l e s m below meth c g sb L xs b mr mq i (cells + 1) (slots + 6)) (hG : LG g s H b pn tn wn mr mq) (hM : MP g (nM (b + 501)) H (b + 501) th pn tn wm) (hX : va_X sb L xs s H) (hF : ∀ q ∈ locs, HXA s q.base) (hl : lv_has ls 8 [(4, .int (nI i)), (3, .ref (b + 510)), (2, .ref (b + 501)), (1, .ref b), (0, .ref sb)]) : W p l e room_1 s m #[Value.ref sb] below meth c H locs cells slots (lw_Z below #[Value.ref sb] s) (F0 m 1208 ls []) := by
  have hx := E.1
  have hb := E.2.1
  have hK := E.2.2.2.2.2
  have hw0 := State.WarmedH.refl s
  have hbd := hM.2.2.2.2.1
  refine lv_aload_n hx hb d_Law_law_1208 rfl (lv_at hl 3 rfl) ?_
  refine lv_aload_n hx hb d_Law_law_1209 rfl (lv_at hl 4 rfl) ?_
  refine lv_iload hx hb d_Law_law_1210 (lv_at hl 0 rfl) ?_
  refine lv_iconst (v := nI 1) hx hb d_Law_law_1212 (by decide) ?_
  refine lv_iadd hx hb d_Law_law_1213 ?_
  refine lv_topi (fun t9 e9 => ?_)
  obtain rfl : t9 = nI (i + 1) := e9.trans (nI_add _ _)
  refine q_xld E hX (i + 1) rfl (by omega) (by omega) d_Law_law_1214 ?_
  refine lv_aload_n hx hb d_Law_law_1215 rfl (lv_at hl 1 rfl) ?_
  refine q_cSH (rest := []) E hw0 (H_look l g s hxs b pn tn wn mr mq hb0 (xs (i + 1))) w_901 w_0 w_899 w_900 hd_Law_look rfl ⟨by decide, by decide⟩ hG hF hl.1 rfl (Nat.le_of_ble_eq_true rfl) d_Law_law_1216 hc (qi (fun r5 H1 locs hq hF => ?_))
  obtain ⟨hq, hfr⟩ := hq
  have hX := hX.kept (hfr sb (Or.inl (Nat.lt_of_lt_of_le hsb hb0)))
  have hM := hM.on (fun q h1 h2 => hfr q (Or.inr ⟨h1, h2⟩))
  refine lv_istore (lv' := [(5, .int r5), (4, .int (nI i)), (3, .ref (b + 510)), (2, .ref (b + 501)), (1, .ref b), (0, .ref sb)]) hx hb d_Law_law_1219 hl (by decide) rfl (fun ls hl => ?_)
  refine lv_aload_n hx hb d_Law_law_1221 rfl (lv_at hl 3 rfl) ?_
  refine lv_aload_n hx hb d_Law_law_1222 rfl (lv_at hl 5 rfl) ?_
  refine lv_iload hx hb d_Law_law_1223 (lv_at hl 1 rfl) ?_
  refine lv_iconst (v := nI 1) hx hb d_Law_law_1225 (by decide) ?_
  refine lv_iadd hx hb d_Law_law_1226 ?_
  refine lv_topi (fun t9 e9 => ?_)
  obtain rfl : t9 = nI (i + 1) := e9.trans (nI_add _ _)
  refine q_xld E hX (i + 1) rfl (by omega) (by omega) d_Law_law_1227 ?_
  obtain ⟨w9, n9, hob⟩ := hM.ob
  refine q_cV (rest := []) E ((G_Model_look l g (nM (b + 501)) (b + 501) th pn tn wm (xs (i + 1))).frI (nM_up hb0)) w_1251 w_15 w_1248 w_1249 w_1250 hd_Model_look rfl ⟨by decide, by decide⟩ (OB.recv E.2.2.2.2.2 (by rfl) hob) hM hF hl.1 rfl (Nat.le_of_ble_eq_true rfl) d_Law_law_1228 hc (qi (fun r6 H2 locs hq6 hF => ?_))
  obtain ⟨hq6, hfr6⟩ := hq6
  have hX := hX.kept (hfr6.2 sb hX.lt (nM_lt hb0 hsb))
  clear hob hM
  rcases hq with ⟨hok, rfl, hG⟩ | ⟨hok, rfl, hG⟩
  · skip
    have hM : MP g (nM (b + 501)) H2 (b + 501) 0 pn tn wm := by
      rcases hq6 with ⟨-, h⟩ | ⟨h, -⟩
      · exact h
      · exact absurd hok h
    refine lv_istore (lv' := [(6, .int r6), (5, .int (nI 0)), (4, .int (nI i)), (3, .ref (b + 510)), (2, .ref (b + 501)), (1, .ref b), (0, .ref sb)]) hx hb d_Law_law_1231 hl (by decide) rfl (fun ls hl => ?_)
    refine lv_goto (tgt := 1236) hx hb d_Law_law_1233 (by decide) ?_
    have hl : lv_has ls 8 [(4, .int (nI i)), (3, .ref (b + 510)), (2, .ref (b + 501)), (1, .ref b), (0, .ref sb)] := lv_sub hl [2, 3, 4, 5, 6] rfl
    exact hN _ _ ls _ _ _ _ _ (hG.frq hb0 hfr6) hM hX hF hl
  · skip
    have hM : MP g (nM (b + 501)) H2 (b + 501) 1 pn tn wm := by
      rcases hq6 with ⟨h, -⟩ | ⟨-, h⟩
      · exact absurd h hok
      · exact h
    refine lv_istore (lv' := [(6, .int r6), (5, .int (nI 1)), (4, .int (nI i)), (3, .ref (b + 510)), (2, .ref (b + 501)), (1, .ref b), (0, .ref sb)]) hx hb d_Law_law_1231 hl (by decide) rfl (fun ls hl => ?_)
    refine lv_goto (tgt := 1236) hx hb d_Law_law_1233 (by decide) ?_
    have hl : lv_has ls 8 [(4, .int (nI i)), (3, .ref (b + 510)), (2, .ref (b + 501)), (1, .ref b), (0, .ref sb)] := lv_sub hl [2, 3, 4, 5, 6] rfl
    exact hN _ _ ls _ _ _ _ _ (hG.frq hb0 hfr6) hM hX hF hl
