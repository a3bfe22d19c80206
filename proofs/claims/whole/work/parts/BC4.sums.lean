/-! digits and tables of the sums with values -/
theorem WN.ext {s cnt i c e : Nat} {d d' : Nat → Int} (h : WN s cnt i c e d) (he : ∀ j, j < i → d j = d' j) : WN s cnt i c e d' := ⟨h.1, h.2.1, h.2.2.1, by rw [← DSg_ext he]; exact h.2.2.2⟩
/-- a digit: 0, or odd, -7 to 7 -/
def DO (x : Int32) : Prop := x = 0 ∨ ∃ j, j < 4 ∧ (x = nI (2 * j + 1) ∨ x = 0 - nI (2 * j + 1))
theorem do_step : ∀ d, d < 17 → nI d &&& nI 1 = nI 1 → ∃ c, c < 2 ∧ nI d >>> (nI 3 &&& 31) = nI c ∧ (c = 1 → 8 ≤ d) ∧ (vp_nar .byte ((nI d - (nI c <<< (nI 4 &&& 31))).toInt8.toInt32)).toInt = (d : Int) - 16 * (c : Int) ∧ DO (vp_nar .byte ((nI d - (nI c <<< (nI 4 &&& 31))).toInt8.toInt32)) := by
  have h : ∀ d : Fin 17, nI d.val &&& nI 1 = nI 1 → ∃ c : Fin 2, nI d.val >>> (nI 3 &&& 31) = nI c.val ∧ (c.val = 1 → 8 ≤ d.val) ∧ (((nI d.val - (nI c.val <<< (nI 4 &&& 31))).toInt8.toInt32).toInt8.toInt32).toInt = (d.val : Int) - 16 * (c.val : Int) ∧ ∃ j : Fin 4, ((nI d.val - (nI c.val <<< (nI 4 &&& 31))).toInt8.toInt32).toInt8.toInt32 = nI (2 * j.val + 1) ∨ ((nI d.val - (nI c.val <<< (nI 4 &&& 31))).toInt8.toInt32).toInt8.toInt32 = 0 - nI (2 * j.val + 1) := by decide +kernel
  intro d hd ho
  obtain ⟨c, h1, h2, h3, j, h4⟩ := h ⟨d, hd⟩ ho
  exact ⟨c.val, c.isLt, h1, h2, h3, Or.inr ⟨j.val, j.isLt, h4⟩⟩
theorem do_odd : ∀ d, d < 17 → ¬ nI d &&& nI 1 = nI 1 → d % 2 = 0 := by
  have h : ∀ d : Fin 17, ¬ nI d.val &&& nI 1 = nI 1 → d.val % 2 = 0 := by decide +kernel
  exact fun d hd ho => h ⟨d, hd⟩ ho
theorem do_abs : ∀ j, j < 4 → (if 0 ≤ nI (2 * j + 1) then nI (2 * j + 1) else 0 - nI (2 * j + 1)) / nI 2 = nI j ∧ (if 0 ≤ 0 - nI (2 * j + 1) then 0 - nI (2 * j + 1) else 0 - (0 - nI (2 * j + 1))) / nI 2 = nI j ∧ 0 ≤ nI (2 * j + 1) ∧ ¬ 0 ≤ 0 - nI (2 * j + 1) ∧ (nI (2 * j + 1)).toInt = 2 * (j : Int) + 1 ∧ (0 - nI (2 * j + 1)).toInt = -(2 * (j : Int) + 1) ∧ nI (2 * j + 1) ≠ 0 ∧ 0 - nI (2 * j + 1) ≠ 0 := by
  have h : ∀ j : Fin 4, (if 0 ≤ nI (2 * j.val + 1) then nI (2 * j.val + 1) else 0 - nI (2 * j.val + 1)) / nI 2 = nI j.val ∧ (if 0 ≤ 0 - nI (2 * j.val + 1) then 0 - nI (2 * j.val + 1) else 0 - (0 - nI (2 * j.val + 1))) / nI 2 = nI j.val ∧ 0 ≤ nI (2 * j.val + 1) ∧ ¬ 0 ≤ 0 - nI (2 * j.val + 1) ∧ (nI (2 * j.val + 1)).toInt = 2 * (j.val : Int) + 1 ∧ (0 - nI (2 * j.val + 1)).toInt = -(2 * (j.val : Int) + 1) ∧ nI (2 * j.val + 1) ≠ 0 ∧ 0 - nI (2 * j.val + 1) ≠ 0 := by decide +kernel
  exact fun j hj => h ⟨j, hj⟩
theorem DO_upd {f : Nat → Int32} {i : Nat} {x : Int32} (h : ∀ j, j < 257 → DO (f j)) (hx : DO x) : ∀ j, j < 257 → DO (upd f i x j) := by
  intro j hj
  by_cases e : j = i
  · simp only [upd, e, if_true]; exact hx
  · simp only [upd, e, if_false]; exact h j hj
theorem up_s {f : Nat → Int32} {i : Nat} {x : Int32} : upd f i x i = x := by simp [upd]
theorem up_n {f : Nat → Int32} {i j : Nat} {x : Int32} (h : j ≠ i) : upd f i x j = f j := by simp [upd, h]
/-- the window of a part of a number -/
theorem win_e {s9 fr cnt i : Nat} (hi : i ≤ cnt) : s9 / 2 ^ (fr + i) % 2 ^ (min 4 (cnt - i)) = (s9 / 2 ^ fr % 2 ^ cnt) / 2 ^ i % 2 ^ (min 4 (cnt - i)) := by
  obtain ⟨m, rfl⟩ : ∃ m, cnt = i + m := ⟨cnt - i, by omega⟩
  have e1 : (s9 / 2 ^ fr % 2 ^ (i + m)) / 2 ^ i = s9 / 2 ^ fr / 2 ^ i % 2 ^ m := by rw [Nat.pow_add, Nat.mod_mul_right_div_self]
  rw [e1, Nat.div_div_eq_div_mul, ← Nat.pow_add]
  rw [show i + m - i = m by omega]
  rw [Nat.mod_mod_of_dvd _ (Nat.pow_dvd_pow 2 (Nat.min_le_right 4 m))]
theorem par_e {S i cnt cr jb : Nat} (hi : i ≤ cnt) (hS : S < 2 ^ cnt) (hj : jb = S / 2 ^ i % 2 ^ (min 4 (cnt - i))) (hc : cr < 2) (he : (cr + jb) % 2 = 0) : cr = S / 2 ^ i % 2 := by
  by_cases c : i = cnt
  · subst c
    rw [Nat.div_eq_of_lt hS] at hj ⊢
    rw [Nat.zero_mod] at hj
    omega
  · have h2 : S / 2 ^ i % 2 ^ (min 4 (cnt - i)) % 2 = S / 2 ^ i % 2 := Nat.mod_mod_of_dvd _ (by
      have := Nat.pow_dvd_pow 2 (show 1 ≤ min 4 (cnt - i) by omega)
      rw [Nat.pow_one] at this
      exact this)
    omega
theorem big_e {S i cnt jb : Nat} (hj : jb = S / 2 ^ i % 2 ^ (min 4 (cnt - i))) (h8 : 8 ≤ jb) : i + 4 ≤ cnt := by
  refine Classical.byContradiction (fun hn => ?_)
  have h1 : jb < 2 ^ (min 4 (cnt - i)) := by rw [hj]; exact Nat.mod_lt _ (Nat.two_pow_pos _)
  have h2 : 2 ^ (min 4 (cnt - i)) ≤ 2 ^ 3 := Nat.pow_le_pow_right (by decide) (by omega)
  omega
theorem lN_of {r : Int64} {s9 at_ k jb : Nat} (h : r.toInt = (s9 : Int) / 2 ^ at_ % 2 ^ k) (hj : jb = s9 / 2 ^ at_ % 2 ^ k) : r.toInt = (jb : Int) := by
  rw [h, hj, Int.natCast_emod, Int.natCast_ediv, Int.natCast_pow, Int.natCast_pow]
  rfl
theorem lN_r {r : Int64} {jb : Nat} (h : r.toInt = (jb : Int)) (hj : jb < 16) : r = lN jb := by
  refine i64_eq_of (h.trans ?_)
  have h9 : ∀ j : Fin 16, ((j.val : Nat) : Int) = (lN j.val).toInt := by decide +kernel
  exact h9 ⟨jb, hj⟩
/-- a point's three rows -/
def LPt (g : WG) (H : Heap) (x y z : Nat) (P : P3) : Prop := LW g H x P.1 ∧ LW g H y P.2.1 ∧ LW g H z P.2.2
theorem LPt.off {g : WG} {S : Nat → Prop} {H H' : Heap} {x y z : Nat} {P : P3} (h : LPt g H x y z P) (hk : KJ g S H H') (h1 : ¬ S x) (h2 : ¬ S y) (h3 : ¬ S z) : LPt g H' x y z P := ⟨h.1.off hk h1, h.2.1.off hk h2, h.2.2.off hk h3⟩
/-- the rows of the sums lie apart -/
def SAP (F X O1 O2 O3 : Nat → Nat) (s1 s2 s3 : Nat) : Prop :=
  XA F X ∧ (∀ k i, k < 64 → i < 9 → O1 k ≠ X i ∧ O2 k ≠ X i ∧ O3 k ≠ X i) ∧ (∀ k, k < 64 → F 0 ≠ O1 k ∧ F 0 ≠ O2 k ∧ F 0 ≠ O3 k) ∧ (∀ k, k < 64 → O1 k ≠ F 5 ∧ O2 k ≠ F 5 ∧ O3 k ≠ F 5) ∧ (∀ j k, j < 64 → k < 64 → O1 j ≠ O2 k ∧ O1 j ≠ O3 k ∧ O2 j ≠ O3 k) ∧ (∀ j k, j < 64 → k < 64 → j ≠ k → O1 j ≠ O1 k ∧ O2 j ≠ O2 k ∧ O3 j ≠ O3 k) ∧ (∀ i, i < 9 → s1 ≠ X i ∧ s2 ≠ X i ∧ s3 ≠ X i) ∧ (F 0 ≠ s1 ∧ F 0 ≠ s2 ∧ F 0 ≠ s3) ∧ (s1 ≠ F 5 ∧ s2 ≠ F 5 ∧ s3 ≠ F 5) ∧ (s1 ≠ s2 ∧ s1 ≠ s3 ∧ s2 ≠ s3) ∧ (∀ k, k < 64 → (s1 ≠ O1 k ∧ s1 ≠ O2 k ∧ s1 ≠ O3 k) ∧ (s2 ≠ O1 k ∧ s2 ≠ O2 k ∧ s2 ≠ O3 k) ∧ s3 ≠ O1 k ∧ s3 ≠ O2 k ∧ s3 ≠ O3 k)
set_option maxHeartbeats 4000000 in
set_option maxRecDepth 100000 in
theorem L_Sums_recode (l : Launch) (g : WG) (n0 : Nat → Prop) (o cu od dg sm : Nat) (DG : Nat → Nat) (t a cnt fr0 : Nat) (fa : Nat → Int64) (s9 : Nat) (hfa : RV fa (s9 : Int)) (ht : t < 16) (hc : cnt < 257) (hfr0 : fr0 < 1000) : Ctr l y_Sums_recode (.code y_Sums_recode prog_9_method_4_code 10 none) 1 26 0 0 n0 g [.ref o, .int (nI t), .ref a, .int (nI fr0), .int (nI cnt)] (fun H => OB g H o 4 [.ref cu, .ref od, .ref dg, .ref sm] ∧ AR g.2.2.2.2.2.2 H dg 16 DG ∧ (n0 (DG t) ∧ ∃ f, AB g H (DG t) 257 f) ∧ AJ g H a 14 fa) (QV (fun H H' => KJ g (fun q => q = DG t) H H' ∧ ∃ f, AB g H' (DG t) 257 f ∧ (∀ j, j < 257 → DO (f j)) ∧ (∀ j, cnt < j → f j = 0) ∧ DSg (fun j => (f j).toInt) (cnt + 1) = ((s9 / 2 ^ fr0 % 2 ^ cnt : Nat) : Int))) := by
  refine ctr_mk l (lv0 := [(0, .ref o), (1, .int (nI t)), (2, .ref a), (3, .int (nI fr0)), (4, .int (nI cnt))]) (by decide) (Nat.le_of_ble_eq_true rfl) rfl ?_
  intro p e s m below meth c ls E hr hlk hnm hl hP
  have hx := E.1
  have hb := E.2.1
  have hK := E.2.2.2.2.2
  have hF : ∀ q ∈ ([] : List Loc), n0 q.base := fun q hq => absurd hq List.not_mem_nil
  obtain ⟨ho, hdr, ⟨hd0, f0, hf0⟩, hA⟩ := hP
  have hS9 : s9 / 2 ^ fr0 % 2 ^ cnt < 2 ^ cnt := Nat.mod_lt _ (Nat.two_pow_pos _)
  refine lv_aload_n hx hb d_Sums_recode_0 rfl (lv_at hl 0 rfl) ?_
  refine q_get (C := "KateDesk$Sums") (T := T_Sums) (N := 4) (ci := 4) E ho in_Sums rfl 2 (by decide) w_249 rfl rfl d_Sums_recode_1 ?_
  refine lv_iload_n hx hb d_Sums_recode_4 rfl (lv_at hl 1 rfl) ?_
  refine q_aald (t := 5) E rfl rfl hdr t rfl ht (by decide) d_Sums_recode_5 ?_
  refine lv_astore (lv' := [(5, .ref (DG t)), (0, .ref o), (1, .int (nI t)), (2, .ref a), (3, .int (nI fr0)), (4, .int (nI cnt))]) hx hb d_Sums_recode_6 hl (by decide) rfl (fun ls hl => ?_)
  refine lv_aload hx hb d_Sums_recode_8 (lv_at hl 0 rfl) ?_
  refine lv_iconst (v := nI 0) hx hb d_Sums_recode_10 (by decide) ?_
  refine q_cS (rest := []) E (c_Arrays_fill0 l g n0 (DG t) 257 (nI 0) f0 (by decide)) w_684 w_21 w_682 w_683 hd_Arrays_fill0 rfl ⟨by decide, by decide⟩ (⟨hd0, hf0⟩) hF hl.1 rfl (Nat.le_of_ble_eq_true rfl) d_Sums_recode_11 ⟨by decide, by decide⟩ (qv (fun H1 locs hq hF => ?_))
  have hk := hq.1
  have hz : AB g H1 (DG t) 257 (fun _ => 0) := hq.2
  have hA : AJ g H1 a 14 fa := hk.ajo (aj_ne hA hK.jb hf0) hA
  refine lv_iconst (v := nI 0) hx hb d_Sums_recode_14 (by decide) ?_
  refine lv_istore (lv' := [(6, .int (nI 0)), (5, .ref (DG t)), (0, .ref o), (1, .int (nI t)), (2, .ref a), (3, .int (nI fr0)), (4, .int (nI cnt))]) hx hb d_Sums_recode_15 hl (by decide) rfl (fun ls hl => ?_)
  refine lv_iconst (v := nI 0) hx hb d_Sums_recode_17 (by decide) ?_
  refine lv_istore (lv' := [(7, .int (nI 0)), (6, .int (nI 0)), (5, .ref (DG t)), (0, .ref o), (1, .int (nI t)), (2, .ref a), (3, .int (nI fr0)), (4, .int (nI cnt))]) hx hb d_Sums_recode_18 hl (by decide) rfl (fun ls hl => ?_)
  refine lv_iconst (v := nI 0) hx hb d_Sums_recode_20 (by decide) ?_
  refine lv_istore (lv' := [(8, .int (nI 0)), (7, .int (nI 0)), (6, .int (nI 0)), (5, .ref (DG t)), (0, .ref o), (1, .int (nI t)), (2, .ref a), (3, .int (nI fr0)), (4, .int (nI cnt))]) hx hb d_Sums_recode_21 hl (by decide) rfl (fun ls hl => ?_)
  have hl : lv_has ls 10 [(8, .int (nI 0)), (6, .int (nI 0)), (7, .int (nI 0)), (0, .ref o), (2, .ref a), (3, .int (nI fr0)), (4, .int (nI cnt)), (5, .ref (DG t))] := lv_sub hl [0, 2, 1, 4, 6, 7, 8, 3] rfl
  have lp : ∀ (k : Nat) (i cr fr9 : Nat) (H : Heap) (locs : List Loc) (ls : Array Slot) (f : Nat → Int32), i + k = cnt + 1 → cr < 2 → fr9 < 1000 → KJ g (fun q => q = DG t) s.heap H → AB g H (DG t) 257 f → AJ g H a 14 fa → (∀ j, j < 257 → DO (f j)) → (∀ j, i ≤ j → f j = 0) → WN (s9 / 2 ^ fr0 % 2 ^ cnt) cnt i cr (max i fr9) (fun j => (f j).toInt) → (∀ q ∈ locs, n0 q.base) → lv_has ls 10 [(8, .int (nI i)), (6, .int (nI cr)), (7, .int (nI fr9)), (0, .ref o), (2, .ref a), (3, .int (nI fr0)), (4, .int (nI cnt)), (5, .ref (DG t))] → W p l e { frames := 1, cells := 0, slots := 0, locals := 26 } s m [.ref o, .int (nI t), .ref a, .int (nI fr0), .int (nI cnt)].toArray below meth c H locs 0 0 (MQ below (QcP (QV (fun H H' => KJ g (fun q => q = DG t) H H' ∧ ∃ f, AB g H' (DG t) 257 f ∧ (∀ j, j < 257 → DO (f j)) ∧ (∀ j, cnt < j → f j = 0) ∧ DSg (fun j => (f j).toInt) (cnt + 1) = ((s9 / 2 ^ fr0 % 2 ^ cnt : Nat) : Int)))) [.ref o, .int (nI t), .ref a, .int (nI fr0), .int (nI cnt)].toArray s 0 0 (fun q => n0 q)) (F0 m 23 ls []) := by
    intro k
    induction k with
    | zero =>
      intro  i cr fr9   H   locs   ls   f hi hcr hfr9 hk hf hA hdo hzz hwn hF hl
      obtain rfl : i = cnt + 1 := by omega
      refine lv_iload hx hb d_Sums_recode_23 (lv_at hl 0 rfl) ?_
      refine lv_iload hx hb d_Sums_recode_25 (lv_at hl 6 rfl) ?_
      refine lv_icmp_gt (tgt := 99) hx hb d_Sums_recode_27 (by decide) (fun _ => ?_) (fun h9 => absurd (nI_lt (by omega) (by omega)) h9)
      exact q_vret E hr hlk (⟨rfl, hk, f, hf, hdo, fun j hj => hzz j (by omega), wn_end hwn hS9⟩) hF d_Sums_recode_99
    | succ k ih =>
      intro  i cr fr9   H   locs   ls   f hi hcr hfr9 hk hf hA hdo hzz hwn hF hl
      have hic : i ≤ cnt := by omega
      refine lv_iload hx hb d_Sums_recode_23 (lv_at hl 0 rfl) ?_
      refine lv_iload hx hb d_Sums_recode_25 (lv_at hl 6 rfl) ?_
      refine lv_icmp_gt (tgt := 99) hx hb d_Sums_recode_27 (by decide) (fun h9 => absurd h9 (nI_nlt hic (by omega))) (fun _ => ?_)
      refine lv_iload hx hb d_Sums_recode_30 (lv_at hl 1 rfl) ?_
      refine lv_aload_n hx hb d_Sums_recode_32 rfl (lv_at hl 4 rfl) ?_
      refine lv_iload_n hx hb d_Sums_recode_33 rfl (lv_at hl 5 rfl) ?_
      refine lv_iload hx hb d_Sums_recode_34 (lv_at hl 0 rfl) ?_
      refine lv_iadd hx hb d_Sums_recode_36 ?_
      refine lv_iconst (v := nI 4) hx hb d_Sums_recode_37 (by decide) ?_
      refine lv_iload hx hb d_Sums_recode_38 (lv_at hl 6 rfl) ?_
      refine lv_iload hx hb d_Sums_recode_40 (lv_at hl 0 rfl) ?_
      refine lv_isub hx hb d_Sums_recode_42 ?_
      refine va_mmin E.1 E.2.1 (E.2.2.1.trans hl.1.symm) E.2.2.2.1 (E.2.2.2.2.1 _ w_685) (E.2.2.2.2.1 _ w_686) (E.2.2.2.2.1 _ w_23) (E.2.2.2.2.1 _ w_687) (by decide) (Nat.le_of_ble_eq_true rfl) (Nat.le_of_ble_eq_true rfl) (Nat.le_of_ble_eq_true rfl) d_Sums_recode_43 ?_
      refine lv_topi (fun t9 e9 => ?_)
      obtain rfl : t9 = nI (min 4 (cnt - i)) := e9.trans (mn4 hic hc)
      have hfi : nI fr0 + nI i = nI (fr0 + i) := nI_add _ _
      rw [hfi]
      refine q_cS (rest := [.int (nI cr)]) E (V_Limbs_bits l g n0 a (fr0 + i) (min 4 (cnt - i)) fa (s9 : Int) hfa (by omega) (Nat.le_trans (Nat.min_le_left _ _) (by decide))) w_271 w_5 w_688 w_270 hd_Limbs_bits rfl ⟨by decide, by decide⟩ hA hF hl.1 rfl (Nat.le_of_ble_eq_true rfl) d_Sums_recode_46 ⟨by decide, by decide⟩ (ql (fun r2 H1 locs hq hF => ?_))
      obtain ⟨hr2, hq⟩ := hq
      have hq := hq.symm
      subst hq
      obtain ⟨jb, hjb⟩ : ∃ jb, jb = (s9 / 2 ^ fr0 % 2 ^ cnt) / 2 ^ i % 2 ^ (min 4 (cnt - i)) := ⟨_, rfl⟩
      have hj16 : jb < 16 := by rw [hjb]; exact Nat.lt_of_lt_of_le (Nat.mod_lt _ (Nat.two_pow_pos _)) (Nat.le_trans (Nat.pow_le_pow_right (by decide) (Nat.min_le_left 4 _)) (by decide))
      have hr3 : r2 = lN jb := lN_r (lN_of hr2 (hjb.trans (win_e hic).symm)) hj16
      subst hr3
      refine lv_l2i (v := (lN jb).toInt32) hx hb d_Sums_recode_49 rfl ?_
      refine lv_topi (fun t9 e9 => ?_)
      obtain rfl : t9 = nI jb := e9.trans (lN_i jb)
      refine lv_iadd hx hb d_Sums_recode_50 ?_
      refine lv_topi (fun t9 e9 => ?_)
      obtain rfl : t9 = nI (cr + jb) := e9.trans (nI_add _ _)
      refine lv_istore (lv' := [(9, .int (nI (cr + jb))), (8, .int (nI i)), (6, .int (nI cr)), (7, .int (nI fr9)), (0, .ref o), (2, .ref a), (3, .int (nI fr0)), (4, .int (nI cnt)), (5, .ref (DG t))]) hx hb d_Sums_recode_51 hl (by decide) rfl (fun ls hl => ?_)
      refine lv_iload hx hb d_Sums_recode_53 (lv_at hl 1 rfl) ?_
      refine lv_iload hx hb d_Sums_recode_55 (lv_at hl 3 rfl) ?_
      refine lv_icmp_lt (tgt := 93) hx hb d_Sums_recode_57 (by decide) (fun h1 => ?_) (fun h1 => ?_)
      rotate_left
      · skip
        have hge : fr9 ≤ i := Classical.byContradiction (fun hn => h1 (nI_lt (by omega) (by omega)))
        rw [Nat.max_eq_left hge] at hwn
        refine lv_iload hx hb d_Sums_recode_60 (lv_at hl 0 rfl) ?_
        refine lv_iconst (v := nI 1) hx hb d_Sums_recode_62 (by decide) ?_
        refine lv_iand hx hb d_Sums_recode_63 ?_
        refine lv_iconst (v := nI 1) hx hb d_Sums_recode_64 (by decide) ?_
        refine lv_icmp_ne (tgt := 93) hx hb d_Sums_recode_65 (by decide) (fun h2 => ?_) (fun h2 => ?_)
        rotate_left
        · skip
          obtain ⟨cn, hcn, ecn, hc8, hvd, hdd⟩ := do_step (cr + jb) (by omega) h2
          refine lv_iload hx hb d_Sums_recode_68 (lv_at hl 0 rfl) ?_
          refine lv_iconst (v := nI 3) hx hb d_Sums_recode_70 (by decide) ?_
          refine lv_ishr hx hb d_Sums_recode_71 ?_
          refine lv_topi (fun t9 e9 => ?_)
          obtain rfl : t9 = nI cn := e9.trans (ecn)
          refine lv_istore (lv' := [(6, .int (nI cn)), (9, .int (nI (cr + jb))), (8, .int (nI i)), (7, .int (nI fr9)), (0, .ref o), (2, .ref a), (3, .int (nI fr0)), (4, .int (nI cnt)), (5, .ref (DG t))]) hx hb d_Sums_recode_72 hl (by decide) rfl (fun ls hl => ?_)
          refine lv_aload hx hb d_Sums_recode_74 (lv_at hl 8 rfl) ?_
          refine lv_iload hx hb d_Sums_recode_76 (lv_at hl 2 rfl) ?_
          refine lv_iload hx hb d_Sums_recode_78 (lv_at hl 1 rfl) ?_
          refine lv_iload hx hb d_Sums_recode_80 (lv_at hl 0 rfl) ?_
          refine lv_iconst (v := nI 4) hx hb d_Sums_recode_82 (by decide) ?_
          refine lv_ishl hx hb d_Sums_recode_83 ?_
          refine lv_isub hx hb d_Sums_recode_84 ?_
          refine lv_i2b (v := ((nI (cr + jb)) - ((nI cn) <<< ((nI 4) &&& 31))).toInt8.toInt32) hx hb d_Sums_recode_85 rfl ?_
          refine q_bast E hf hd0 hF i rfl (by omega) (by decide) d_Sums_recode_86 (fun H2 locs hq hf2 hF => ?_)
          have hk := hk.tr hq
          have hA := hq.ajo (aj_ne hA hK.jb hf) hA
          have hdo2 := DO_upd (i := i) hdo hdd
          have hwn2 := wn_odd (c' := cn) (w := jb) (d := fun j => (upd f i (vp_nar .byte ((nI (cr + jb) - (nI cn <<< (nI 4 &&& 31))).toInt8.toInt32)) j).toInt) (hwn.ext (fun j hj => by show (f j).toInt = (upd f i _ j).toInt; rw [up_n (by omega)])) (by rw [hjb]; exact wn_w hS9 hic) (by omega) (fun e => big_e hjb (by have := hc8 e; have : ¬ (cr + jb) = 8 := fun e8 => absurd h2 (by rw [e8]; decide); omega)) (by show (upd f i _ i).toInt = _; rw [up_s, hvd]; omega)
          refine lv_iload hx hb d_Sums_recode_87 (lv_at hl 2 rfl) ?_
          refine lv_iconst (v := nI 4) hx hb d_Sums_recode_89 (by decide) ?_
          refine lv_iadd hx hb d_Sums_recode_90 ?_
          refine lv_istore (lv' := [(7, .int ((nI i) + (nI 4))), (6, .int (nI cn)), (9, .int (nI (cr + jb))), (8, .int (nI i)), (0, .ref o), (2, .ref a), (3, .int (nI fr0)), (4, .int (nI cnt)), (5, .ref (DG t))]) hx hb d_Sums_recode_91 hl (by decide) rfl (fun ls hl => ?_)
          have hfi4 : nI i + nI 4 = nI (i + 4) := nI_add _ _
          rw [hfi4] at hl
          refine lv_iinc (k := 3) (v := nI (i + 1)) (lv' := [(8, .int (nI (i + 1))), (7, .int (nI (i + 4))), (6, .int (nI cn)), (9, .int (nI (cr + jb))), (0, .ref o), (2, .ref a), (3, .int (nI fr0)), (4, .int (nI cnt)), (5, .ref (DG t))]) hx hb d_Sums_recode_93 hl rfl (i_inc i) (by decide) rfl (fun ls hl => ?_)
          refine lv_goto (tgt := 23) hx hb d_Sums_recode_96 (by decide) ?_
          have hl : lv_has ls 10 [(8, .int (nI (i + 1))), (6, .int (nI cn)), (7, .int (nI (i + 4))), (0, .ref o), (2, .ref a), (3, .int (nI fr0)), (4, .int (nI cnt)), (5, .ref (DG t))] := lv_sub hl [0, 2, 1, 4, 5, 6, 7, 8] rfl
          exact ih (i + 1) cn (i + 4) _ _ ls _ (by omega) hcn (by omega) hk hf2 hA hdo2 (fun j hj => by rw [up_n (by omega)]; exact hzz j (by omega)) (by rw [Nat.max_eq_right (by omega)]; exact hwn2) hF hl
        refine lv_iinc (k := 1) (v := nI (i + 1)) (lv' := [(8, .int (nI (i + 1))), (9, .int (nI (cr + jb))), (6, .int (nI cr)), (7, .int (nI fr9)), (0, .ref o), (2, .ref a), (3, .int (nI fr0)), (4, .int (nI cnt)), (5, .ref (DG t))]) hx hb d_Sums_recode_93 hl rfl (i_inc i) (by decide) rfl (fun ls hl => ?_)
        refine lv_goto (tgt := 23) hx hb d_Sums_recode_96 (by decide) ?_
        have hl : lv_has ls 10 [(8, .int (nI (i + 1))), (6, .int (nI cr)), (7, .int (nI fr9)), (0, .ref o), (2, .ref a), (3, .int (nI fr0)), (4, .int (nI cnt)), (5, .ref (DG t))] := lv_sub hl [0, 2, 3, 4, 5, 6, 7, 8] rfl
        exact ih (i + 1) cr fr9 _ _ ls f (by omega) hcr hfr9 hk hf hA hdo (fun j hj => hzz j (by omega)) (by rw [Nat.max_eq_left (by omega)]; exact wn_even hwn hS9 (by show (f i).toInt = 0; rw [hzz i (Nat.le_refl _)]; rfl) (par_e hic hS9 hjb hcr (do_odd _ (by omega) h2))) hF hl
      have hlt : i < fr9 := Classical.byContradiction (fun hn => nI_nlt (show fr9 ≤ i by omega) (by omega) h1)
      refine lv_iinc (k := 1) (v := nI (i + 1)) (lv' := [(8, .int (nI (i + 1))), (9, .int (nI (cr + jb))), (6, .int (nI cr)), (7, .int (nI fr9)), (0, .ref o), (2, .ref a), (3, .int (nI fr0)), (4, .int (nI cnt)), (5, .ref (DG t))]) hx hb d_Sums_recode_93 hl rfl (i_inc i) (by decide) rfl (fun ls hl => ?_)
      refine lv_goto (tgt := 23) hx hb d_Sums_recode_96 (by decide) ?_
      have hl : lv_has ls 10 [(8, .int (nI (i + 1))), (6, .int (nI cr)), (7, .int (nI fr9)), (0, .ref o), (2, .ref a), (3, .int (nI fr0)), (4, .int (nI cnt)), (5, .ref (DG t))] := lv_sub hl [0, 2, 3, 4, 5, 6, 7, 8] rfl
      exact ih (i + 1) cr fr9 _ _ ls f (by omega) hcr hfr9 hk hf hA hdo (fun j hj => hzz j (by omega)) (by rw [Nat.max_eq_right (by omega)] at hwn ⊢; exact wn_skip hwn hlt (by show (f i).toInt = 0; rw [hzz i (Nat.le_refl _)]; rfl)) hF hl
  exact lp (cnt + 1) 0 0 0 _ _ ls _ (by omega) (by decide) (by decide) hk hz hA (fun _ _ => Or.inl rfl) (fun _ _ => rfl) (wn_0 _ _ _) hF hl
