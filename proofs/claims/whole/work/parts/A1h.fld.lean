/-- a row of limbs that is the number x -/
def RV (f : Nat → Int64) (x : Int) : Prop := (∀ k, k < 14 → dg (f k)) ∧ VL f 14 = x
/-- a row that is read from i on -/
def RD (g : WG) (H : Heap) (a : Nat) (fa : Nat → Int64) (i : Nat) : Prop := ∃ f', AJ g H a 14 f' ∧ ∀ j, i ≤ j → j < 14 → f' j = fa j
theorem RD.st {g : WG} {H H' : Heap} {a t i : Nat} {fa ft : Nat → Int64} {x : Int64} (h : RD g H a fa i) (hk : KJ g (fun q => q = t) H H') (ht : AJ g H t 14 ft) (ht' : AJ g H' t 14 (vp_updL ft i x)) : RD g H' a fa (i + 1) := by
  obtain ⟨f', h1, h2⟩ := h
  by_cases e : a = t
  · subst e
    refine ⟨_, ht', fun j hj hj2 => ?_⟩
    rw [show vp_updL ft i x j = ft j by simp [vp_updL, show j ≠ i by omega], (ht.same h1).2 j hj2]
    exact h2 j (by omega) hj2
  · exact ⟨f', hk.ajo e h1, fun j hj hj2 => h2 j (by omega) hj2⟩
theorem VL_pls {f h : Nat → Int64} {n : Nat} (hf : ∀ k, k < n → dg (f k)) (hh : ∀ k, k < n → dg (h k)) : VL (fun k => f k + h k) n = VL f n + VL h n := by
  induction n with
  | zero => rfl
  | succ n ih =>
    have a := hf n (by omega)
    have b := hh n (by omega)
    unfold dg at a b
    show VL (fun k => f k + h k) n + (f n + h n).toInt * 268435456 ^ n = VL f n + (f n).toInt * 268435456 ^ n + (VL h n + (h n).toInt * 268435456 ^ n)
    rw [ih (fun k hk => hf k (by omega)) (fun k hk => hh k (by omega)), i64_add (by omega) (by omega), Int.add_mul]
    omega
theorem VL_mns {f h : Nat → Int64} {n : Nat} (hf : ∀ k, k < n → dg (f k)) (hh : ∀ k, k < n → dg (h k)) : VL (fun k => f k - h k) n = VL f n - VL h n := by
  induction n with
  | zero => rfl
  | succ n ih =>
    have a := hf n (by omega)
    have b := hh n (by omega)
    unfold dg at a b
    show VL (fun k => f k - h k) n + (f n - h n).toInt * 268435456 ^ n = VL f n + (f n).toInt * 268435456 ^ n - (VL h n + (h n).toInt * 268435456 ^ n)
    rw [ih (fun k hk => hf k (by omega)) (fun k hk => hh k (by omega)), i64_sub (by omega) (by omega), Int.sub_mul]
    omega
theorem pls_bd {x y : Int64} (hx : dg x) (hy : dg y) : -4611686018427387904 ≤ (x + y).toInt ∧ (x + y).toInt ≤ 4611686018427387904 := by
  unfold dg at hx hy
  rw [i64_add (by omega) (by omega)]
  omega
theorem mns_bd {x y : Int64} (hx : dg x) (hy : dg y) : -4611686018427387904 ≤ (x - y).toInt ∧ (x - y).toInt ≤ 4611686018427387904 := by
  unfold dg at hx hy
  rw [i64_sub (by omega) (by omega)]
  omega
theorem upd_dg {f : Nat → Int64} {i : Nat} {x : Int64} (h : ∀ k, k < i → dg (f k)) (hx : dg x) : ∀ k, k < i + 1 → dg (vp_updL f i x k) := by
  intro k hk
  by_cases e : k = i
  · subst e
    simp only [vp_updL, if_true]
    exact hx
  · simp only [vp_updL, e, if_false]
    exact h k (by omega)
/-- x and a carry over b: what lies between -b and 2 b tells the carry -/
theorem carry_1 {x y c b : Int} (hb : 0 < b) (hx : 0 ≤ x ∧ x < b) (hy : -b ≤ y ∧ y < b) (h : x + c * b = y) : (c = 0 ∧ x = y ∧ 0 ≤ y) ∨ (c = -1 ∧ x = y + b ∧ y < 0) := by
  rcases Int.lt_or_le y 0 with q | q
  · have h2 : x + (c + 1) * b = y + b := by rw [Int.add_mul]; omega
    have := carry0 hb hx (⟨by omega, by omega⟩ : 0 ≤ y + b ∧ y + b < b) h2
    exact Or.inr ⟨by omega, this.2, q⟩
  · have := carry0 hb hx ⟨q, hy.2⟩ h
    exact Or.inl ⟨this.1, this.2, q⟩
theorem b14 : (268435456 : Int) ^ 14 = 10086913586276986678343434265636765134100413253239154346994763111486904773503285916522052161250538404046496765518544896 := by decide
theorem MI.lastA {g : WG} {H : Heap} {t : Nat} {T c f : Nat → Int64} (hA : AJ g H t 14 f) (hc0 : c 0 = T 0) (hc : ∀ k, k < 12 → c (k + 1) = T (k + 1) + (c k >>> ((nI 28).toInt64 &&& 63))) (hf : ∀ k, k < 13 → f k = c k &&& 268435455) (h13 : f 13 = c 12 >>> ((nI 28).toInt64 &&& 63)) (hb : ∀ k, k < 13 → 0 ≤ (T k).toInt ∧ (T k).toInt ≤ 2305843009213693952) (hV : VL T 13 < 268435456 ^ 14) : (∀ k, k < 14 → dg (f k)) ∧ VL f 14 = VL T 13 := MI.last (n := 0) hc0 hc hf h13 hb hV
theorem i64_z {x : Int64} (h : x = 0) : x.toInt = 0 := by rw [h]; rfl
theorem MI_0 {fa fq fb : Nat → Int64} : MI fa fq fb 0 (TL 0 0 0 0 0 0 0 0 0 0 0 0 0) := by
  have hz : ∀ k, TL 0 0 0 0 0 0 0 0 0 0 0 0 0 k = 0 := by
    intro k
    match k with
    | 0 => rfl
    | 1 => rfl
    | 2 => rfl
    | 3 => rfl
    | 4 => rfl
    | 5 => rfl
    | 6 => rfl
    | 7 => rfl
    | 8 => rfl
    | 9 => rfl
    | 10 => rfl
    | 11 => rfl
    | 12 => rfl
    | k + 13 => rfl
  refine ⟨⟨by rw [hz]; decide, by rw [hz]; decide⟩, fun k _ _ => ⟨by rw [hz]; decide, by rw [hz]; decide⟩, 0, by decide, by decide, ?_⟩
  rw [VL_ext (h := fun _ => 0) (fun k _ => hz k)]
  show 268435456 ^ 0 * VL (fun _ => (0 : Int64)) 13 = VL fa 14 * 0 + 0 * VL fq 14
  rw [show VL (fun _ => (0 : Int64)) 13 = 0 from by decide]
  omega
theorem mul_rng {x y Q M T : Int} (hx0 : 0 ≤ x) (hy0 : 0 ≤ y) (hx : x < Q) (hy : y < Q) (hM0 : 0 ≤ M) (hM1 : M < 268435456 ^ 14) (h : 268435456 ^ 14 * T = x * y + M * Q) (hQ : Q ≤ 268435456 ^ 14) : 0 ≤ T ∧ T < 2 * Q := by
  have hp := pw_pos 14
  have hQ0 : 0 < Q := by omega
  have h1 : 0 ≤ x * y := Int.mul_nonneg hx0 hy0
  have h2 : 0 ≤ M * Q := Int.mul_nonneg hM0 (Int.le_of_lt hQ0)
  have h3 : x * y ≤ Q * (268435456 ^ 14) := Int.mul_le_mul (Int.le_of_lt hx) (by omega) hy0 (Int.le_of_lt hQ0)
  have h4 : M * Q < 268435456 ^ 14 * Q := Int.mul_lt_mul_of_pos_right hM1 hQ0
  generalize (268435456 : Int) ^ 14 = b at *
  constructor
  · rcases Int.lt_or_le T 0 with c | c
    · exfalso
      have := Int.mul_neg_of_pos_of_neg hp c
      omega
    · exact c
  · rcases Int.lt_or_le T (2 * Q) with c | c
    · exact c
    · exfalso
      have h5 := Int.mul_le_mul_of_nonneg_left c (Int.le_of_lt hp)
      have h6 : b * (2 * Q) = b * Q + b * Q := by rw [Int.mul_left_comm]; omega
      have h7 : Q * b = b * Q := Int.mul_comm _ _
      omega
theorem cmp_gt2 {x y : Int64} (h : ¬ lg_cmp x y ≤ 0) : y.toInt < x.toInt := by
  unfold lg_cmp at h
  by_cases h1 : x > y
  · exact Int64.lt_iff_toInt_lt.mp h1
  · rw [if_neg h1] at h
    split at h <;> exact absurd (by decide) h
theorem cmp_eq2 {x y : Int64} (h1 : 0 ≤ lg_cmp x y) (h2 : lg_cmp x y ≤ 0) : x = y := by
  unfold lg_cmp at h1 h2
  by_cases c : x > y
  · rw [if_pos c] at h2
    exact absurd h2 (by decide)
  · rw [if_neg c] at h1
    by_cases e : x = y
    · exact e
    · rw [if_neg e] at h1
      exact absurd h1 (by decide)
set_option maxHeartbeats 4000000 in
set_option maxRecDepth 100000 in
theorem V_Field_reduce (l : Launch) (g : WG) (n0 : Nat → Prop) (o t : Nat) (F : Nat → Nat) (mi : Int64) (f fq : Nat → Int64) (hf : ∀ k, k < 14 → dg (f k)) (hq9 : ∀ k, k < 14 → dg (fq k)) (h2 : VL f 14 < 2 * VL fq 14) (htm : F 0 ≠ t) : Ctr l y_Field_reduce (.code y_Field_reduce prog_3_method_7_code 5 none) 0 0 0 0 n0 g [.ref o, .ref t] (fun H => FD g n0 H o F mi ∧ n0 t ∧ AJ g H t 14 f ∧ AJ g H (F 0) 14 fq) (QV (fun H H' => KJ g (fun q => q = t) H H' ∧ ∃ f', AJ g H' t 14 f' ∧ RV f' (if VL f 14 < VL fq 14 then VL f 14 else VL f 14 - VL fq 14))) := by
  refine ctr_mk l (lv0 := [(0, .ref o), (1, .ref t)]) (by decide) (Nat.le_of_ble_eq_true rfl) rfl ?_
  intro p e s m below meth c ls E hr hlk hnm hl hP
  have hx := E.1
  have hb := E.2.1
  have hK := E.2.2.2.2.2
  have hF : ∀ q ∈ ([] : List Loc), n0 q.base := fun q hq => absurd hq List.not_mem_nil
  obtain ⟨hfd, hnt, hA, hM⟩ := hP
  have rf := VL_range hf
  have rq := VL_range hq9
  have loop2 : ∀ (k : Nat) (i : Nat) (H : Heap) (locs : List Loc) (ls : Array Slot) (cr : Int64) (ft : Nat → Int64), i + k = 14 → VL fq 14 ≤ VL f 14 → KJ g (fun q => q = t) s.heap H → AJ g H t 14 ft → RD g H t f i → RD g H (F 0) fq i → (∀ k, k < i → dg (ft k)) → VL ft i + cr.toInt * 268435456 ^ i = VL (fun k => f k - fq k) i → -68719476736 ≤ cr.toInt ∧ cr.toInt ≤ 68719476736 → (∀ q ∈ locs, n0 q.base) → lv_has ls 5 [(4, .int (nI i)), (2, .long cr), (0, .ref o), (1, .ref t)] → W p l e { frames := 0, cells := 0, slots := 0, locals := 0 } s m [.ref o, .ref t].toArray below meth c H locs 0 0 (MQ below (QcP (QV (fun H H' => KJ g (fun q => q = t) H H' ∧ ∃ f', AJ g H' t 14 f' ∧ RV f' (if VL f 14 < VL fq 14 then VL f 14 else VL f 14 - VL fq 14)))) [.ref o, .ref t].toArray s 0 0 (fun q => n0 q)) (F0 m 48 ls []) := by
    intro k
    induction k with
    | zero =>
      intro  i   H   locs   ls   cr   ft hi hge hk hft hra hrb hdt hV hcb hF hl
      obtain rfl : i = 14 := by omega
      refine lv_iload hx hb d_Field_reduce_48 (lv_at hl 0 rfl) ?_
      refine lv_bipush (v := nI 14) hx hb d_Field_reduce_50 (by decide) ?_
      refine lv_icmp_ge (tgt := 90) hx hb d_Field_reduce_52 (by decide) (fun _ => ?_) (fun h9 => absurd (by decide) h9)
      rw [VL_mns hf hq9] at hV
      have hc := carry0 (pw_pos 14) (VL_range hdt) ⟨by omega, by omega⟩ hV
      exact q_vret E hr hlk (⟨rfl, hk, _, hft, hdt, by rw [if_neg (by omega)]; exact hc.2⟩) hF d_Field_reduce_90
    | succ k ih =>
      intro  i   H   locs   ls   cr   ft hi hge hk hft hra hrb hdt hV hcb hF hl
      have hi14 : i < 14 := by omega
      refine lv_iload hx hb d_Field_reduce_48 (lv_at hl 0 rfl) ?_
      refine lv_bipush (v := nI 14) hx hb d_Field_reduce_50 (by decide) ?_
      refine lv_icmp_ge (tgt := 90) hx hb d_Field_reduce_52 (by decide) (fun h9 => absurd h9 (nI_ge hi14 (by decide))) (fun _ => ?_)
      refine lv_lload_n hx hb d_Field_reduce_55 rfl (lv_at hl 1 rfl) ?_
      refine lv_aload_n hx hb d_Field_reduce_56 rfl (lv_at hl 3 rfl) ?_
      refine lv_iload hx hb d_Field_reduce_57 (lv_at hl 0 rfl) ?_
      obtain ⟨rd1, hrd1, erd1⟩ := id (hra)
      refine q_lald (N := 14) (f := rd1) E hrd1 i rfl hi14 (by decide) d_Field_reduce_59 ?_
      refine lv_topl (fun t9 e9 => ?_)
      obtain rfl : t9 = f i := e9.trans (erd1 i (Nat.le_refl _) hi14)
      refine lv_aload_n hx hb d_Field_reduce_60 rfl (lv_at hl 2 rfl) ?_
      refine q_get (C := "KateDesk$Field") (T := T_Field) (N := 7) (ci := 1) E ((hk.fd hK hfd).1) in_Field rfl 0 (by decide) w_170 rfl rfl d_Field_reduce_61 ?_
      refine lv_iload hx hb d_Field_reduce_64 (lv_at hl 0 rfl) ?_
      obtain ⟨rd2, hrd2, erd2⟩ := id (hrb)
      refine q_lald (N := 14) (f := rd2) E hrd2 i rfl hi14 (by decide) d_Field_reduce_66 ?_
      refine lv_topl (fun t9 e9 => ?_)
      obtain rfl : t9 = fq i := e9.trans (erd2 i (Nat.le_refl _) hi14)
      refine lv_lsub hx hb d_Field_reduce_67 ?_
      refine lv_ladd hx hb d_Field_reduce_68 ?_
      have hst := carry_step (f := fun k => f k - fq k) (f' := ft) hcb (mns_bd (hf i hi14) (hq9 i hi14)) hV
      refine lv_lstore_n (lv' := [(2, .long (cr + ((f i) - (fq i)))), (4, .int (nI i)), (0, .ref o), (1, .ref t)]) hx hb d_Field_reduce_69 rfl hl (by decide) rfl (fun ls hl => ?_)
      refine lv_aload_n hx hb d_Field_reduce_70 rfl (lv_at hl 3 rfl) ?_
      refine lv_iload hx hb d_Field_reduce_71 (lv_at hl 1 rfl) ?_
      refine lv_lload_n hx hb d_Field_reduce_73 rfl (lv_at hl 0 rfl) ?_
      refine lv_ldc2 (v := 268435455) hx hb E.2.2.2.1 (E.2.2.2.2.1 _ w_143) d_Field_reduce_74 ?_
      refine lv_land hx hb d_Field_reduce_77 ?_
      refine q_last E hft hnt hF i rfl hi14 (by decide) d_Field_reduce_78 (fun H1 locs hq hft2 hF => ?_)
      have hk := hk.tr hq
      refine lv_lload_n hx hb d_Field_reduce_79 rfl (lv_at hl 0 rfl) ?_
      refine lv_bipush (v := nI 28) hx hb d_Field_reduce_80 (by decide) ?_
      refine lv_lshr (v := (cr + ((f i) - (fq i))) >>> ((nI 28).toInt64 &&& 63)) hx hb d_Field_reduce_82 rfl ?_
      refine lv_lstore_n (lv' := [(2, .long ((cr + ((f i) - (fq i))) >>> ((nI 28).toInt64 &&& 63))), (4, .int (nI i)), (0, .ref o), (1, .ref t)]) hx hb d_Field_reduce_83 rfl hl (by decide) rfl (fun ls hl => ?_)
      refine lv_iinc (k := 1) (v := nI (i + 1)) (lv' := [(4, .int (nI (i + 1))), (2, .long ((cr + ((f i) - (fq i))) >>> ((nI 28).toInt64 &&& 63))), (0, .ref o), (1, .ref t)]) hx hb d_Field_reduce_84 hl rfl (i_inc i) (by decide) rfl (fun ls hl => ?_)
      refine lv_goto (tgt := 48) hx hb d_Field_reduce_87 (by decide) ?_
      have hl : lv_has ls 5 [(4, .int (nI (i + 1))), (2, .long ((cr + ((f i) - (fq i))) >>> ((nI 28).toInt64 &&& 63))), (0, .ref o), (1, .ref t)] := lv_sub hl [0, 1, 2, 3] rfl
      exact ih (i + 1) _ _ ls _ _ (by omega) hge hk hft2 (RD.st hra hq hft hft2) (RD.st hrb hq hft hft2) (upd_dg hdt hst.2.2.2) hst.1 ⟨hst.2.1, hst.2.2.1⟩ hF hl
  have tail : ∀ (ls : Array Slot) (x : Int32), VL fq 14 ≤ VL f 14 → lv_has ls 5 [(2, .int x), (0, .ref o), (1, .ref t)] → W p l e { frames := 0, cells := 0, slots := 0, locals := 0 } s m [.ref o, .ref t].toArray below meth c s.heap [] 0 0 (MQ below (QcP (QV (fun H H' => KJ g (fun q => q = t) H H' ∧ ∃ f', AJ g H' t 14 f' ∧ RV f' (if VL f 14 < VL fq 14 then VL f 14 else VL f 14 - VL fq 14)))) [.ref o, .ref t].toArray s 0 0 (fun q => n0 q)) (F0 m 43 ls []) := by
    intro  ls   x hge hl
    refine lv_lconst (v := 0) hx hb d_Field_reduce_43 (by decide) ?_
    refine lv_lstore_n (lv' := [(2, .long 0), (0, .ref o), (1, .ref t)]) hx hb d_Field_reduce_44 rfl hl (by decide) rfl (fun ls hl => ?_)
    refine lv_iconst (v := nI 0) hx hb d_Field_reduce_45 (by decide) ?_
    refine lv_istore (lv' := [(4, .int (nI 0)), (2, .long 0), (0, .ref o), (1, .ref t)]) hx hb d_Field_reduce_46 hl (by decide) rfl (fun ls hl => ?_)
    have hl : lv_has ls 5 [(4, .int (nI 0)), (2, .long 0), (0, .ref o), (1, .ref t)] := lv_sub hl [0, 1, 2, 3] rfl
    exact loop2 14 0 _ _ ls 0 f rfl hge KJ.rf hA ⟨_, hA, fun _ _ _ => rfl⟩ ⟨_, hM, fun _ _ _ => rfl⟩ (fun k hk => absurd hk (Nat.not_lt_zero _)) rfl ⟨by decide, by decide⟩ hF hl
  have loop1 : ∀ (k : Nat) (ls : Array Slot) (x : Int32), k ≤ 14 → x = nI k - 1 → (∀ j, k ≤ j → j < 14 → f j = fq j) → lv_has ls 5 [(2, .int x), (0, .ref o), (1, .ref t)] → W p l e { frames := 0, cells := 0, slots := 0, locals := 0 } s m [.ref o, .ref t].toArray below meth c s.heap [] 0 0 (MQ below (QcP (QV (fun H H' => KJ g (fun q => q = t) H H' ∧ ∃ f', AJ g H' t 14 f' ∧ RV f' (if VL f 14 < VL fq 14 then VL f 14 else VL f 14 - VL fq 14)))) [.ref o, .ref t].toArray s 0 0 (fun q => n0 q)) (F0 m 3 ls []) := by
    intro k
    induction k with
    | zero =>
      intro  ls   x hk14 hxx heq hl
      subst hxx
      refine lv_iload_n hx hb d_Field_reduce_3 rfl (lv_at hl 0 rfl) ?_
      refine lv_if_lt (tgt := 43) hx hb d_Field_reduce_4 (by decide) (fun _ => ?_) (fun h9 => absurd (by decide) h9)
      exact tail ls _ (Int.le_of_eq (VL_ext (fun j hj => (heq j (Nat.zero_le _) hj).symm))) hl
    | succ k ih =>
      intro  ls   x hk14 hxx heq hl
      rw [nI_pred] at hxx
      subst hxx
      refine lv_iload_n hx hb d_Field_reduce_3 rfl (lv_at hl 0 rfl) ?_
      refine lv_if_lt (tgt := 43) hx hb d_Field_reduce_4 (by decide) (fun h9 => absurd h9 (nI_pos (by omega))) (fun _ => ?_)
      refine lv_aload_n hx hb d_Field_reduce_7 rfl (lv_at hl 2 rfl) ?_
      refine lv_iload_n hx hb d_Field_reduce_8 rfl (lv_at hl 0 rfl) ?_
      refine q_lald (N := 14) (f := f) E hA k rfl (by omega) (by decide) d_Field_reduce_9 ?_
      refine lv_aload_n hx hb d_Field_reduce_10 rfl (lv_at hl 1 rfl) ?_
      refine q_get (C := "KateDesk$Field") (T := T_Field) (N := 7) (ci := 1) E hfd.1 in_Field rfl 0 (by decide) w_170 rfl rfl d_Field_reduce_11 ?_
      refine lv_iload_n hx hb d_Field_reduce_14 rfl (lv_at hl 0 rfl) ?_
      refine q_lald (N := 14) (f := fq) E hM k rfl (by omega) (by decide) d_Field_reduce_15 ?_
      refine W.lcmp hx hb d_Field_reduce_16 ?_
      refine lv_if_ge (tgt := 21) hx hb d_Field_reduce_17 (by decide) (fun h1 => ?_) (fun h1 => ?_)
      rotate_left
      · skip
        have hlt := VL_lex (k := k) (by omega) hf hq9 (fun j a c => heq j (by omega) c) (cmp_lt h1)
        exact q_vret E hr hlk (⟨rfl, KJ.rf, _, hA, hf, by rw [if_pos hlt]⟩) hF d_Field_reduce_20
      refine lv_aload_n hx hb d_Field_reduce_21 rfl (lv_at hl 2 rfl) ?_
      refine lv_iload_n hx hb d_Field_reduce_22 rfl (lv_at hl 0 rfl) ?_
      refine q_lald (N := 14) (f := f) E hA k rfl (by omega) (by decide) d_Field_reduce_23 ?_
      refine lv_aload_n hx hb d_Field_reduce_24 rfl (lv_at hl 1 rfl) ?_
      refine q_get (C := "KateDesk$Field") (T := T_Field) (N := 7) (ci := 1) E hfd.1 in_Field rfl 0 (by decide) w_170 rfl rfl d_Field_reduce_25 ?_
      refine lv_iload_n hx hb d_Field_reduce_28 rfl (lv_at hl 0 rfl) ?_
      refine q_lald (N := 14) (f := fq) E hM k rfl (by omega) (by decide) d_Field_reduce_29 ?_
      refine W.lcmp hx hb d_Field_reduce_30 ?_
      refine lv_if_le (tgt := 37) hx hb d_Field_reduce_31 (by decide) (fun h3 => ?_) (fun h3 => ?_)
      rotate_left
      · skip
        refine lv_goto (tgt := 43) hx hb d_Field_reduce_34 (by decide) ?_
        exact tail ls _ (Int.le_of_lt (VL_lex (k := k) (by omega) hq9 hf (fun j a c => (heq j (by omega) c).symm) (cmp_gt2 h3))) hl
      refine lv_iinc (k := 0) (v := nI k - 1) (lv' := [(2, .int (nI k - 1)), (0, .ref o), (1, .ref t)]) hx hb d_Field_reduce_37 hl rfl (i_dec (nI k)) (by decide) rfl (fun ls hl => ?_)
      refine lv_goto (tgt := 3) hx hb d_Field_reduce_40 (by decide) ?_
      exact ih ls _ (by omega) rfl (fun j g1 g2 => if e : j = k then by subst e; exact cmp_eq2 h1 h3 else heq j (by omega) g2) hl
  refine lv_bipush (v := nI 13) hx hb d_Field_reduce_0 (by decide) ?_
  refine lv_istore_n (lv' := [(2, .int (nI 13)), (0, .ref o), (1, .ref t)]) hx hb d_Field_reduce_2 rfl hl (by decide) rfl (fun ls hl => ?_)
  have hl : lv_has ls 5 [(2, .int (nI 13)), (0, .ref o), (1, .ref t)] := lv_sub hl [0, 1, 2] rfl
  exact loop1 14 ls _ (by decide) (by decide) (fun j g1 g2 => absurd g2 (by omega)) hl
set_option maxHeartbeats 4000000 in
set_option maxRecDepth 100000 in
theorem V_Field_add (l : Launch) (g : WG) (n0 : Nat → Prop) (o t a b : Nat) (F : Nat → Nat) (mi : Int64) (fa fb fq : Nat → Int64) (x y Q : Int) (hfa : RV fa x) (hfb : RV fb y) (hfq : RV fq Q) (hxQ : x < Q) (hyQ : y < Q) (htm : F 0 ≠ t) (hQ2 : 2 * Q < 268435456 ^ 14) : Ctr l y_Field_add (.code y_Field_add prog_3_method_4_code 7 none) 1 24 0 0 n0 g [.ref o, .ref t, .ref a, .ref b] (fun H => FD g n0 H o F mi ∧ (n0 t ∧ ∃ ft, AJ g H t 14 ft) ∧ AJ g H a 14 fa ∧ AJ g H b 14 fb ∧ AJ g H (F 0) 14 fq) (QV (fun H H' => KJ g (fun q => q = t) H H' ∧ ∃ f', AJ g H' t 14 f' ∧ RV f' (if x + y < Q then x + y else x + y - Q))) := by
  refine ctr_mk l (lv0 := [(0, .ref o), (1, .ref t), (2, .ref a), (3, .ref b)]) (by decide) (Nat.le_of_ble_eq_true rfl) rfl ?_
  intro p e s m below meth c ls E hr hlk hnm hl hP
  have hx := E.1
  have hb := E.2.1
  have hK := E.2.2.2.2.2
  have hF : ∀ q ∈ ([] : List Loc), n0 q.base := fun q hq => absurd hq List.not_mem_nil
  obtain ⟨hfd, ⟨hnt, ft0, hft0⟩, hA, hB, hM⟩ := hP
  have ra := VL_range hfa.1
  have rb := VL_range hfb.1
  have rq := VL_range hfq.1
  rw [hfa.2] at ra
  rw [hfb.2] at rb
  rw [hfq.2] at rq
  have loop : ∀ (k : Nat) (i : Nat) (H : Heap) (locs : List Loc) (ls : Array Slot) (cr : Int64) (ft : Nat → Int64), i + k = 14 → KJ g (fun q => q = t) s.heap H → AJ g H t 14 ft → RD g H a fa i → RD g H b fb i → (∀ k, k < i → dg (ft k)) → VL ft i + cr.toInt * 268435456 ^ i = VL (fun k => fa k + fb k) i → -68719476736 ≤ cr.toInt ∧ cr.toInt ≤ 68719476736 → (∀ q ∈ locs, n0 q.base) → lv_has ls 7 [(6, .int (nI i)), (4, .long cr), (0, .ref o), (1, .ref t), (2, .ref a), (3, .ref b)] → W p l e { frames := 1, cells := 0, slots := 0, locals := 24 } s m [.ref o, .ref t, .ref a, .ref b].toArray below meth c H locs 0 0 (MQ below (QcP (QV (fun H H' => KJ g (fun q => q = t) H H' ∧ ∃ f', AJ g H' t 14 f' ∧ RV f' (if x + y < Q then x + y else x + y - Q)))) [.ref o, .ref t, .ref a, .ref b].toArray s 0 0 (fun q => n0 q)) (F0 m 6 ls []) := by
    intro k
    induction k with
    | zero =>
      intro  i   H   locs   ls   cr   ft hi hk hft hra hrb hdt hV hcb hF hl
      obtain rfl : i = 14 := by omega
      refine lv_iload hx hb d_Field_add_6 (lv_at hl 0 rfl) ?_
      refine lv_bipush (v := nI 14) hx hb d_Field_add_8 (by decide) ?_
      refine lv_icmp_ge (tgt := 50) hx hb d_Field_add_10 (by decide) (fun _ => ?_) (fun h9 => absurd (by decide) h9)
      refine lv_aload_n hx hb d_Field_add_50 rfl (lv_at hl 2 rfl) ?_
      refine lv_aload_n hx hb d_Field_add_51 rfl (lv_at hl 3 rfl) ?_
      rw [VL_pls hfa.1 hfb.1, hfa.2, hfb.2] at hV
      have hq14 : 2 * Q < 268435456 ^ 14 := hQ2
      have hc := carry0 (pw_pos 14) (VL_range hdt) ⟨by omega, by omega⟩ hV
      refine q_cV (rest := []) E (V_Field_reduce l g n0 o t F mi ft fq hdt hfq.1 (by rw [hc.2, hfq.2]; omega) htm) w_161 w_4 w_158 w_160 (bw_s 1 rfl) hd_Field_reduce rfl ⟨by decide, by decide⟩ (OB.recv E.2.2.2.2.2 (by rfl) ((hk.fd hK hfd).1)) (⟨hk.fd hK hfd, hnt, hft, hk.ajo htm hM⟩) hF hl.1 rfl (Nat.le_of_ble_eq_true rfl) d_Field_add_52 ⟨by decide, by decide⟩ (qv (fun H1 locs hq hF => ?_))
      obtain ⟨hq, f9, hf9, hv9⟩ := hq
      rw [hc.2, hfq.2] at hv9
      exact q_vret E hr hlk (⟨rfl, hk.tr hq, f9, hf9, hv9⟩) hF d_Field_add_55
    | succ k ih =>
      intro  i   H   locs   ls   cr   ft hi hk hft hra hrb hdt hV hcb hF hl
      have hi14 : i < 14 := by omega
      refine lv_iload hx hb d_Field_add_6 (lv_at hl 0 rfl) ?_
      refine lv_bipush (v := nI 14) hx hb d_Field_add_8 (by decide) ?_
      refine lv_icmp_ge (tgt := 50) hx hb d_Field_add_10 (by decide) (fun h9 => absurd h9 (nI_ge hi14 (by decide))) (fun _ => ?_)
      refine lv_lload hx hb d_Field_add_13 (lv_at hl 1 rfl) ?_
      refine lv_aload_n hx hb d_Field_add_15 rfl (lv_at hl 4 rfl) ?_
      refine lv_iload hx hb d_Field_add_16 (lv_at hl 0 rfl) ?_
      obtain ⟨rd3, hrd3, erd3⟩ := id (hra)
      refine q_lald (N := 14) (f := rd3) E hrd3 i rfl hi14 (by decide) d_Field_add_18 ?_
      refine lv_topl (fun t9 e9 => ?_)
      obtain rfl : t9 = fa i := e9.trans (erd3 i (Nat.le_refl _) hi14)
      refine lv_aload_n hx hb d_Field_add_19 rfl (lv_at hl 5 rfl) ?_
      refine lv_iload hx hb d_Field_add_20 (lv_at hl 0 rfl) ?_
      obtain ⟨rd4, hrd4, erd4⟩ := id (hrb)
      refine q_lald (N := 14) (f := rd4) E hrd4 i rfl hi14 (by decide) d_Field_add_22 ?_
      refine lv_topl (fun t9 e9 => ?_)
      obtain rfl : t9 = fb i := e9.trans (erd4 i (Nat.le_refl _) hi14)
      refine lv_ladd hx hb d_Field_add_23 ?_
      refine lv_ladd hx hb d_Field_add_24 ?_
      have hst := carry_step (f := fun k => fa k + fb k) (f' := ft) hcb (pls_bd (hfa.1 i hi14) (hfb.1 i hi14)) hV
      refine lv_lstore (lv' := [(4, .long (cr + ((fa i) + (fb i)))), (6, .int (nI i)), (0, .ref o), (1, .ref t), (2, .ref a), (3, .ref b)]) hx hb d_Field_add_25 hl (by decide) rfl (fun ls hl => ?_)
      refine lv_aload_n hx hb d_Field_add_27 rfl (lv_at hl 3 rfl) ?_
      refine lv_iload hx hb d_Field_add_28 (lv_at hl 1 rfl) ?_
      refine lv_lload hx hb d_Field_add_30 (lv_at hl 0 rfl) ?_
      refine lv_ldc2 (v := 268435455) hx hb E.2.2.2.1 (E.2.2.2.2.1 _ w_143) d_Field_add_32 ?_
      refine lv_land hx hb d_Field_add_35 ?_
      refine q_last E hft hnt hF i rfl hi14 (by decide) d_Field_add_36 (fun H1 locs hq hft2 hF => ?_)
      have hk := hk.tr hq
      refine lv_lload hx hb d_Field_add_37 (lv_at hl 0 rfl) ?_
      refine lv_bipush (v := nI 28) hx hb d_Field_add_39 (by decide) ?_
      refine lv_lshr (v := (cr + ((fa i) + (fb i))) >>> ((nI 28).toInt64 &&& 63)) hx hb d_Field_add_41 rfl ?_
      refine lv_lstore (lv' := [(4, .long ((cr + ((fa i) + (fb i))) >>> ((nI 28).toInt64 &&& 63))), (6, .int (nI i)), (0, .ref o), (1, .ref t), (2, .ref a), (3, .ref b)]) hx hb d_Field_add_42 hl (by decide) rfl (fun ls hl => ?_)
      refine lv_iinc (k := 1) (v := nI (i + 1)) (lv' := [(6, .int (nI (i + 1))), (4, .long ((cr + ((fa i) + (fb i))) >>> ((nI 28).toInt64 &&& 63))), (0, .ref o), (1, .ref t), (2, .ref a), (3, .ref b)]) hx hb d_Field_add_44 hl rfl (i_inc i) (by decide) rfl (fun ls hl => ?_)
      refine lv_goto (tgt := 6) hx hb d_Field_add_47 (by decide) ?_
      have hl : lv_has ls 7 [(6, .int (nI (i + 1))), (4, .long ((cr + ((fa i) + (fb i))) >>> ((nI 28).toInt64 &&& 63))), (0, .ref o), (1, .ref t), (2, .ref a), (3, .ref b)] := lv_sub hl [0, 1, 2, 3, 4, 5] rfl
      exact ih (i + 1) _ _ ls _ _ (by omega) hk hft2 (RD.st hra hq hft hft2) (RD.st hrb hq hft hft2) (upd_dg hdt hst.2.2.2) hst.1 ⟨hst.2.1, hst.2.2.1⟩ hF hl
  refine lv_lconst (v := 0) hx hb d_Field_add_0 (by decide) ?_
  refine lv_lstore (lv' := [(4, .long 0), (0, .ref o), (1, .ref t), (2, .ref a), (3, .ref b)]) hx hb d_Field_add_1 hl (by decide) rfl (fun ls hl => ?_)
  refine lv_iconst (v := nI 0) hx hb d_Field_add_3 (by decide) ?_
  refine lv_istore (lv' := [(6, .int (nI 0)), (4, .long 0), (0, .ref o), (1, .ref t), (2, .ref a), (3, .ref b)]) hx hb d_Field_add_4 hl (by decide) rfl (fun ls hl => ?_)
  have hl : lv_has ls 7 [(6, .int (nI 0)), (4, .long 0), (0, .ref o), (1, .ref t), (2, .ref a), (3, .ref b)] := lv_sub hl [0, 1, 2, 3, 4, 5] rfl
  exact loop 14 0 _ _ ls 0 ft0 rfl KJ.rf hft0 ⟨_, hA, fun _ _ _ => rfl⟩ ⟨_, hB, fun _ _ _ => rfl⟩ (fun k hk => absurd hk (Nat.not_lt_zero _)) rfl ⟨by decide, by decide⟩ hF hl
set_option maxHeartbeats 4000000 in
set_option maxRecDepth 100000 in
theorem V_Field_subtract (l : Launch) (g : WG) (n0 : Nat → Prop) (o t a b : Nat) (F : Nat → Nat) (mi : Int64) (fa fb fq : Nat → Int64) (x y Q : Int) (hfa : RV fa x) (hfb : RV fb y) (hfq : RV fq Q) (hxQ : x < Q) (hyQ : y < Q) (htm : F 0 ≠ t) : Ctr l y_Field_subtract (.code y_Field_subtract prog_3_method_5_code 7 none) 0 0 0 0 n0 g [.ref o, .ref t, .ref a, .ref b] (fun H => FD g n0 H o F mi ∧ (n0 t ∧ ∃ ft, AJ g H t 14 ft) ∧ AJ g H a 14 fa ∧ AJ g H b 14 fb ∧ AJ g H (F 0) 14 fq) (QV (fun H H' => KJ g (fun q => q = t) H H' ∧ ∃ f', AJ g H' t 14 f' ∧ RV f' (if x < y then x - y + Q else x - y))) := by
  refine ctr_mk l (lv0 := [(0, .ref o), (1, .ref t), (2, .ref a), (3, .ref b)]) (by decide) (Nat.le_of_ble_eq_true rfl) rfl ?_
  intro p e s m below meth c ls E hr hlk hnm hl hP
  have hx := E.1
  have hb := E.2.1
  have hK := E.2.2.2.2.2
  have hF : ∀ q ∈ ([] : List Loc), n0 q.base := fun q hq => absurd hq List.not_mem_nil
  obtain ⟨hfd, ⟨hnt, ft0, hft0⟩, hA, hB, hM⟩ := hP
  have ra := VL_range hfa.1
  have rb := VL_range hfb.1
  have rq := VL_range hfq.1
  rw [hfa.2] at ra
  rw [hfb.2] at rb
  rw [hfq.2] at rq
  have loop2 : ∀ (k : Nat) (i : Nat) (f1 : Nat → Int64) (H : Heap) (locs : List Loc) (ls : Array Slot) (cr : Int64) (ft : Nat → Int64), i + k = 14 → x < y → (∀ k, k < 14 → dg (f1 k)) → VL f1 14 = x - y + 268435456 ^ 14 → KJ g (fun q => q = t) s.heap H → AJ g H t 14 ft → RD g H t f1 i → RD g H (F 0) fq i → (∀ k, k < i → dg (ft k)) → VL ft i + cr.toInt * 268435456 ^ i = VL (fun k => f1 k + fq k) i → -68719476736 ≤ cr.toInt ∧ cr.toInt ≤ 68719476736 → (∀ q ∈ locs, n0 q.base) → lv_has ls 7 [(6, .int (nI i)), (4, .long cr), (0, .ref o), (1, .ref t), (2, .ref a), (3, .ref b)] → W p l e { frames := 0, cells := 0, slots := 0, locals := 0 } s m [.ref o, .ref t, .ref a, .ref b].toArray below meth c H locs 0 0 (MQ below (QcP (QV (fun H H' => KJ g (fun q => q = t) H H' ∧ ∃ f', AJ g H' t 14 f' ∧ RV f' (if x < y then x - y + Q else x - y)))) [.ref o, .ref t, .ref a, .ref b].toArray s 0 0 (fun q => n0 q)) (F0 m 64 ls []) := by
    intro k
    induction k with
    | zero =>
      intro  i   f1   H   locs   ls   cr   ft hi hlt hd1 hv1 hk hft hra hrb hdt hV hcb hF hl
      obtain rfl : i = 14 := by omega
      refine lv_iload hx hb d_Field_subtract_64 (lv_at hl 0 rfl) ?_
      refine lv_bipush (v := nI 14) hx hb d_Field_subtract_66 (by decide) ?_
      refine lv_icmp_ge (tgt := 111) hx hb d_Field_subtract_68 (by decide) (fun _ => ?_) (fun h9 => absurd (by decide) h9)
      rw [VL_pls hd1 hfq.1, hv1, hfq.2] at hV
      have hV2 : VL ft 14 + (cr.toInt - 1) * 268435456 ^ 14 = x - y + Q := by rw [Int.sub_mul]; omega
      have hc := carry0 (pw_pos 14) (VL_range hdt) ⟨by omega, by omega⟩ hV2
      exact q_vret E hr hlk (⟨rfl, hk, _, hft, hdt, by rw [if_pos hlt]; exact hc.2⟩) hF d_Field_subtract_111
    | succ k ih =>
      intro  i   f1   H   locs   ls   cr   ft hi hlt hd1 hv1 hk hft hra hrb hdt hV hcb hF hl
      have hi14 : i < 14 := by omega
      refine lv_iload hx hb d_Field_subtract_64 (lv_at hl 0 rfl) ?_
      refine lv_bipush (v := nI 14) hx hb d_Field_subtract_66 (by decide) ?_
      refine lv_icmp_ge (tgt := 111) hx hb d_Field_subtract_68 (by decide) (fun h9 => absurd h9 (nI_ge hi14 (by decide))) (fun _ => ?_)
      refine lv_lload hx hb d_Field_subtract_71 (lv_at hl 1 rfl) ?_
      refine lv_aload_n hx hb d_Field_subtract_73 rfl (lv_at hl 3 rfl) ?_
      refine lv_iload hx hb d_Field_subtract_74 (lv_at hl 0 rfl) ?_
      obtain ⟨rd5, hrd5, erd5⟩ := id (hra)
      refine q_lald (N := 14) (f := rd5) E hrd5 i rfl hi14 (by decide) d_Field_subtract_76 ?_
      refine lv_topl (fun t9 e9 => ?_)
      obtain rfl : t9 = f1 i := e9.trans (erd5 i (Nat.le_refl _) hi14)
      refine lv_aload_n hx hb d_Field_subtract_77 rfl (lv_at hl 2 rfl) ?_
      refine q_get (C := "KateDesk$Field") (T := T_Field) (N := 7) (ci := 1) E ((hk.fd hK hfd).1) in_Field rfl 0 (by decide) w_170 rfl rfl d_Field_subtract_78 ?_
      refine lv_iload hx hb d_Field_subtract_81 (lv_at hl 0 rfl) ?_
      obtain ⟨rd6, hrd6, erd6⟩ := id (hrb)
      refine q_lald (N := 14) (f := rd6) E hrd6 i rfl hi14 (by decide) d_Field_subtract_83 ?_
      refine lv_topl (fun t9 e9 => ?_)
      obtain rfl : t9 = fq i := e9.trans (erd6 i (Nat.le_refl _) hi14)
      refine lv_ladd hx hb d_Field_subtract_84 ?_
      refine lv_ladd hx hb d_Field_subtract_85 ?_
      have hst := carry_step (f := fun k => f1 k + fq k) (f' := ft) hcb (pls_bd (hd1 i hi14) (hfq.1 i hi14)) hV
      refine lv_lstore (lv' := [(4, .long (cr + ((f1 i) + (fq i)))), (6, .int (nI i)), (0, .ref o), (1, .ref t), (2, .ref a), (3, .ref b)]) hx hb d_Field_subtract_86 hl (by decide) rfl (fun ls hl => ?_)
      refine lv_aload_n hx hb d_Field_subtract_88 rfl (lv_at hl 3 rfl) ?_
      refine lv_iload hx hb d_Field_subtract_89 (lv_at hl 1 rfl) ?_
      refine lv_lload hx hb d_Field_subtract_91 (lv_at hl 0 rfl) ?_
      refine lv_ldc2 (v := 268435455) hx hb E.2.2.2.1 (E.2.2.2.2.1 _ w_143) d_Field_subtract_93 ?_
      refine lv_land hx hb d_Field_subtract_96 ?_
      refine q_last E hft hnt hF i rfl hi14 (by decide) d_Field_subtract_97 (fun H1 locs hq hft2 hF => ?_)
      have hk := hk.tr hq
      refine lv_lload hx hb d_Field_subtract_98 (lv_at hl 0 rfl) ?_
      refine lv_bipush (v := nI 28) hx hb d_Field_subtract_100 (by decide) ?_
      refine lv_lshr (v := (cr + ((f1 i) + (fq i))) >>> ((nI 28).toInt64 &&& 63)) hx hb d_Field_subtract_102 rfl ?_
      refine lv_lstore (lv' := [(4, .long ((cr + ((f1 i) + (fq i))) >>> ((nI 28).toInt64 &&& 63))), (6, .int (nI i)), (0, .ref o), (1, .ref t), (2, .ref a), (3, .ref b)]) hx hb d_Field_subtract_103 hl (by decide) rfl (fun ls hl => ?_)
      refine lv_iinc (k := 1) (v := nI (i + 1)) (lv' := [(6, .int (nI (i + 1))), (4, .long ((cr + ((f1 i) + (fq i))) >>> ((nI 28).toInt64 &&& 63))), (0, .ref o), (1, .ref t), (2, .ref a), (3, .ref b)]) hx hb d_Field_subtract_105 hl rfl (i_inc i) (by decide) rfl (fun ls hl => ?_)
      refine lv_goto (tgt := 64) hx hb d_Field_subtract_108 (by decide) ?_
      have hl : lv_has ls 7 [(6, .int (nI (i + 1))), (4, .long ((cr + ((f1 i) + (fq i))) >>> ((nI 28).toInt64 &&& 63))), (0, .ref o), (1, .ref t), (2, .ref a), (3, .ref b)] := lv_sub hl [0, 1, 2, 3, 4, 5] rfl
      exact ih (i + 1) _ _ _ ls _ _ (by omega) hlt hd1 hv1 hk hft2 (RD.st hra hq hft hft2) (RD.st hrb hq hft hft2) (upd_dg hdt hst.2.2.2) hst.1 ⟨hst.2.1, hst.2.2.1⟩ hF hl
  have loop : ∀ (k : Nat) (i : Nat) (H : Heap) (locs : List Loc) (ls : Array Slot) (cr : Int64) (ft : Nat → Int64), i + k = 14 → KJ g (fun q => q = t) s.heap H → AJ g H t 14 ft → RD g H a fa i → RD g H b fb i → (∀ k, k < i → dg (ft k)) → VL ft i + cr.toInt * 268435456 ^ i = VL (fun k => fa k - fb k) i → -68719476736 ≤ cr.toInt ∧ cr.toInt ≤ 68719476736 → (∀ q ∈ locs, n0 q.base) → lv_has ls 7 [(6, .int (nI i)), (4, .long cr), (0, .ref o), (1, .ref t), (2, .ref a), (3, .ref b)] → W p l e { frames := 0, cells := 0, slots := 0, locals := 0 } s m [.ref o, .ref t, .ref a, .ref b].toArray below meth c H locs 0 0 (MQ below (QcP (QV (fun H H' => KJ g (fun q => q = t) H H' ∧ ∃ f', AJ g H' t 14 f' ∧ RV f' (if x < y then x - y + Q else x - y)))) [.ref o, .ref t, .ref a, .ref b].toArray s 0 0 (fun q => n0 q)) (F0 m 6 ls []) := by
    intro k
    induction k with
    | zero =>
      intro  i   H   locs   ls   cr   ft hi hk hft hra hrb hdt hV hcb hF hl
      obtain rfl : i = 14 := by omega
      refine lv_iload hx hb d_Field_subtract_6 (lv_at hl 0 rfl) ?_
      refine lv_bipush (v := nI 14) hx hb d_Field_subtract_8 (by decide) ?_
      refine lv_icmp_ge (tgt := 50) hx hb d_Field_subtract_10 (by decide) (fun _ => ?_) (fun h9 => absurd (by decide) h9)
      refine lv_lload hx hb d_Field_subtract_50 (lv_at hl 1 rfl) ?_
      refine lv_lconst (v := 0) hx hb d_Field_subtract_52 (by decide) ?_
      refine W.lcmp hx hb d_Field_subtract_53 ?_
      rw [VL_mns hfa.1 hfb.1, hfa.2, hfb.2] at hV
      have hc := carry_1 (pw_pos 14) (VL_range hdt) ⟨by omega, by omega⟩ hV
      refine lv_if_ne (tgt := 58) hx hb d_Field_subtract_54 (by decide) (fun hz => ?_) (fun hz => ?_)
      rotate_left
      · skip
        have hc := hc.resolve_right (fun h => absurd h.1 (by rw [i64_z (cmp_eq hz)]; decide))
        exact q_vret E hr hlk (⟨rfl, hk, _, hft, hdt, by rw [if_neg (by omega)]; exact hc.2.1⟩) hF d_Field_subtract_57
      have hc := hc.resolve_left (fun h => hz (lg_cmp_eq _ _ |>.mpr (i64_eq_of h.1)))
      refine lv_lconst (v := 0) hx hb d_Field_subtract_58 (by decide) ?_
      refine lv_lstore (lv' := [(4, .long 0), (6, .int (nI 14)), (0, .ref o), (1, .ref t), (2, .ref a), (3, .ref b)]) hx hb d_Field_subtract_59 hl (by decide) rfl (fun ls hl => ?_)
      refine lv_iconst (v := nI 0) hx hb d_Field_subtract_61 (by decide) ?_
      refine lv_istore (lv' := [(6, .int (nI 0)), (4, .long 0), (0, .ref o), (1, .ref t), (2, .ref a), (3, .ref b)]) hx hb d_Field_subtract_62 hl (by decide) rfl (fun ls hl => ?_)
      have hl : lv_has ls 7 [(6, .int (nI 0)), (4, .long 0), (0, .ref o), (1, .ref t), (2, .ref a), (3, .ref b)] := lv_sub hl [0, 1, 2, 3, 4, 5] rfl
      exact loop2 14 0 ft _ _ ls 0 ft rfl (by omega) hdt hc.2.1 hk hft ⟨_, hft, fun _ _ _ => rfl⟩ ⟨_, hk.ajo htm hM, fun _ _ _ => rfl⟩ (fun k hk => absurd hk (Nat.not_lt_zero _)) rfl ⟨by decide, by decide⟩ hF hl
    | succ k ih =>
      intro  i   H   locs   ls   cr   ft hi hk hft hra hrb hdt hV hcb hF hl
      have hi14 : i < 14 := by omega
      refine lv_iload hx hb d_Field_subtract_6 (lv_at hl 0 rfl) ?_
      refine lv_bipush (v := nI 14) hx hb d_Field_subtract_8 (by decide) ?_
      refine lv_icmp_ge (tgt := 50) hx hb d_Field_subtract_10 (by decide) (fun h9 => absurd h9 (nI_ge hi14 (by decide))) (fun _ => ?_)
      refine lv_lload hx hb d_Field_subtract_13 (lv_at hl 1 rfl) ?_
      refine lv_aload_n hx hb d_Field_subtract_15 rfl (lv_at hl 4 rfl) ?_
      refine lv_iload hx hb d_Field_subtract_16 (lv_at hl 0 rfl) ?_
      obtain ⟨rd7, hrd7, erd7⟩ := id (hra)
      refine q_lald (N := 14) (f := rd7) E hrd7 i rfl hi14 (by decide) d_Field_subtract_18 ?_
      refine lv_topl (fun t9 e9 => ?_)
      obtain rfl : t9 = fa i := e9.trans (erd7 i (Nat.le_refl _) hi14)
      refine lv_aload_n hx hb d_Field_subtract_19 rfl (lv_at hl 5 rfl) ?_
      refine lv_iload hx hb d_Field_subtract_20 (lv_at hl 0 rfl) ?_
      obtain ⟨rd8, hrd8, erd8⟩ := id (hrb)
      refine q_lald (N := 14) (f := rd8) E hrd8 i rfl hi14 (by decide) d_Field_subtract_22 ?_
      refine lv_topl (fun t9 e9 => ?_)
      obtain rfl : t9 = fb i := e9.trans (erd8 i (Nat.le_refl _) hi14)
      refine lv_lsub hx hb d_Field_subtract_23 ?_
      refine lv_ladd hx hb d_Field_subtract_24 ?_
      have hst := carry_step (f := fun k => fa k - fb k) (f' := ft) hcb (mns_bd (hfa.1 i hi14) (hfb.1 i hi14)) hV
      refine lv_lstore (lv' := [(4, .long (cr + ((fa i) - (fb i)))), (6, .int (nI i)), (0, .ref o), (1, .ref t), (2, .ref a), (3, .ref b)]) hx hb d_Field_subtract_25 hl (by decide) rfl (fun ls hl => ?_)
      refine lv_aload_n hx hb d_Field_subtract_27 rfl (lv_at hl 3 rfl) ?_
      refine lv_iload hx hb d_Field_subtract_28 (lv_at hl 1 rfl) ?_
      refine lv_lload hx hb d_Field_subtract_30 (lv_at hl 0 rfl) ?_
      refine lv_ldc2 (v := 268435455) hx hb E.2.2.2.1 (E.2.2.2.2.1 _ w_143) d_Field_subtract_32 ?_
      refine lv_land hx hb d_Field_subtract_35 ?_
      refine q_last E hft hnt hF i rfl hi14 (by decide) d_Field_subtract_36 (fun H1 locs hq hft2 hF => ?_)
      have hk := hk.tr hq
      refine lv_lload hx hb d_Field_subtract_37 (lv_at hl 0 rfl) ?_
      refine lv_bipush (v := nI 28) hx hb d_Field_subtract_39 (by decide) ?_
      refine lv_lshr (v := (cr + ((fa i) - (fb i))) >>> ((nI 28).toInt64 &&& 63)) hx hb d_Field_subtract_41 rfl ?_
      refine lv_lstore (lv' := [(4, .long ((cr + ((fa i) - (fb i))) >>> ((nI 28).toInt64 &&& 63))), (6, .int (nI i)), (0, .ref o), (1, .ref t), (2, .ref a), (3, .ref b)]) hx hb d_Field_subtract_42 hl (by decide) rfl (fun ls hl => ?_)
      refine lv_iinc (k := 1) (v := nI (i + 1)) (lv' := [(6, .int (nI (i + 1))), (4, .long ((cr + ((fa i) - (fb i))) >>> ((nI 28).toInt64 &&& 63))), (0, .ref o), (1, .ref t), (2, .ref a), (3, .ref b)]) hx hb d_Field_subtract_44 hl rfl (i_inc i) (by decide) rfl (fun ls hl => ?_)
      refine lv_goto (tgt := 6) hx hb d_Field_subtract_47 (by decide) ?_
      have hl : lv_has ls 7 [(6, .int (nI (i + 1))), (4, .long ((cr + ((fa i) - (fb i))) >>> ((nI 28).toInt64 &&& 63))), (0, .ref o), (1, .ref t), (2, .ref a), (3, .ref b)] := lv_sub hl [0, 1, 2, 3, 4, 5] rfl
      exact ih (i + 1) _ _ ls _ _ (by omega) hk hft2 (RD.st hra hq hft hft2) (RD.st hrb hq hft hft2) (upd_dg hdt hst.2.2.2) hst.1 ⟨hst.2.1, hst.2.2.1⟩ hF hl
  refine lv_lconst (v := 0) hx hb d_Field_subtract_0 (by decide) ?_
  refine lv_lstore (lv' := [(4, .long 0), (0, .ref o), (1, .ref t), (2, .ref a), (3, .ref b)]) hx hb d_Field_subtract_1 hl (by decide) rfl (fun ls hl => ?_)
  refine lv_iconst (v := nI 0) hx hb d_Field_subtract_3 (by decide) ?_
  refine lv_istore (lv' := [(6, .int (nI 0)), (4, .long 0), (0, .ref o), (1, .ref t), (2, .ref a), (3, .ref b)]) hx hb d_Field_subtract_4 hl (by decide) rfl (fun ls hl => ?_)
  have hl : lv_has ls 7 [(6, .int (nI 0)), (4, .long 0), (0, .ref o), (1, .ref t), (2, .ref a), (3, .ref b)] := lv_sub hl [0, 1, 2, 3, 4, 5] rfl
  exact loop 14 0 _ _ ls 0 ft0 rfl KJ.rf hft0 ⟨_, hA, fun _ _ _ => rfl⟩ ⟨_, hB, fun _ _ _ => rfl⟩ (fun k hk => absurd hk (Nat.not_lt_zero _)) rfl ⟨by decide, by decide⟩ hF hl
