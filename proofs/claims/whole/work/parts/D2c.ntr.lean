theorem NV.um {g : WG} {n0 : Nat → Prop} {H : Heap} {mo : Nat} {th pw td wr : Int32} {w n i s : Nat} {fd1 : Nat → Int64} {y : Int64} {x : Int} (h : NV fd1 s x) (_ : MS g n0 H mo th pw td wr w n (vp_updL fd1 i y)) (hi : i < 14 * s ∨ 14 * s + 14 ≤ i) : NV (vp_updL fd1 i y) s x := h.fr (fun k hk => pk_uLn (by omega))
/-- the root that transform takes -/
def trW (k : Nat) (bk : Int32) : Int := if bk = 0 then 7 ^ eU k % RI else (7 ^ eU k % RI) ^ (RN - 2) % RI
theorem trW_r (k : Nat) (bk : Int32) : trW k bk < RI := by
  unfold trW
  split <;> exact (rm_r _).2
/-- value i of transform -/
def trV (B : Nat → Int) (a n : Nat) (W : Int) (i : Nat) : Int := hvS B a (W ^ i % RI) n 0
def trX (B : Nat → Int) (a n k : Nat) (bk : Int32) (i : Nat) : Int := if bk = 0 then trV B a n (trW k bk) i else (trV B a n (trW k bk) i * (((n : Nat) : Int) ^ (RN - 2) % RI)) % RI
def trB (B : Nat → Int) (a n k : Nat) (bk : Int32) (i j : Nat) : Int := if a ≤ j ∧ j < a + i then trX B a n k bk (j - a) else B j
theorem trV_r {B : Nat → Int} {a n : Nat} {W : Int} {i : Nat} : trV B a n W i < RI := hv_r _ _ RI_pos
theorem trX_r {B : Nat → Int} {a n k : Nat} {bk : Int32} {i : Nat} : trX B a n k bk i < RI := by
  unfold trX
  split
  · exact trV_r
  · exact (rm_r _).2
theorem tr_nx {B : Nat → Int} {a n k i : Nat} {bk : Int32} (j : Nat) : updI (trB B a n k bk i) (a + i) (trX B a n k bk i) j = trB B a n k bk (i + 1) j := by
  unfold updI trB
  by_cases e : j = a + i
  · subst e
    rw [if_pos rfl, if_pos (by omega), Nat.add_sub_cancel_left]
  · rw [if_neg e]
    by_cases c : a ≤ j ∧ j < a + i
    · rw [if_pos c, if_pos (by omega)]
    · rw [if_neg c, if_neg (by omega)]
theorem w0_1 (W : Int) : W ^ 0 % RI = 1 := by
  rw [Int.pow_zero]
  decide +kernel
set_option maxHeartbeats 4000000 in
set_option maxRecDepth 100000 in
theorem Y_Model_transform (l : Launch) (g : WG) (n0 : Nat → Prop) (mo : Nat) (th : Int32) (pn tn wn : Nat) (B : Nat → Int) (a : Int32) (kv : Int32) (bk : Int32) : Ctr l y_Model_transform (.code y_Model_transform prog_11_method_59_code 7 none) 5 125 0 0 n0 g [.ref mo, .int a, .int kv, .int bk] (fun H => MVP g n0 H mo th pn tn wn B) (QV (fun H H' => ((okC kv (nI 0) (nI 4) ∧ okS a (nI 1 <<< ((kv &&& nI 7) &&& 31))) ∧ (∃ k1 k2 NN, a = nI k1 ∧ kv = nI k2 ∧ k2 ≤ 4 ∧ NN = 2 ^ k2 ∧ k1 + NN ≤ 32 ∧ MVP g n0 H' mo 0 pn tn wn (trB B k1 NN k2 bk NN))) ∨ (¬ (okC kv (nI 0) (nI 4) ∧ okS a (nI 1 <<< ((kv &&& nI 7) &&& 31))) ∧ MVP g n0 H' mo 1 pn tn wn B))) := by
  refine ctr_mk l (lv0 := [(0, .ref mo), (1, .int a), (2, .int kv), (3, .int bk)]) (by decide) (Nat.le_of_ble_eq_true rfl) rfl ?_
  intro p e s m below meth c ls E hr hlk hnm hl hP
  have hx := E.1
  have hb := E.2.1
  have hK := E.2.2.2.2.2
  have hF : ∀ q ∈ ([] : List Loc), n0 q.base := fun q hq => absurd hq List.not_mem_nil
  obtain ⟨⟨w9, n9, fd, hw9, hm, hB9⟩, ⟨fa, hab, hAT, -⟩, hho, -, -, hbd, hmn, -, -, hn8⟩ := id hP
  have hB := hB9.lo
  have hfr : FRM (MR mo) s.heap s.heap := FRM.rf
  have bad : ∀ (locs : List Loc) (ls : Array Slot), ¬ (okC kv (nI 0) (nI 4) ∧ okS a (nI 1 <<< ((kv &&& nI 7) &&& 31))) → (∀ q ∈ locs, n0 q.base) → lv_has ls 7 [(0, .ref mo), (1, .int a), (2, .int kv), (3, .int bk), (4, .int (nI 1 <<< ((kv &&& nI 7) &&& 31)))] → W p l e { frames := 5, cells := 0, slots := 0, locals := 125 } s m [.ref mo, .int a, .int kv, .int bk].toArray below meth c s.heap locs 0 0 (MQ below (QcP (QV (fun H H' => ((okC kv (nI 0) (nI 4) ∧ okS a (nI 1 <<< ((kv &&& nI 7) &&& 31))) ∧ (∃ k1 k2 NN, a = nI k1 ∧ kv = nI k2 ∧ k2 ≤ 4 ∧ NN = 2 ^ k2 ∧ k1 + NN ≤ 32 ∧ MVP g n0 H' mo 0 pn tn wn (trB B k1 NN k2 bk NN))) ∨ (¬ (okC kv (nI 0) (nI 4) ∧ okS a (nI 1 <<< ((kv &&& nI 7) &&& 31))) ∧ MVP g n0 H' mo 1 pn tn wn B)))) [.ref mo, .int a, .int kv, .int bk].toArray s 0 0 (fun q => n0 q)) (F0 m 35 ls [.int (nI 1), .ref mo]) := by
    intro  locs   ls hno hF hl
    refine lv_iconst (v := nI 1) hx hb d_Model_transform_35 (by decide) ?_
    refine q_cV (rest := []) E (c_Model_fails l g n0 mo th (nI pn) (nI tn) (nI wn) w9 n9 hw9 (nI 1) (nI 1) fd hmn (Or.inl rfl)) w_1056 w_15 w_1053 w_1055 (bw_s 24 rfl) hd_Model_fails rfl ⟨by decide, by decide⟩ (OB.recv E.2.2.2.2.2 (by rfl) hm.1) hm hF hl.1 rfl (Nat.le_of_ble_eq_true rfl) d_Model_transform_36 ⟨by decide, by decide⟩ (qi (fun rf H1 locs hq hF => ?_))
    obtain ⟨hrf, hq, hm⟩ := hq
    subst hrf
    have hfr := hfr.tr hq
    rw [if_neg (by decide)] at hm
    refine lv_if_eq (tgt := 43) hx hb d_Model_transform_39 (by decide) (fun h9 => absurd h9 (by decide)) (fun _ => ?_)
    exact q_vret E hr hlk (⟨rfl, Or.inr ⟨hno, hP.keep hfr hw9 hm hB9⟩⟩) hF d_Model_transform_42
  have good : ∀ (locs : List Loc) (ls : Array Slot), okC kv (nI 0) (nI 4) ∧ okS a (nI 1 <<< ((kv &&& nI 7) &&& 31)) → (∀ q ∈ locs, n0 q.base) → lv_has ls 7 [(0, .ref mo), (1, .int a), (2, .int kv), (3, .int bk), (4, .int (nI 1 <<< ((kv &&& nI 7) &&& 31)))] → W p l e { frames := 5, cells := 0, slots := 0, locals := 125 } s m [.ref mo, .int a, .int kv, .int bk].toArray below meth c s.heap locs 0 0 (MQ below (QcP (QV (fun H H' => ((okC kv (nI 0) (nI 4) ∧ okS a (nI 1 <<< ((kv &&& nI 7) &&& 31))) ∧ (∃ k1 k2 NN, a = nI k1 ∧ kv = nI k2 ∧ k2 ≤ 4 ∧ NN = 2 ^ k2 ∧ k1 + NN ≤ 32 ∧ MVP g n0 H' mo 0 pn tn wn (trB B k1 NN k2 bk NN))) ∨ (¬ (okC kv (nI 0) (nI 4) ∧ okS a (nI 1 <<< ((kv &&& nI 7) &&& 31))) ∧ MVP g n0 H' mo 1 pn tn wn B)))) [.ref mo, .int a, .int kv, .int bk].toArray s 0 0 (fun q => n0 q)) (F0 m 35 ls [.int (nI 0), .ref mo]) := by
    intro  locs   ls hok hF hl
    refine lv_iconst (v := nI 1) hx hb d_Model_transform_35 (by decide) ?_
    refine q_cV (rest := []) E (c_Model_fails l g n0 mo th (nI pn) (nI tn) (nI wn) w9 n9 hw9 (nI 0) (nI 1) fd hmn (Or.inr rfl)) w_1056 w_15 w_1053 w_1055 (bw_s 24 rfl) hd_Model_fails rfl ⟨by decide, by decide⟩ (OB.recv E.2.2.2.2.2 (by rfl) hm.1) hm hF hl.1 rfl (Nat.le_of_ble_eq_true rfl) d_Model_transform_36 ⟨by decide, by decide⟩ (qi (fun rf H1 locs hq hF => ?_))
    obtain ⟨hrf, hq, hm⟩ := hq
    subst hrf
    have hfr := hfr.tr hq
    rw [if_pos nI_0] at hm
    have hab := AJ.off hq (by unfold MR; omega) hab
    refine lv_if_eq (tgt := 43) hx hb d_Model_transform_39 (by decide) (fun _ => ?_) (fun h9 => absurd (by decide) h9)
    have hsc : ∀ j, j < 448 → fd j = fd j := fun _ _ => rfl
    have hsp : ∀ j, 448 ≤ j → j < 1666 → fd j = fd j := fun _ _ _ => rfl
    obtain ⟨k2, e_k2, h_k2, h2_k2⟩ := okC_nat (by decide) (by decide) hok.1
    rw [e_k2] at hl
    rw [tk2 h2_k2] at hl
    have hok2 := hok.2
    rw [e_k2, tk2 h2_k2] at hok2
    obtain ⟨hN1, hN16⟩ := tk3 h2_k2
    obtain ⟨NN, hNN⟩ : ∃ NN, NN = 2 ^ k2 := ⟨_, rfl⟩
    rw [← hNN] at hok2 hl hN1 hN16
    obtain ⟨k1, e_k1, h_k1⟩ := okS_nat (by omega) (by omega) hok2
    rw [e_k1] at hl
    have last : ∀ (k : Nat) (i : Nat) (H : Heap) (locs : List Loc) (ls : Array Slot) (fd1 fh : Nat → Int64), i + k = NN → MS g n0 H mo 0 (nI pn) (nI tn) (nI wn) 1 10 fd1 → AJ g H (mo + 8) 224 fh → (∀ k, k < 224 → dg (fh k)) → (∀ q, q < NN → VL (fun k => fh (14 * q + k)) 14 = trV B k1 NN (trW k2 bk) q) → FRM (fun q => MR mo q ∨ q = mo + 8) s.heap H → AJ g H (mo + 4) 420 fa → NV fd1 168 (((NN : Nat) : Int) ^ (RN - 2) % RI) → (∀ j, 448 ≤ j → j < 1666 → fd1 j = fd j) → (∀ k, k < 32 → NV fd1 k (trB B k1 NN k2 bk i k) ∧ trB B k1 NN k2 bk i k < RI) → (∀ q ∈ locs, n0 q.base) → lv_has ls 7 [(5, .int (nI i)), (0, .ref mo), (1, .int (nI k1)), (3, .int bk), (4, .int (nI NN))] → W p l e { frames := 5, cells := 0, slots := 0, locals := 125 } s m [.ref mo, .int a, .int kv, .int bk].toArray below meth c H locs 0 0 (MQ below (QcP (QV (fun H H' => ((okC kv (nI 0) (nI 4) ∧ okS a (nI 1 <<< ((kv &&& nI 7) &&& 31))) ∧ (∃ k1 k2 NN, a = nI k1 ∧ kv = nI k2 ∧ k2 ≤ 4 ∧ NN = 2 ^ k2 ∧ k1 + NN ≤ 32 ∧ MVP g n0 H' mo 0 pn tn wn (trB B k1 NN k2 bk NN))) ∨ (¬ (okC kv (nI 0) (nI 4) ∧ okS a (nI 1 <<< ((kv &&& nI 7) &&& 31))) ∧ MVP g n0 H' mo 1 pn tn wn B)))) [.ref mo, .int a, .int kv, .int bk].toArray s 0 0 (fun q => n0 q)) (F0 m 185 ls []) := by
      intro k
      induction k with
      | zero =>
        intro  i   H   locs   ls   fd1 fh hi hm hh hhd hV hfx hab n_168 hsp hB hF hl
        obtain rfl : NN = i := by omega
        refine lv_iload hx hb d_Model_transform_185 (lv_at hl 0 rfl) ?_
        refine lv_iload hx hb d_Model_transform_187 (lv_at hl 4 rfl) ?_
        refine lv_icmp_ge (tgt := 261) hx hb d_Model_transform_189 (by decide) (fun _ => ?_) (fun h9 => absurd (nI_le (Nat.le_refl _) (by omega)) h9)
        exact q_vret E hr hlk (⟨rfl, Or.inl ⟨hok, k1, k2, NN, e_k1, e_k2, h2_k2, hNN, by omega, hP.fin8 hfx ⟨_, hh, hhd⟩ hw1 hm (hB9.mk hB hsp (by intro k9 h9; first | rfl | (unfold updI; rw [if_neg (by omega)]; done) | (unfold updI opB; rw [if_neg (by omega), if_neg (by omega)]; done) | (unfold trB; rw [if_neg (by omega)]; done)))⟩⟩) hF d_Model_transform_261
      | succ k ih =>
        intro  i   H   locs   ls   fd1 fh hi hm hh hhd hV hfx hab n_168 hsp hB hF hl
        refine lv_iload hx hb d_Model_transform_185 (lv_at hl 0 rfl) ?_
        refine lv_iload hx hb d_Model_transform_187 (lv_at hl 4 rfl) ?_
        refine lv_icmp_ge (tgt := 261) hx hb d_Model_transform_189 (by decide) (fun h9 => absurd h9 (nI_ge (by omega) (by omega))) (fun _ => ?_)
        refine lv_iconst (v := nI 0) hx hb d_Model_transform_192 (by decide) ?_
        refine lv_istore (lv' := [(6, .int (nI 0)), (5, .int (nI i)), (0, .ref mo), (1, .int (nI k1)), (3, .int bk), (4, .int (nI NN))]) hx hb d_Model_transform_193 hl (by decide) rfl (fun ls hl => ?_)
        have hl : lv_has ls 7 [(6, .int (nI 0)), (5, .int (nI i)), (0, .ref mo), (1, .int (nI k1)), (3, .int bk), (4, .int (nI NN))] := lv_sub hl [0, 1, 2, 3, 4, 5] rfl
        obtain ⟨fdA, eA⟩ : ∃ fdA, fdA = fd1 := ⟨_, rfl⟩
        rw [← eA] at hB hsp
        have inner : ∀ (k2x : Nat) (j : Nat) (H : Heap) (locs : List Loc) (ls : Array Slot) (fd1 : Nat → Int64), j + k2x = 14 → MS g n0 H mo 0 (nI pn) (nI tn) (nI wn) 1 10 fd1 → AJ g H (mo + 8) 224 fh → FRM (fun q => MR mo q ∨ q = mo + 8) s.heap H → AJ g H (mo + 4) 420 fa → NV fd1 168 (((NN : Nat) : Int) ^ (RN - 2) % RI) → (∀ q, (q < 14 * (k1 + i) ∨ 14 * (k1 + i) + 14 ≤ q) → fd1 q = fdA q) → (∀ k, k < j → fd1 (14 * (k1 + i) + k) = fh (14 * i + k)) → (∀ q ∈ locs, n0 q.base) → lv_has ls 7 [(6, .int (nI j)), (5, .int (nI i)), (0, .ref mo), (1, .int (nI k1)), (3, .int bk), (4, .int (nI NN))] → W p l e { frames := 5, cells := 0, slots := 0, locals := 125 } s m [.ref mo, .int a, .int kv, .int bk].toArray below meth c H locs 0 0 (MQ below (QcP (QV (fun H H' => ((okC kv (nI 0) (nI 4) ∧ okS a (nI 1 <<< ((kv &&& nI 7) &&& 31))) ∧ (∃ k1 k2 NN, a = nI k1 ∧ kv = nI k2 ∧ k2 ≤ 4 ∧ NN = 2 ^ k2 ∧ k1 + NN ≤ 32 ∧ MVP g n0 H' mo 0 pn tn wn (trB B k1 NN k2 bk NN))) ∨ (¬ (okC kv (nI 0) (nI 4) ∧ okS a (nI 1 <<< ((kv &&& nI 7) &&& 31))) ∧ MVP g n0 H' mo 1 pn tn wn B)))) [.ref mo, .int a, .int kv, .int bk].toArray s 0 0 (fun q => n0 q)) (F0 m 195 ls []) := by
          intro k2x
          induction k2x with
          | zero =>
            intro  j   H   locs   ls   fd1 hj hm hh hfx hab n_168 hout hcp hF hl
            have hsc : ∀ j, j < 448 → fd1 j = fd1 j := fun _ _ => rfl
            have hfr : FRM (MR mo) H H := FRM.rf
            obtain rfl : j = 14 := by omega
            refine lv_iload hx hb d_Model_transform_195 (lv_at hl 0 rfl) ?_
            refine lv_bipush (v := nI 14) hx hb d_Model_transform_197 (by decide) ?_
            refine lv_icmp_ge (tgt := 236) hx hb d_Model_transform_199 (by decide) (fun _ => ?_) (fun h9 => absurd (by decide) h9)
            refine lv_iload_n hx hb d_Model_transform_236 rfl (lv_at hl 4 rfl) ?_
            have hn : NV fd1 (k1 + i) (trV B k1 NN (trW k2 bk) i) := (VL_ext (fun k hk => hcp k hk)).trans (hV i (by omega))
            have hsp : ∀ j, 448 ≤ j → j < 1666 → fd1 j = fd j := fun j h8 h9 => (hout j (by omega)).trans (hsp j h8 h9)
            have hB := nb_set hB (fun j hj h9 => hout j h9) hn trV_r
            refine lv_if_eq (tgt := 255) hx hb d_Model_transform_237 (by decide) (fun hb9 => ?_) (fun hb9 => ?_)
            rotate_left
            · skip
              refine lv_aload_n hx hb d_Model_transform_240 rfl (lv_at hl 2 rfl) ?_
              refine lv_iload_n hx hb d_Model_transform_241 rfl (lv_at hl 3 rfl) ?_
              refine lv_iload hx hb d_Model_transform_242 (lv_at hl 1 rfl) ?_
              refine lv_iadd hx hb d_Model_transform_244 ?_
              refine lv_topi (fun t9 e9 => ?_)
              obtain rfl : t9 = nI (k1 + i) := e9.trans (nI_add _ _)
              refine lv_iload_n hx hb d_Model_transform_245 rfl (lv_at hl 3 rfl) ?_
              refine lv_iload hx hb d_Model_transform_246 (lv_at hl 1 rfl) ?_
              refine lv_iadd hx hb d_Model_transform_248 ?_
              refine lv_topi (fun t9 e9 => ?_)
              obtain rfl : t9 = nI (k1 + i) := e9.trans (nI_add _ _)
              refine lv_sipush (v := nI 168) hx hb d_Model_transform_249 (by decide) ?_
              refine q_cV (rest := []) E (N_Model_product l g n0 mo (k1 + i) (k1 + i) 168 0 (nI pn) (nI tn) (nI wn) fd1 (by omega) (by omega) (by omega) fa hAT ((updI (trB B k1 NN k2 bk i) (k1 + i) (trV B k1 NN (trW k2 bk) i)) (k1 + i)) (((NN : Nat) : Int) ^ (RN - 2) % RI) hm.2.2.2.2.2.1 ((hB (k1 + i) (by omega)).1.fr (fun k hk => hsc _ (by omega))) n_168 ((hB (k1 + i) (by omega)).2) ((rm_r _).2)) w_1113 w_15 w_1110 w_1112 (bw_s 32 rfl) hd_Model_product rfl ⟨by decide, by decide⟩ (OB.recv E.2.2.2.2.2 (by rfl) hm.1) (⟨hm, hab⟩) hF hl.1 rfl (Nat.le_of_ble_eq_true rfl) d_Model_transform_252 ⟨by decide, by decide⟩ (qv (fun H1 locs hq hF => ?_))
              obtain ⟨hq, fd_1, hm, ho, hn⟩ := hq
              have hab := hq.ajo (by omega) hab
              have hfr := hfr.tr (kjR hq)
              have n_168 : NV fd_1 168 (((NN : Nat) : Int) ^ (RN - 2) % RI) := n_168.fr (fun k hk => ho _ (by omega))
              have hsp : ∀ j, 448 ≤ j → j < 1666 → fd_1 j = fd j := fun j h8 h9 => (ho j (by omega)).trans (hsp j h8 h9)
              have hB := nb_set hB (fun j hj h9 => (ho j  h9).trans (hsc j hj)) hn (rm_r _).2
              have hsc : ∀ j, j < 448 → fd_1 j = fd_1 j := fun _ _ => rfl
              have hB : ∀ k, k < 32 → NV fd_1 k (trB B k1 NN k2 bk (i + 1) k) ∧ trB B k1 NN k2 bk (i + 1) k < RI := fun k hk => by
                have h9 := hB k hk
                rw [← tr_nx k]
                unfold updI at h9 ⊢
                by_cases e : k = k1 + i
                · rw [if_pos e] at h9 ⊢
                  unfold trX
                  rw [if_neg hb9]
                  rw [if_pos rfl] at h9
                  exact h9
                · rw [if_neg e] at h9 ⊢
                  rw [if_neg e] at h9
                  exact h9
              refine lv_iinc (k := 1) (v := nI (i + 1)) (lv' := [(5, .int (nI (i + 1))), (6, .int (nI 14)), (0, .ref mo), (1, .int (nI k1)), (3, .int bk), (4, .int (nI NN))]) hx hb d_Model_transform_255 hl rfl (i_inc i) (by decide) rfl (fun ls hl => ?_)
              refine lv_goto (tgt := 185) hx hb d_Model_transform_258 (by decide) ?_
              have hl : lv_has ls 7 [(5, .int (nI (i + 1))), (0, .ref mo), (1, .int (nI k1)), (3, .int bk), (4, .int (nI NN))] := lv_sub hl [0, 2, 3, 4, 5] rfl
              exact ih (i + 1) _ _ ls _ fh (by omega) hm (AJ.off hfr (by unfold MR; omega) hh) hhd hV (hfx.tr (hfr.mono (fun q h => Or.inl h))) hab n_168 hsp hB hF hl
            have hB : ∀ k, k < 32 → NV fd1 k (trB B k1 NN k2 bk (i + 1) k) ∧ trB B k1 NN k2 bk (i + 1) k < RI := fun k hk => by
              rw [← tr_nx k]
              unfold trX
              rw [if_pos hb9]
              exact hB k hk
            refine lv_iinc (k := 1) (v := nI (i + 1)) (lv' := [(5, .int (nI (i + 1))), (6, .int (nI 14)), (0, .ref mo), (1, .int (nI k1)), (3, .int bk), (4, .int (nI NN))]) hx hb d_Model_transform_255 hl rfl (i_inc i) (by decide) rfl (fun ls hl => ?_)
            refine lv_goto (tgt := 185) hx hb d_Model_transform_258 (by decide) ?_
            have hl : lv_has ls 7 [(5, .int (nI (i + 1))), (0, .ref mo), (1, .int (nI k1)), (3, .int bk), (4, .int (nI NN))] := lv_sub hl [0, 2, 3, 4, 5] rfl
            exact ih (i + 1) _ _ ls _ fh (by omega) hm (AJ.off hfr (by unfold MR; omega) hh) hhd hV (hfx.tr (hfr.mono (fun q h => Or.inl h))) hab n_168 hsp hB hF hl
          | succ k2x ih2 =>
            intro  j   H   locs   ls   fd1 hj hm hh hfx hab n_168 hout hcp hF hl
            have hfr : FRM (MR mo) H H := FRM.rf
            refine lv_iload hx hb d_Model_transform_195 (lv_at hl 0 rfl) ?_
            refine lv_bipush (v := nI 14) hx hb d_Model_transform_197 (by decide) ?_
            refine lv_icmp_ge (tgt := 236) hx hb d_Model_transform_199 (by decide) (fun h9 => absurd h9 (nI_ge (by omega) (by decide))) (fun _ => ?_)
            refine lv_aload_n hx hb d_Model_transform_202 rfl (lv_at hl 2 rfl) ?_
            refine q_get (C := "KateDeskModel") (T := T_Model) (N := 14) (ci := 8) E hm.1 in_Model rfl 1 (by decide) w_1002 rfl rfl d_Model_transform_203 ?_
            refine lv_bipush (v := nI 14) hx hb d_Model_transform_206 (by decide) ?_
            refine lv_iload_n hx hb d_Model_transform_208 rfl (lv_at hl 3 rfl) ?_
            refine lv_iload hx hb d_Model_transform_209 (lv_at hl 1 rfl) ?_
            refine lv_iadd hx hb d_Model_transform_211 ?_
            refine lv_topi (fun t9 e9 => ?_)
            obtain rfl : t9 = nI (k1 + i) := e9.trans (nI_add _ _)
            refine lv_imul hx hb d_Model_transform_212 ?_
            refine lv_topi (fun t9 e9 => ?_)
            obtain rfl : t9 = nI (14 * (k1 + i)) := e9.trans (pk_mul _ _)
            refine lv_iload hx hb d_Model_transform_213 (lv_at hl 0 rfl) ?_
            refine lv_iadd hx hb d_Model_transform_215 ?_
            refine lv_topi (fun t9 e9 => ?_)
            obtain rfl : t9 = nI ((14 * (k1 + i)) + j) := e9.trans (nI_add _ _)
            refine lv_aload_n hx hb d_Model_transform_216 rfl (lv_at hl 2 rfl) ?_
            refine q_get (C := "KateDeskModel") (T := T_Model) (N := 14) (ci := 8) E hm.1 in_Model rfl 13 (by decide) w_1014 rfl rfl d_Model_transform_217 ?_
            refine lv_bipush (v := nI 14) hx hb d_Model_transform_220 (by decide) ?_
            refine lv_iload hx hb d_Model_transform_222 (lv_at hl 1 rfl) ?_
            refine lv_imul hx hb d_Model_transform_224 ?_
            refine lv_topi (fun t9 e9 => ?_)
            obtain rfl : t9 = nI (14 * i) := e9.trans (pk_mul _ _)
            refine lv_iload hx hb d_Model_transform_225 (lv_at hl 0 rfl) ?_
            refine lv_iadd hx hb d_Model_transform_227 ?_
            refine lv_topi (fun t9 e9 => ?_)
            obtain rfl : t9 = nI ((14 * i) + j) := e9.trans (nI_add _ _)
            refine q_lald (N := 224) (f := fh) E hh (14 * i + j) rfl (by omega) (by decide) d_Model_transform_228 ?_
            have hdv : dg (fh (14 * i + j)) := hhd _ (by omega)
            refine q_last E hm.2.2.2.2.1 hm.2.2.2.2.2.2.1 hF (14 * (k1 + i) + j) rfl (by omega) (by decide) d_Model_transform_229 (fun H1 locs hq hf2 hF => ?_)
            have hm := hm.step hK (hq.mono (fun q h => Or.inl h)) hf2 ((hm.2.2.2.2.2.1).upd hdv)
            have hfr := hfr.tr (kjR1 hq)
            have n_168 : NV _ 168 (((NN : Nat) : Int) ^ (RN - 2) % RI) := n_168.um hm (by omega)
            refine lv_iinc (k := 0) (v := nI (j + 1)) (lv' := [(6, .int (nI (j + 1))), (5, .int (nI i)), (0, .ref mo), (1, .int (nI k1)), (3, .int bk), (4, .int (nI NN))]) hx hb d_Model_transform_230 hl rfl (i_inc j) (by decide) rfl (fun ls hl => ?_)
            refine lv_goto (tgt := 195) hx hb d_Model_transform_233 (by decide) ?_
            have hl : lv_has ls 7 [(6, .int (nI (j + 1))), (5, .int (nI i)), (0, .ref mo), (1, .int (nI k1)), (3, .int bk), (4, .int (nI NN))] := lv_sub hl [0, 1, 2, 3, 4, 5] rfl
            exact ih2 (j + 1) _ _ ls _ (by omega) hm (AJ.off hfr (by unfold MR; omega) hh) (hfx.tr (hfr.mono (fun q h => Or.inl h))) (AJ.off hfr (by unfold MR; omega) hab) n_168 (fun q hq9 => by rw [pk_uLn (by omega)]; exact hout q hq9) (fun k hk => by by_cases e : k = j; (subst e; rw [pk_uLs]); (rw [pk_uLn (by omega)]; exact hcp k (by omega))) hF hl
        exact inner 14 0 _ _ ls _ (by omega) hm hh hfx hab n_168 (fun _ _ => by rw [eA]) (fun k hk => absurd hk (Nat.not_lt_zero _)) hF hl
    have first : ∀ (k : Nat) (i : Nat) (H : Heap) (locs : List Loc) (ls : Array Slot) (fd1 fh : Nat → Int64), i + k = NN → MS g n0 H mo 0 (nI pn) (nI tn) (nI wn) 1 10 fd1 → AJ g H (mo + 8) 224 fh → (∀ k, k < 224 → dg (fh k)) → (∀ q, q < i → VL (fun k => fh (14 * q + k)) 14 = trV B k1 NN (trW k2 bk) q) → FRM (fun q => MR mo q ∨ q = mo + 8) s.heap H → AJ g H (mo + 4) 420 fa → (∀ j, j < 448 → fd1 j = fd j) → (∀ j, 448 ≤ j → j < 1666 → fd1 j = fd j) → NV fd1 166 (trW k2 bk) → NV fd1 169 ((trW k2 bk) ^ i % RI) → (∀ q ∈ locs, n0 q.base) → lv_has ls 7 [(5, .int (nI i)), (0, .ref mo), (1, .int (nI k1)), (3, .int bk), (4, .int (nI NN))] → W p l e { frames := 5, cells := 0, slots := 0, locals := 125 } s m [.ref mo, .int a, .int kv, .int bk].toArray below meth c H locs 0 0 (MQ below (QcP (QV (fun H H' => ((okC kv (nI 0) (nI 4) ∧ okS a (nI 1 <<< ((kv &&& nI 7) &&& 31))) ∧ (∃ k1 k2 NN, a = nI k1 ∧ kv = nI k2 ∧ k2 ≤ 4 ∧ NN = 2 ^ k2 ∧ k1 + NN ≤ 32 ∧ MVP g n0 H' mo 0 pn tn wn (trB B k1 NN k2 bk NN))) ∨ (¬ (okC kv (nI 0) (nI 4) ∧ okS a (nI 1 <<< ((kv &&& nI 7) &&& 31))) ∧ MVP g n0 H' mo 1 pn tn wn B)))) [.ref mo, .int a, .int kv, .int bk].toArray s 0 0 (fun q => n0 q)) (F0 m 85 ls []) := by
      intro k
      induction k with
      | zero =>
        intro  i   H   locs   ls   fd1 fh hi hm hh hhd hV hfx hab hs0 hsp n_166 n_169 hF hl
        have hsc : ∀ j, j < 448 → fd1 j = fd1 j := fun _ _ => rfl
        have hfr : FRM (MR mo) H H := FRM.rf
        obtain rfl : NN = i := by omega
        refine lv_iload hx hb d_Model_transform_85 (lv_at hl 0 rfl) ?_
        refine lv_iload hx hb d_Model_transform_87 (lv_at hl 4 rfl) ?_
        refine lv_icmp_ge (tgt := 162) hx hb d_Model_transform_89 (by decide) (fun _ => ?_) (fun h9 => absurd (nI_le (Nat.le_refl _) (by omega)) h9)
        have e9 : (nI NN).toInt64.toInt = ((NN : Nat) : Int) := by rw [i2l_toInt, nI_toInt (by omega)]
        have hBf : ∀ k, k < 32 → NV fd1 k (B k) ∧ B k < RI := fun k hk => ⟨(hB k hk).1.fr (fun j hj => hs0 _ (by omega)), (hB k hk).2⟩
        have hB := hBf
        refine lv_aload_n hx hb d_Model_transform_162 rfl (lv_at hl 1 rfl) ?_
        refine lv_sipush (v := nI 166) hx hb d_Model_transform_163 (by decide) ?_
        refine lv_iload hx hb d_Model_transform_166 (lv_at hl 4 rfl) ?_
        refine lv_i2l (v := (nI NN).toInt64) hx hb d_Model_transform_168 rfl ?_
        refine q_cV (rest := []) E (N_Model_small l g n0 mo 166 ((nI NN).toInt64) 0 (nI pn) (nI tn) (nI wn) 1 10 hw1 fd1 (by omega) (by rw [e9]; exact Int.natCast_nonneg _)) w_1084 w_15 w_1081 w_1083 (bw_s 28 rfl) hd_Model_small rfl ⟨by decide, by decide⟩ (OB.recv E.2.2.2.2.2 (by rfl) hm.1) hm hF hl.1 rfl (Nat.le_of_ble_eq_true rfl) d_Model_transform_169 ⟨by decide, by decide⟩ (qv (fun H1 locs hq hF => ?_))
        obtain ⟨hq, fd_2, hm, ho, hn⟩ := hq
        have hab := AJ.off hq (by unfold MR; omega) hab
        have hfr := hfr.tr hq
        rw [show ((nI NN).toInt64).toInt = ((NN : Nat) : Int) from e9] at hn
        have hsp : ∀ j, 448 ≤ j → j < 1666 → fd_2 j = fd j := fun j h8 h9 => (ho j (by omega)).trans (hsp j h8 h9)
        have hsc : ∀ j, j < 448 → fd_2 j = fd1 j := fun j hj => (ho j (by omega)).trans (hsc j hj)
        have n_166 : NV fd_2 166 ((NN : Nat) : Int) := hn
        refine lv_aload_n hx hb d_Model_transform_172 rfl (lv_at hl 1 rfl) ?_
        refine lv_sipush (v := nI 168) hx hb d_Model_transform_173 (by decide) ?_
        refine lv_sipush (v := nI 166) hx hb d_Model_transform_176 (by decide) ?_
        refine q_cV (rest := []) E (N_Model_inverse l g n0 mo 168 166 0 (nI pn) (nI tn) (nI wn) fd_2 fa (by omega) (by omega) (by omega) hAT ((NN : Nat) : Int) n_166 (by have := RI_16; omega)) w_1117 w_15 w_1114 w_1116 (bw_s 33 rfl) hd_Model_inverse rfl ⟨by decide, by decide⟩ (OB.recv E.2.2.2.2.2 (by rfl) hm.1) (⟨hm, hab⟩) hF hl.1 rfl (Nat.le_of_ble_eq_true rfl) d_Model_transform_179 ⟨by decide, by decide⟩ (qv (fun H2 locs hq hF => ?_))
        obtain ⟨hq, hab, fd_3, hm, ho, hn⟩ := hq
        have hfr := hfr.tr hq
        have n_166 : NV fd_3 166 ((NN : Nat) : Int) := n_166.fr (fun k hk => ho _ (by omega) (by omega))
        have hsp : ∀ j, 448 ≤ j → j < 1666 → fd_3 j = fd j := fun j h8 h9 => (ho j (by omega) (by omega)).trans (hsp j h8 h9)
        have hsc : ∀ j, j < 448 → fd_3 j = fd1 j := fun j hj => (ho j (by omega) (by omega)).trans (hsc j hj)
        have n_168 : NV fd_3 168 (((NN : Nat) : Int) ^ (RN - 2) % RI) := hn
        refine lv_iconst (v := nI 0) hx hb d_Model_transform_182 (by decide) ?_
        refine lv_istore (lv' := [(5, .int (nI 0)), (0, .ref mo), (1, .int (nI k1)), (3, .int bk), (4, .int (nI NN))]) hx hb d_Model_transform_183 hl (by decide) rfl (fun ls hl => ?_)
        have hl : lv_has ls 7 [(5, .int (nI 0)), (0, .ref mo), (1, .int (nI k1)), (3, .int bk), (4, .int (nI NN))] := lv_sub hl [0, 1, 2, 3, 4] rfl
        exact last NN 0 _ _ ls _ fh (by omega) hm (AJ.off hfr (by unfold MR; omega) hh) hhd hV (hfx.tr (hfr.mono (fun q h => Or.inl h))) hab n_168 hsp (fun k hk => by unfold trB; rw [if_neg (by omega)]; exact ⟨(hB k hk).1.fr (fun j hj => hsc _ (by omega)), (hB k hk).2⟩) hF hl
      | succ k ih =>
        intro  i   H   locs   ls   fd1 fh hi hm hh hhd hV hfx hab hs0 hsp n_166 n_169 hF hl
        have hsc : ∀ j, j < 448 → fd1 j = fd1 j := fun _ _ => rfl
        have hfr : FRM (MR mo) H H := FRM.rf
        have hBf : ∀ k, k < 32 → NV fd1 k (B k) ∧ B k < RI := fun k hk => ⟨(hB k hk).1.fr (fun j hj => hs0 _ (by omega)), (hB k hk).2⟩
        have hB := hBf
        refine lv_iload hx hb d_Model_transform_85 (lv_at hl 0 rfl) ?_
        refine lv_iload hx hb d_Model_transform_87 (lv_at hl 4 rfl) ?_
        refine lv_icmp_ge (tgt := 162) hx hb d_Model_transform_89 (by decide) (fun h9 => absurd h9 (nI_ge (by omega) (by omega))) (fun _ => ?_)
        refine lv_aload_n hx hb d_Model_transform_92 rfl (lv_at hl 1 rfl) ?_
        refine lv_sipush (v := nI 168) hx hb d_Model_transform_93 (by decide) ?_
        refine lv_iload_n hx hb d_Model_transform_96 rfl (lv_at hl 2 rfl) ?_
        refine lv_iload hx hb d_Model_transform_97 (lv_at hl 4 rfl) ?_
        refine lv_sipush (v := nI 169) hx hb d_Model_transform_99 (by decide) ?_
        refine q_cV (rest := []) E (N_Model_value l g n0 mo 168 k1 NN 169 0 (nI pn) (nI tn) (nI wn) fd1 fa (by omega) (by omega) (by omega) (by omega) hAT B ((trW k2 bk) ^ i % RI) n_169 ((rm_r _).2) (fun k hk => ⟨(hB (k1 + k) (by omega)).1.fr (fun j hj => hsc _ (by omega)), (hB (k1 + k) (by omega)).2⟩)) w_1235 w_15 w_1232 w_1234 (bw_s 47 rfl) hd_Model_value rfl ⟨by decide, by decide⟩ (OB.recv E.2.2.2.2.2 (by rfl) hm.1) (⟨hm, hab⟩) hF hl.1 rfl (Nat.le_of_ble_eq_true rfl) d_Model_transform_102 ⟨by decide, by decide⟩ (qv (fun H1 locs hq hF => ?_))
        obtain ⟨hq, hab, fd_4, hm, ho, hn⟩ := hq
        have hfr := hfr.tr hq
        have n_166 : NV fd_4 166 (trW k2 bk) := n_166.fr (fun k hk => ho _ (by omega) (by omega))
        have n_169 : NV fd_4 169 ((trW k2 bk) ^ i % RI) := n_169.fr (fun k hk => ho _ (by omega) (by omega))
        have hsp : ∀ j, 448 ≤ j → j < 1666 → fd_4 j = fd j := fun j h8 h9 => (ho j (by omega) (by omega)).trans (hsp j h8 h9)
        have hsc : ∀ j, j < 448 → fd_4 j = fd1 j := fun j hj => (ho j (by omega) (by omega)).trans (hsc j hj)
        have n_168 : NV fd_4 168 (hvS B k1 ((trW k2 bk) ^ i % RI) NN 0) := hn
        refine lv_iconst (v := nI 0) hx hb d_Model_transform_105 (by decide) ?_
        refine lv_istore (lv' := [(6, .int (nI 0)), (5, .int (nI i)), (0, .ref mo), (1, .int (nI k1)), (3, .int bk), (4, .int (nI NN))]) hx hb d_Model_transform_106 hl (by decide) rfl (fun ls hl => ?_)
        have hh := AJ.off hfr (show ¬ MR mo (mo + 8) by unfold MR; omega) hh
        have hfx : FRM (fun q => MR mo q ∨ q = mo + 8) s.heap H1 := hfx.tr (hfr.mono (fun q h => Or.inl h))
        have hs0 : ∀ j, j < 448 → fd_4 j = fd j := fun j hj => (hsc j hj).trans (hs0 j hj)
        have n_168 : NV fd_4 168 (trV B k1 NN (trW k2 bk) i) := n_168
        have hl : lv_has ls 7 [(6, .int (nI 0)), (5, .int (nI i)), (0, .ref mo), (1, .int (nI k1)), (3, .int bk), (4, .int (nI NN))] := lv_sub hl [0, 1, 2, 3, 4, 5] rfl
        have n_168a := n_168
        have inner : ∀ (k2x : Nat) (j : Nat) (H : Heap) (locs : List Loc) (ls : Array Slot) (fh1 : Nat → Int64), j + k2x = 14 → MS g n0 H mo 0 (nI pn) (nI tn) (nI wn) 1 10 fd_4 → AJ g H (mo + 8) 224 fh1 → (∀ k, k < 224 → dg (fh1 k)) → FRM (fun q => MR mo q ∨ q = mo + 8) s.heap H → AJ g H (mo + 4) 420 fa → (∀ q, q < 14 * i → fh1 q = fh q) → (∀ k, k < j → fh1 (14 * i + k) = fd_4 (14 * 168 + k)) → (∀ q ∈ locs, n0 q.base) → lv_has ls 7 [(6, .int (nI j)), (5, .int (nI i)), (0, .ref mo), (1, .int (nI k1)), (3, .int bk), (4, .int (nI NN))] → W p l e { frames := 5, cells := 0, slots := 0, locals := 125 } s m [.ref mo, .int a, .int kv, .int bk].toArray below meth c H locs 0 0 (MQ below (QcP (QV (fun H H' => ((okC kv (nI 0) (nI 4) ∧ okS a (nI 1 <<< ((kv &&& nI 7) &&& 31))) ∧ (∃ k1 k2 NN, a = nI k1 ∧ kv = nI k2 ∧ k2 ≤ 4 ∧ NN = 2 ^ k2 ∧ k1 + NN ≤ 32 ∧ MVP g n0 H' mo 0 pn tn wn (trB B k1 NN k2 bk NN))) ∨ (¬ (okC kv (nI 0) (nI 4) ∧ okS a (nI 1 <<< ((kv &&& nI 7) &&& 31))) ∧ MVP g n0 H' mo 1 pn tn wn B)))) [.ref mo, .int a, .int kv, .int bk].toArray s 0 0 (fun q => n0 q)) (F0 m 108 ls []) := by
          intro k2x
          induction k2x with
          | zero =>
            intro  j   H   locs   ls   fh1 hj hm hh hhd1 hfx hab hlo hcp hF hl
            have hfr : FRM (MR mo) H H := FRM.rf
            obtain rfl : j = 14 := by omega
            refine lv_iload hx hb d_Model_transform_108 (lv_at hl 0 rfl) ?_
            refine lv_bipush (v := nI 14) hx hb d_Model_transform_110 (by decide) ?_
            refine lv_icmp_ge (tgt := 143) hx hb d_Model_transform_112 (by decide) (fun _ => ?_) (fun h9 => absurd (by decide) h9)
            have hsc : ∀ j, j < 448 → fd_4 j = fd_4 j := fun _ _ => rfl
            refine lv_aload_n hx hb d_Model_transform_143 rfl (lv_at hl 2 rfl) ?_
            refine lv_sipush (v := nI 169) hx hb d_Model_transform_144 (by decide) ?_
            refine lv_sipush (v := nI 169) hx hb d_Model_transform_147 (by decide) ?_
            refine lv_sipush (v := nI 166) hx hb d_Model_transform_150 (by decide) ?_
            refine q_cV (rest := []) E (N_Model_product l g n0 mo 169 169 166 0 (nI pn) (nI tn) (nI wn) fd_4 (by omega) (by omega) (by omega) fa hAT ((trW k2 bk) ^ i % RI) (trW k2 bk) hm.2.2.2.2.2.1 n_169 n_166 ((rm_r _).2) (trW_r _ _)) w_1113 w_15 w_1110 w_1112 (bw_s 32 rfl) hd_Model_product rfl ⟨by decide, by decide⟩ (OB.recv E.2.2.2.2.2 (by rfl) hm.1) (⟨hm, hab⟩) hF hl.1 rfl (Nat.le_of_ble_eq_true rfl) d_Model_transform_153 ⟨by decide, by decide⟩ (qv (fun H1 locs hq hF => ?_))
            obtain ⟨hq, fd_5, hm, ho, hn⟩ := hq
            have hab := hq.ajo (by omega) hab
            have hfr := hfr.tr (kjR hq)
            have n_166 : NV fd_5 166 (trW k2 bk) := n_166.fr (fun k hk => ho _ (by omega))
            have hsp : ∀ j, 448 ≤ j → j < 1666 → fd_5 j = fd j := fun j h8 h9 => (ho j (by omega)).trans (hsp j h8 h9)
            have hsc : ∀ j, j < 448 → fd_5 j = fd_4 j := fun j hj => (ho j (by omega)).trans (hsc j hj)
            have n_169 : NV fd_5 169 ((((trW k2 bk) ^ i % RI) * (trW k2 bk)) % RI) := hn
            rw [nr_mu] at n_169
            have hV : (∀ q, q < i + 1 → VL (fun k => fh1 (14 * q + k)) 14 = trV B k1 NN (trW k2 bk) q) := fun q hq9 => by
              by_cases e : q = i
              · rw [e]; exact (VL_ext (fun k hk => hcp k hk)).trans n_168a
              · exact (VL_ext (fun k hk => hlo _ (by omega))).trans (hV q (by omega))
            refine lv_iinc (k := 1) (v := nI (i + 1)) (lv' := [(5, .int (nI (i + 1))), (6, .int (nI 14)), (0, .ref mo), (1, .int (nI k1)), (3, .int bk), (4, .int (nI NN))]) hx hb d_Model_transform_156 hl rfl (i_inc i) (by decide) rfl (fun ls hl => ?_)
            refine lv_goto (tgt := 85) hx hb d_Model_transform_159 (by decide) ?_
            have hl : lv_has ls 7 [(5, .int (nI (i + 1))), (0, .ref mo), (1, .int (nI k1)), (3, .int bk), (4, .int (nI NN))] := lv_sub hl [0, 2, 3, 4, 5] rfl
            exact ih (i + 1) _ _ ls _ _ (by omega) hm (AJ.off hfr (by unfold MR; omega) hh) hhd1 hV (hfx.tr (hfr.mono (fun q h => Or.inl h))) hab (fun j hj => (hsc j hj).trans (hs0 j hj)) hsp n_166 n_169 hF hl
          | succ k2x ih2 =>
            intro  j   H   locs   ls   fh1 hj hm hh hhd1 hfx hab hlo hcp hF hl
            refine lv_iload hx hb d_Model_transform_108 (lv_at hl 0 rfl) ?_
            refine lv_bipush (v := nI 14) hx hb d_Model_transform_110 (by decide) ?_
            refine lv_icmp_ge (tgt := 143) hx hb d_Model_transform_112 (by decide) (fun h9 => absurd h9 (nI_ge (by omega) (by decide))) (fun _ => ?_)
            refine lv_aload_n hx hb d_Model_transform_115 rfl (lv_at hl 2 rfl) ?_
            refine q_get (C := "KateDeskModel") (T := T_Model) (N := 14) (ci := 8) E hm.1 in_Model rfl 13 (by decide) w_1014 rfl rfl d_Model_transform_116 ?_
            refine lv_bipush (v := nI 14) hx hb d_Model_transform_119 (by decide) ?_
            refine lv_iload hx hb d_Model_transform_121 (lv_at hl 1 rfl) ?_
            refine lv_imul hx hb d_Model_transform_123 ?_
            refine lv_topi (fun t9 e9 => ?_)
            obtain rfl : t9 = nI (14 * i) := e9.trans (pk_mul _ _)
            refine lv_iload hx hb d_Model_transform_124 (lv_at hl 0 rfl) ?_
            refine lv_iadd hx hb d_Model_transform_126 ?_
            refine lv_topi (fun t9 e9 => ?_)
            obtain rfl : t9 = nI ((14 * i) + j) := e9.trans (nI_add _ _)
            refine lv_aload_n hx hb d_Model_transform_127 rfl (lv_at hl 2 rfl) ?_
            refine lv_sipush (v := nI 168) hx hb d_Model_transform_128 (by decide) ?_
            refine lv_iload hx hb d_Model_transform_131 (lv_at hl 0 rfl) ?_
            refine q_cV (rest := [.int (nI ((14 * i) + j)), .ref (mo + 8)]) E (c_Model_limb l g n0 mo 168 j 0 (nI 1) (nI 10) (nI pn) (nI tn) (nI wn) fd_4 (by omega) (by omega)) w_979 w_15 w_976 w_978 (bw_s 18 rfl) hd_Model_limb rfl ⟨by decide, by decide⟩ (OB.recv E.2.2.2.2.2 (by rfl) hm.1) (⟨hm.1, hm.2.2.2.2.1⟩) hF hl.1 rfl (Nat.le_of_ble_eq_true rfl) d_Model_transform_133 ⟨by decide, by decide⟩ (ql (fun v1 H1 locs hq hF => ?_))
            obtain ⟨hq, hq9⟩ := hq
            obtain rfl := hq9
            subst hq
            have hdv : dg (fd_4 (14 * 168 + j)) := hm.2.2.2.2.2.1 _ (by omega)
            refine q_last E hh hn8 hF (14 * i + j) rfl (by omega) (by decide) d_Model_transform_136 (fun H2 locs hq hf2 hF => ?_)
            have hm := hm.hold hK hq
            refine lv_iinc (k := 0) (v := nI (j + 1)) (lv' := [(6, .int (nI (j + 1))), (5, .int (nI i)), (0, .ref mo), (1, .int (nI k1)), (3, .int bk), (4, .int (nI NN))]) hx hb d_Model_transform_137 hl rfl (i_inc j) (by decide) rfl (fun ls hl => ?_)
            refine lv_goto (tgt := 108) hx hb d_Model_transform_140 (by decide) ?_
            have hl : lv_has ls 7 [(6, .int (nI (j + 1))), (5, .int (nI i)), (0, .ref mo), (1, .int (nI k1)), (3, .int bk), (4, .int (nI NN))] := lv_sub hl [0, 1, 2, 3, 4, 5] rfl
            exact ih2 (j + 1) _ _ ls _ (by omega) hm hf2 (fun k hk1 => by by_cases e : k = 14 * i + j; (rw [e, pk_uLs]; exact hdv); (rw [pk_uLn e]; exact hhd1 k hk1)) (hfx.tr (hq.frm.mono (fun q h => Or.inr h))) (AJ.off hq.frm (by omega) hab) (fun q hq9 => by rw [pk_uLn (by omega)]; exact hlo q hq9) (fun k hk => by by_cases e : k = j; (subst e; rw [pk_uLs]); (rw [pk_uLn (by omega)]; exact hcp k (by omega))) hF hl
        exact inner 14 0 _ _ ls _ (by omega) hm hh hhd hfx hab (fun _ _ => rfl) (fun k hk => absurd hk (Nat.not_lt_zero _)) hF hl
    refine lv_aload_n hx hb d_Model_transform_43 rfl (lv_at hl 0 rfl) ?_
    refine lv_sipush (v := nI 166) hx hb d_Model_transform_44 (by decide) ?_
    refine lv_iload_n hx hb d_Model_transform_47 rfl (lv_at hl 2 rfl) ?_
    refine q_cV (rest := []) E (N_Model_unit l g n0 mo 166 k2 0 (nI pn) (nI tn) (nI wn) w9 n9 hw9 fd fa hmn (by omega) (by omega) hAT) w_1139 w_15 w_1136 w_1138 (bw_s 36 rfl) hd_Model_unit rfl ⟨by decide, by decide⟩ (OB.recv E.2.2.2.2.2 (by rfl) hm.1) (⟨hm, hab⟩) hF hl.1 rfl (Nat.le_of_ble_eq_true rfl) d_Model_transform_48 ⟨by decide, by decide⟩ (qv (fun H2 locs hq hF => ?_))
    obtain ⟨hq, hab, fd_6, hm, ho, hn⟩ := hq
    have hfr := hfr.tr hq
    have hsp : ∀ j, 448 ≤ j → j < 1666 → fd_6 j = fd j := fun j h8 h9 => (ho j (by omega) (by omega) (by omega)).trans (hsp j h8 h9)
    have hsc : ∀ j, j < 448 → fd_6 j = fd j := fun j hj => (ho j (by omega) (by omega) (by omega)).trans (hsc j hj)
    have n_166 : NV fd_6 166 (7 ^ eU k2 % RI) := hn
    refine lv_iload_n hx hb d_Model_transform_51 rfl (lv_at hl 3 rfl) ?_
    have hl : lv_has ls 7 [(0, .ref mo), (1, .int (nI k1)), (3, .int bk), (4, .int (nI NN))] := lv_sub hl [0, 1, 3, 4] rfl
    refine lv_if_eq (tgt := 75) hx hb d_Model_transform_52 (by decide) (fun hb8 => ?_) (fun hb8 => ?_)
    rotate_left
    · skip
      refine lv_aload_n hx hb d_Model_transform_55 rfl (lv_at hl 0 rfl) ?_
      refine lv_sipush (v := nI 168) hx hb d_Model_transform_56 (by decide) ?_
      refine lv_sipush (v := nI 166) hx hb d_Model_transform_59 (by decide) ?_
      refine q_cV (rest := []) E (N_Model_inverse l g n0 mo 168 166 0 (nI pn) (nI tn) (nI wn) fd_6 fa (by omega) (by omega) (by omega) hAT (7 ^ eU k2 % RI) n_166 ((rm_r _).2)) w_1117 w_15 w_1114 w_1116 (bw_s 33 rfl) hd_Model_inverse rfl ⟨by decide, by decide⟩ (OB.recv E.2.2.2.2.2 (by rfl) hm.1) (⟨hm, hab⟩) hF hl.1 rfl (Nat.le_of_ble_eq_true rfl) d_Model_transform_62 ⟨by decide, by decide⟩ (qv (fun H3 locs hq hF => ?_))
      obtain ⟨hq, hab, fd_7, hm, ho, hn⟩ := hq
      have hfr := hfr.tr hq
      have n_166 : NV fd_7 166 (7 ^ eU k2 % RI) := n_166.fr (fun k hk => ho _ (by omega) (by omega))
      have hsp : ∀ j, 448 ≤ j → j < 1666 → fd_7 j = fd j := fun j h8 h9 => (ho j (by omega) (by omega)).trans (hsp j h8 h9)
      have hsc : ∀ j, j < 448 → fd_7 j = fd j := fun j hj => (ho j (by omega) (by omega)).trans (hsc j hj)
      have n_168 : NV fd_7 168 ((7 ^ eU k2 % RI) ^ (RN - 2) % RI) := hn
      refine lv_aload_n hx hb d_Model_transform_65 rfl (lv_at hl 0 rfl) ?_
      refine lv_sipush (v := nI 166) hx hb d_Model_transform_66 (by decide) ?_
      refine lv_sipush (v := nI 168) hx hb d_Model_transform_69 (by decide) ?_
      refine q_cV (rest := []) E (c_Model_move l g n0 mo 166 168 0 (nI pn) (nI tn) (nI wn) 1 10 hw1 fd_7 (by omega) (by omega)) w_1076 w_15 w_1073 w_1075 (bw_s 27 rfl) hd_Model_move rfl ⟨by decide, by decide⟩ (OB.recv E.2.2.2.2.2 (by rfl) hm.1) hm hF hl.1 rfl (Nat.le_of_ble_eq_true rfl) d_Model_transform_72 ⟨by decide, by decide⟩ (qv (fun H4 locs hq hF => ?_))
      obtain ⟨hq, fd_8, hm, hpv⟩ := hq
      have hab := AJ.off hq (by unfold MR; omega) hab
      have hfr := hfr.tr hq
      have ho := hpv.1
      have hn : NV fd_8 166 ((7 ^ eU k2 % RI) ^ (RN - 2) % RI) := (VL_ext (fun k hk => hpv.2 k hk)).trans n_168
      have n_168 : NV fd_8 168 ((7 ^ eU k2 % RI) ^ (RN - 2) % RI) := n_168.fr (fun k hk => ho _ (by omega))
      have hsp : ∀ j, 448 ≤ j → j < 1666 → fd_8 j = fd j := fun j h8 h9 => (ho j (by omega)).trans (hsp j h8 h9)
      have hsc : ∀ j, j < 448 → fd_8 j = fd j := fun j hj => (ho j (by omega)).trans (hsc j hj)
      have n_166 : NV fd_8 166 ((7 ^ eU k2 % RI) ^ (RN - 2) % RI) := hn
      refine lv_aload_n hx hb d_Model_transform_75 rfl (lv_at hl 0 rfl) ?_
      refine lv_sipush (v := nI 169) hx hb d_Model_transform_76 (by decide) ?_
      refine q_cV (rest := []) E (c_Model_one l g n0 mo 169 0 (nI pn) (nI tn) (nI wn) 1 10 hw1 fd_8 (by omega)) w_971 w_15 w_968 w_970 (bw_s 16 rfl) hd_Model_one rfl ⟨by decide, by decide⟩ (OB.recv E.2.2.2.2.2 (by rfl) hm.1) hm hF hl.1 rfl (Nat.le_of_ble_eq_true rfl) d_Model_transform_79 ⟨by decide, by decide⟩ (qv (fun H5 locs hq hF => ?_))
      obtain ⟨hq, fd_9, hm, hpv⟩ := hq
      have hab := AJ.off hq (by unfold MR; omega) hab
      have hfr := hfr.tr hq
      have ho := hpv.1
      have hn : NV fd_9 169 1 := (VL_ext (fun k hk => hpv.2 k hk)).trans one_14
      have n_168 : NV fd_9 168 ((7 ^ eU k2 % RI) ^ (RN - 2) % RI) := n_168.fr (fun k hk => ho _ (by omega))
      have n_166 : NV fd_9 166 ((7 ^ eU k2 % RI) ^ (RN - 2) % RI) := n_166.fr (fun k hk => ho _ (by omega))
      have hsp : ∀ j, 448 ≤ j → j < 1666 → fd_9 j = fd j := fun j h8 h9 => (ho j (by omega)).trans (hsp j h8 h9)
      have hsc : ∀ j, j < 448 → fd_9 j = fd j := fun j hj => (ho j (by omega)).trans (hsc j hj)
      have n_169 : NV fd_9 169 1 := hn
      refine lv_iconst (v := nI 0) hx hb d_Model_transform_82 (by decide) ?_
      refine lv_istore (lv' := [(5, .int (nI 0)), (0, .ref mo), (1, .int (nI k1)), (3, .int bk), (4, .int (nI NN))]) hx hb d_Model_transform_83 hl (by decide) rfl (fun ls hl => ?_)
      have hl : lv_has ls 7 [(5, .int (nI 0)), (0, .ref mo), (1, .int (nI k1)), (3, .int bk), (4, .int (nI NN))] := lv_sub hl [0, 1, 2, 3, 4] rfl
      have n_166 : NV fd_9 166 (trW k2 bk) := by unfold trW; rw [if_neg hb8]; exact n_166
      obtain ⟨fh, hh, hhd⟩ := hP.2.2.1
      exact first NN 0 _ _ ls _ fh (by omega) hm (AJ.off hfr (by unfold MR; omega) hh) hhd (fun q hq9 => absurd hq9 (Nat.not_lt_zero _)) (hfr.mono (fun q h => Or.inl h)) hab hsc hsp n_166 (by rw [w0_1]; exact n_169) hF hl
    refine lv_aload_n hx hb d_Model_transform_75 rfl (lv_at hl 0 rfl) ?_
    refine lv_sipush (v := nI 169) hx hb d_Model_transform_76 (by decide) ?_
    refine q_cV (rest := []) E (c_Model_one l g n0 mo 169 0 (nI pn) (nI tn) (nI wn) 1 10 hw1 fd_6 (by omega)) w_971 w_15 w_968 w_970 (bw_s 16 rfl) hd_Model_one rfl ⟨by decide, by decide⟩ (OB.recv E.2.2.2.2.2 (by rfl) hm.1) hm hF hl.1 rfl (Nat.le_of_ble_eq_true rfl) d_Model_transform_79 ⟨by decide, by decide⟩ (qv (fun H3 locs hq hF => ?_))
    obtain ⟨hq, fd_10, hm, hpv⟩ := hq
    have hab := AJ.off hq (by unfold MR; omega) hab
    have hfr := hfr.tr hq
    have ho := hpv.1
    have hn : NV fd_10 169 1 := (VL_ext (fun k hk => hpv.2 k hk)).trans one_14
    have n_166 : NV fd_10 166 (7 ^ eU k2 % RI) := n_166.fr (fun k hk => ho _ (by omega))
    have hsp : ∀ j, 448 ≤ j → j < 1666 → fd_10 j = fd j := fun j h8 h9 => (ho j (by omega)).trans (hsp j h8 h9)
    have hsc : ∀ j, j < 448 → fd_10 j = fd j := fun j hj => (ho j (by omega)).trans (hsc j hj)
    have n_169 : NV fd_10 169 1 := hn
    refine lv_iconst (v := nI 0) hx hb d_Model_transform_82 (by decide) ?_
    refine lv_istore (lv' := [(5, .int (nI 0)), (0, .ref mo), (1, .int (nI k1)), (3, .int bk), (4, .int (nI NN))]) hx hb d_Model_transform_83 hl (by decide) rfl (fun ls hl => ?_)
    have hl : lv_has ls 7 [(5, .int (nI 0)), (0, .ref mo), (1, .int (nI k1)), (3, .int bk), (4, .int (nI NN))] := lv_sub hl [0, 1, 2, 3, 4] rfl
    have n_166 : NV fd_10 166 (trW k2 bk) := by unfold trW; rw [if_pos hb8]; exact n_166
    obtain ⟨fh, hh, hhd⟩ := hP.2.2.1
    exact first NN 0 _ _ ls _ fh (by omega) hm (AJ.off hfr (by unfold MR; omega) hh) hhd (fun q hq9 => absurd hq9 (Nat.not_lt_zero _)) (hfr.mono (fun q h => Or.inl h)) hab hsc hsp n_166 (by rw [w0_1]; exact n_169) hF hl
  refine lv_iconst (v := nI 1) hx hb d_Model_transform_0 (by decide) ?_
  refine lv_iload_n hx hb d_Model_transform_1 rfl (lv_at hl 2 rfl) ?_
  refine lv_bipush (v := nI 7) hx hb d_Model_transform_2 (by decide) ?_
  refine lv_iand hx hb d_Model_transform_4 ?_
  refine lv_ishl hx hb d_Model_transform_5 ?_
  refine lv_istore (lv' := [(4, .int ((nI 1) <<< ((kv &&& (nI 7)) &&& 31))), (0, .ref mo), (1, .int a), (2, .int kv), (3, .int bk)]) hx hb d_Model_transform_6 hl (by decide) rfl (fun ls hl => ?_)
  refine lv_aload_n hx hb d_Model_transform_8 rfl (lv_at hl 1 rfl) ?_
  refine lv_iload_n hx hb d_Model_transform_9 rfl (lv_at hl 3 rfl) ?_
  refine lv_i2l (v := kv.toInt64) hx hb d_Model_transform_10 rfl ?_
  refine lv_lconst (v := 0) hx hb d_Model_transform_11 (by decide) ?_
  refine lv_ldc2 (v := 4) hx hb E.2.2.2.1 (E.2.2.2.2.1 _ w_1155) d_Model_transform_12 ?_
  refine q_cS (rest := [.ref mo]) E (c_Model_in l g n0 kv.toInt64 0 4 ) w_1101 w_15 w_1099 w_1100 hd_Model_in rfl ⟨by decide, by decide⟩ trivial hF hl.1 rfl (Nat.le_of_ble_eq_true rfl) d_Model_transform_15 ⟨by decide, by decide⟩ (qi (fun r_0 H1 locs hq hF => ?_))
  obtain ⟨h_0, hq⟩ := hq
  subst hq
  rcases h_0 with ⟨rfl, f_0⟩ | ⟨rfl, f_0⟩
  · skip
    refine lv_if_eq (tgt := 30) hx hb d_Model_transform_18 (by decide) (fun _ => ?_) (fun h9 => absurd (by decide) h9)
    refine lv_iconst (v := nI 1) hx hb d_Model_transform_30 (by decide) ?_
    refine lv_goto (tgt := 35) hx hb d_Model_transform_31 (by decide) ?_
    have hl : lv_has ls 7 [(0, .ref mo), (1, .int a), (2, .int kv), (3, .int bk), (4, .int ((nI 1) <<< ((kv &&& (nI 7)) &&& 31)))] := lv_sub hl [1, 2, 3, 4, 0] rfl
    exact bad _ ls (fun h => (fun q => f_0 ((in_okC (a := 0) (b := 4) (by decide) (by decide) (by decide) (by decide)).mpr q)) h.1) hF hl
  · skip
    refine lv_if_eq (tgt := 30) hx hb d_Model_transform_18 (by decide) (fun h9 => absurd h9 (by decide)) (fun _ => ?_)
    refine lv_iload_n hx hb d_Model_transform_21 rfl (lv_at hl 2 rfl) ?_
    refine lv_iload hx hb d_Model_transform_22 (lv_at hl 0 rfl) ?_
    refine q_cS (rest := [.ref mo]) E (c_Model_noScalars l g n0 a ((nI 1) <<< ((kv &&& (nI 7)) &&& 31)) (tk ((in_okC (a := 0) (b := 4) (by decide) (by decide) (by decide) (by decide)).mp f_0))) w_1206 w_15 w_1204 w_1205 hd_Model_noScalars rfl ⟨by decide, by decide⟩ trivial hF hl.1 rfl (Nat.le_of_ble_eq_true rfl) d_Model_transform_24 ⟨by decide, by decide⟩ (qi (fun r_1 H2 locs hq hF => ?_))
    obtain ⟨h_1, hq⟩ := hq
    subst hq
    rcases h_1 with ⟨rfl, f_1⟩ | ⟨rfl, f_1⟩
    · skip
      refine lv_if_eq (tgt := 34) hx hb d_Model_transform_27 (by decide) (fun h9 => absurd h9 (by decide)) (fun _ => ?_)
      refine lv_iconst (v := nI 1) hx hb d_Model_transform_30 (by decide) ?_
      refine lv_goto (tgt := 35) hx hb d_Model_transform_31 (by decide) ?_
      have hl : lv_has ls 7 [(0, .ref mo), (1, .int a), (2, .int kv), (3, .int bk), (4, .int ((nI 1) <<< ((kv &&& (nI 7)) &&& 31)))] := lv_sub hl [1, 2, 3, 4, 0] rfl
      exact bad _ ls (fun h => (f_1) h.2) hF hl
    · skip
      refine lv_if_eq (tgt := 34) hx hb d_Model_transform_27 (by decide) (fun _ => ?_) (fun h9 => absurd (by decide) h9)
      refine lv_iconst (v := nI 0) hx hb d_Model_transform_34 (by decide) ?_
      have hl : lv_has ls 7 [(0, .ref mo), (1, .int a), (2, .int kv), (3, .int bk), (4, .int ((nI 1) <<< ((kv &&& (nI 7)) &&& 31)))] := lv_sub hl [1, 2, 3, 4, 0] rfl
      exact good _ ls ⟨(in_okC (a := 0) (b := 4) (by decide) (by decide) (by decide) (by decide)).mp f_0, f_1⟩ hF hl
