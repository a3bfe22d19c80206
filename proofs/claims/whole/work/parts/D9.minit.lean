theorem k_R4 (mo : Nat) : ¬ MR mo (mo + 4) := by unfold MR; omega
theorem one_10 : VL (fun k => if k = 0 then (1 : Int64) else 0) 10 = 1 := by decide +kernel
theorem tb_1 : (2 : Int) ^ 0 % RI = 1 := by decide +kernel
theorem tb_db {x y : Int} {j : Nat} (hx : x = 2 ^ j % RI) (hv : 0 ≤ x + x → x + x < 268435456 ^ 10 → y = (x + x) % PP 1 10) : y = 2 ^ (j + 1) % RI := by
  have r := rm_r (2 ^ j)
  have h2 : 2 * RI < 268435456 ^ 10 := by decide +kernel
  rw [← hx] at r
  rw [hv (by omega) (by omega), PP_R, hx, ← Int.add_emod, Int.pow_succ]
  generalize (2 : Int) ^ j = a
  congr 1
  omega
theorem tb_row {f : Nat → Int64} {i j : Nat} (h : VL f 10 = 2 ^ j % RI) (e : j = 28 * (10 + i)) : PP 1 10 ∣ VL f 10 - 268435456 ^ (10 + i) := by
  rw [h, PP_R, show (268435456 : Int) ^ (10 + i) = 2 ^ j by rw [e, show (268435456 : Int) = 2 ^ 28 from rfl, ← Int.pow_mul]]
  have h9 := Int.emod_add_mul_ediv (2 ^ j) RI
  generalize (2 : Int) ^ j = x at *
  refine ⟨-(x / RI), ?_⟩
  rw [Int.mul_neg]
  generalize RI * (x / RI) = y at *
  omega
theorem r28 {j : Nat} (hj : j < 2 ^ 20) : (nI j - nI j / nI 28 * nI 28 = 0) ↔ j % 28 = 0 := by
  rw [rem28 hj, show j - j / 28 * 28 = j % 28 by omega]
  constructor
  · exact fun h => nI_z0 (by omega) h
  · intro h
    rw [h]
    decide
theorem tb_ix {i j k m : Nat} (h : 28 * (10 + i) < j) (hk : k < 10) (hm : m < 10) (hj : j % 28 = 0) : 210 * 1 + 14 * i + k ≠ 210 * 1 + 14 * (j / 28 - 10) + m := by omega
theorem tbq_db {x y : Int} {j : Nat} (hx : x = 2 ^ j % QJ) (hv : 0 ≤ x + x → x + x < 268435456 ^ 14 → y = (x + x) % PP 0 14) : y = 2 ^ (j + 1) % QJ := by
  have r := qm_r (2 ^ j)
  have h2 : 2 * QJ < 268435456 ^ 14 := by decide +kernel
  rw [← hx] at r
  rw [hv (by omega) (by omega), PP_Q, hx, ← Int.add_emod, Int.pow_succ]
  generalize (2 : Int) ^ j = a
  congr 1
  omega
theorem tbq_row {f : Nat → Int64} {i j : Nat} (h : VL f 14 = 2 ^ j % QJ) (e : j = 28 * (14 + i)) : PP 0 14 ∣ VL f 14 - 268435456 ^ (14 + i) := by
  rw [h, PP_Q, show (268435456 : Int) ^ (14 + i) = 2 ^ j by rw [e, show (268435456 : Int) = 2 ^ 28 from rfl, ← Int.pow_mul]]
  have h9 := Int.emod_add_mul_ediv (2 ^ j) QJ
  generalize (2 : Int) ^ j = x at *
  refine ⟨-(x / QJ), ?_⟩
  rw [Int.mul_neg]
  generalize QJ * (x / QJ) = y at *
  omega
theorem tbq_ix {i j k m : Nat} (h : 28 * (14 + i) < j) (hk : k < 14) (hm : m < 14) (hj : j % 28 = 0) : 210 * 0 + 14 * i + k ≠ 210 * 0 + 14 * (j / 28 - 14) + m := by omega
/-- what the model's slots hold at the beginning -/
def B0 (k : Nat) : Int := if 32 ≤ k ∧ k < 68 then (if (k - 32) % 3 = 1 then 1 else 0) else if k = 116 then 3685416753713387016781088315183077757961620795782546409894578378688607592378376318836054947676345821548104185464507 else if k = 117 then 1339506544944476473020471379941921221584933875938349620426543736416511423956333506472724655353366534992391756441569 else if k = 118 then 1 else 0
theorem gb_x : VL (fun k => kBa k) 14 = 3685416753713387016781088315183077757961620795782546409894578378688607592378376318836054947676345821548104185464507 := by decide +kernel
theorem gb_y : VL (fun k => kBa (14 + k)) 14 = 1339506544944476473020471379941921221584933875938349620426543736416511423956333506472724655353366534992391756441569 := by decide +kernel
theorem B0_r (k : Nat) : 0 ≤ B0 k ∧ B0 k < QJ := by
  unfold B0
  split
  · split <;> decide +kernel
  · split
    · decide +kernel
    · split
      · decide +kernel
      · split <;> decide +kernel
theorem bv_0 {fd : Nat → Int64} (hS : SAME (fun _ => 0) fd (fun t => (32 ≤ t ∧ t < 68) ∨ 116 ≤ t)) (hpts : ∀ k, k < 12 → Z0 fd (32 + 3 * k) ∧ SV fd (32 + 3 * k + 1) 14 = 1 ∧ Z0 fd (32 + 3 * k + 2)) (hG : SV fd 116 14 = 3685416753713387016781088315183077757961620795782546409894578378688607592378376318836054947676345821548104185464507 ∧ SV fd 117 14 = 1339506544944476473020471379941921221584933875938349620426543736416511423956333506472724655353366534992391756441569 ∧ SV fd 118 14 = 1) : BV9 fd B0 := by
  intro k hk
  refine ⟨?_, fun h => ?_, fun _ => B0_r k⟩
  · show VL (fun j => fd (14 * k + j)) 14 = B0 k
    unfold B0
    by_cases c : 32 ≤ k ∧ k < 68
    · rw [if_pos c]
      have h := hpts ((k - 32) / 3) (by omega)
      by_cases c1 : (k - 32) % 3 = 1
      · rw [if_pos c1]
        have e : 32 + 3 * ((k - 32) / 3) + 1 = k := by omega
        rw [e] at h
        exact h.2.1
      · rw [if_neg c1]
        by_cases c0 : (k - 32) % 3 = 0
        · have e : 32 + 3 * ((k - 32) / 3) = k := by omega
          rw [e] at h
          exact VL_zero h.1
        · have e : 32 + 3 * ((k - 32) / 3) + 2 = k := by omega
          rw [e] at h
          exact VL_zero h.2.2
    · rw [if_neg c]
      by_cases c6 : k = 116
      · subst c6; rw [if_pos rfl]; exact hG.1
      · rw [if_neg c6]
        by_cases c7 : k = 117
        · subst c7; rw [if_pos rfl]; exact hG.2.1
        · rw [if_neg c7]
          by_cases c8 : k = 118
          · subst c8; rw [if_pos rfl]; exact hG.2.2
          · rw [if_neg c8]
            exact VL_zero (fun j hj => hS k j (by show ¬ ((32 ≤ k ∧ k < 68) ∨ 116 ≤ k); omega) hj)
  · unfold B0
    rw [if_neg (by omega), if_neg (by omega), if_neg (by omega), if_neg (by omega)]
    exact RI_pos
set_option maxHeartbeats 4000000 in
set_option maxRecDepth 100000 in
theorem P_Model_init (l : Launch) (g : WG) (n0 : Nat → Prop) (mo : Nat) (hna : ∀ q, mo ≤ q → q ≤ mo + 8 → n0 q) : Ctr l y_Model_init (.code y_Model_init prog_11_method_1_code 4 none) 3 75 8 3304 n0 g [.ref mo] (fun H => OB g H mo 8 [.int 0, .null, .null, .null, .null, .null, .int 0, .int 0, .int 0, .null, .int 0, .null, .int 0, .null] ∧ H.size = mo + 1) (QV (fun H H' => (∃ fd fa, MS g n0 H' mo 0 0 0 0 0 14 fd ∧ BV9 fd B0 ∧ AJ g H' (mo + 4) 420 fa ∧ (∀ j, j ≤ 10 → PP 1 10 ∣ VL (fun k => fa (210 * 1 + 14 * j + k)) 10 - 268435456 ^ (10 + j)) ∧ (∀ j, j ≤ 14 → PP 0 14 ∣ VL (fun k => fa (210 * 0 + 14 * j + k)) 14 - 268435456 ^ (14 + j))) ∧ HO g H' mo ∧ (∃ f, AI g H' (mo + 6) 96 f) ∧ (∃ f, AI g H' (mo + 7) 96 f) ∧ H'.size = mo + 9 ∧ ∀ q, q < mo → H'[q]? = H[q]?)) := by
  refine ctr_mk l (lv0 := [(0, .ref mo)]) (by decide) (Nat.le_of_ble_eq_true rfl) rfl ?_
  intro p e s m below meth c ls E hr hlk hnm hl hP
  have hx := E.1
  have hb := E.2.1
  have hK := E.2.2.2.2.2
  have hF : ∀ q ∈ ([] : List Loc), n0 q.base := fun q hq => absurd hq List.not_mem_nil
  obtain ⟨ho, hsz⟩ := hP
  have hlow : ∀ q, q < mo → s.heap[q]? = s.heap[q]? := fun _ _ => rfl
  have na0 : n0 (mo + 0) := hna _ (by omega) (by omega)
  have na1 : n0 (mo + 1) := hna _ (by omega) (by omega)
  have na2 : n0 (mo + 2) := hna _ (by omega) (by omega)
  have na3 : n0 (mo + 3) := hna _ (by omega) (by omega)
  have na4 : n0 (mo + 4) := hna _ (by omega) (by omega)
  have na5 : n0 (mo + 5) := hna _ (by omega) (by omega)
  have na6 : n0 (mo + 6) := hna _ (by omega) (by omega)
  have na7 : n0 (mo + 7) := hna _ (by omega) (by omega)
  have na8 : n0 (mo + 8) := hna _ (by omega) (by omega)
  have rest : ∀ (H : Heap) (locs : List Loc) (ls : Array Slot), MS g n0 H mo 0 0 0 0 0 0 (fun _ => 0) → HO g H mo → (∃ f, AI g H (mo + 6) 96 f) → (∃ f, AI g H (mo + 7) 96 f) → AJ g H (mo + 3) 28 kBa → H.size = mo + 9 → (∀ q, q < mo → H[q]? = s.heap[q]?) → (∀ q ∈ locs, n0 q.base) → lv_has ls 4 [(0, .ref mo)] → W p l e { frames := 3, cells := 8, slots := 3304, locals := 75 } s m [.ref mo].toArray below meth c H locs 8 3304 (MQ below (QcP (QV (fun H H' => (∃ fd fa, MS g n0 H' mo 0 0 0 0 0 14 fd ∧ BV9 fd B0 ∧ AJ g H' (mo + 4) 420 fa ∧ (∀ j, j ≤ 10 → PP 1 10 ∣ VL (fun k => fa (210 * 1 + 14 * j + k)) 10 - 268435456 ^ (10 + j)) ∧ (∀ j, j ≤ 14 → PP 0 14 ∣ VL (fun k => fa (210 * 0 + 14 * j + k)) 14 - 268435456 ^ (14 + j))) ∧ HO g H' mo ∧ (∃ f, AI g H' (mo + 6) 96 f) ∧ (∃ f, AI g H' (mo + 7) 96 f) ∧ H'.size = mo + 9 ∧ ∀ q, q < mo → H'[q]? = H[q]?))) [.ref mo].toArray s 8 3304 (fun q => n0 q)) (F0 m 441 ls []) := by
    have lp : ∀ (k : Nat) (i : Nat) (H : Heap) (locs : List Loc) (ls : Array Slot) (fd1 fa : Nat → Int64), i + k = 12 → MS g n0 H mo 0 0 0 0 0 14 fd1 → (∀ k, k < i → Z0 fd1 (32 + 3 * k) ∧ SV fd1 (32 + 3 * k + 1) 14 = 1 ∧ Z0 fd1 (32 + 3 * k + 2)) → (SV fd1 116 14 = 3685416753713387016781088315183077757961620795782546409894578378688607592378376318836054947676345821548104185464507 ∧ SV fd1 117 14 = 1339506544944476473020471379941921221584933875938349620426543736416511423956333506472724655353366534992391756441569 ∧ SV fd1 118 14 = 1) → HO g H mo → (∃ f, AI g H (mo + 6) 96 f) → (∃ f, AI g H (mo + 7) 96 f) → AJ g H (mo + 3) 28 kBa → H.size = mo + 9 → (∀ q, q < mo → H[q]? = s.heap[q]?) → SAME (fun _ => (0 : Int64)) fd1 (fun t => (32 ≤ t ∧ t < 68) ∨ 116 ≤ t) → AJ g H (mo + 4) 420 fa → (∀ j, j ≤ 10 → PP 1 10 ∣ VL (fun k => fa (210 * 1 + 14 * j + k)) 10 - 268435456 ^ (10 + j)) → (∀ j, j ≤ 14 → PP 0 14 ∣ VL (fun k => fa (210 * 0 + 14 * j + k)) 14 - 268435456 ^ (14 + j)) → (∀ q ∈ locs, n0 q.base) → lv_has ls 4 [(1, .int (nI i)), (0, .ref mo)] → W p l e { frames := 3, cells := 8, slots := 3304, locals := 75 } s m [.ref mo].toArray below meth c H locs 8 3304 (MQ below (QcP (QV (fun H H' => (∃ fd fa, MS g n0 H' mo 0 0 0 0 0 14 fd ∧ BV9 fd B0 ∧ AJ g H' (mo + 4) 420 fa ∧ (∀ j, j ≤ 10 → PP 1 10 ∣ VL (fun k => fa (210 * 1 + 14 * j + k)) 10 - 268435456 ^ (10 + j)) ∧ (∀ j, j ≤ 14 → PP 0 14 ∣ VL (fun k => fa (210 * 0 + 14 * j + k)) 14 - 268435456 ^ (14 + j))) ∧ HO g H' mo ∧ (∃ f, AI g H' (mo + 6) 96 f) ∧ (∃ f, AI g H' (mo + 7) 96 f) ∧ H'.size = mo + 9 ∧ ∀ q, q < mo → H'[q]? = H[q]?))) [.ref mo].toArray s 8 3304 (fun q => n0 q)) (F0 m 629 ls []) := by
      intro k
      induction k with
      | zero =>
        intro  i   H   locs   ls   fd1 fa hi hm hpts hG hho h_ta h_te h_ba hsz hlow hS h_at hAT hAQ hF hl
        have hfr : FRM (MR mo) H H := FRM.rf
        obtain rfl : i = 12 := by omega
        refine lv_iload_n hx hb d_Model_init_629 rfl (lv_at hl 0 rfl) ?_
        refine lv_bipush (v := nI 12) hx hb d_Model_init_630 (by decide) ?_
        refine lv_icmp_ge (tgt := 651) hx hb d_Model_init_632 (by decide) (fun _ => ?_) (fun h9 => absurd (by decide) h9)
        refine lv_aload_n hx hb d_Model_init_651 rfl (lv_at hl 1 rfl) ?_
        refine lv_iconst (v := nI 0) hx hb d_Model_init_652 (by decide) ?_
        refine q_put (C := "KateDeskModel") (T := T_Model) (N := 14) (ci := 8) (ty := .int) E hm.1 in_Model ty_Model tyok_Model nm_Model rfl 10 (by decide) w_1011 rfl rfl (by decide +kernel) rfl rfl (Nat.le_of_ble_eq_true rfl) na0 hF d_Model_init_653 (fun H1 locs hq ho2 hF => ?_)
        have hm := hm.frm hq (k_m (by decide)) (k_m (by decide)) (k_m (by decide)) (k_m (by decide)) ho2
        have hfr := hfr.tr (hq.mono (fun q h => Or.inl h))
        have hho := hho.off hfr
        have h_ta := h_ta.imp (fun f h => AI.off hfr (k_R6 mo) h)
        have h_te := h_te.imp (fun f h => AI.off hfr (k_R7 mo) h)
        have h_ba := AJ.off hfr (k_R3 mo) h_ba
        have hsz := hfr.1.trans hsz
        have hlow : ∀ q, q < mo → _ := fun q hq9 => (hfr.2 q (k_Rq hq9)).trans (hlow q hq9)
        have h_at := AJ.off hfr (k_R4 mo) h_at
        clear hfr
        exact q_vret E hr hlk (⟨rfl, ⟨fd1, fa, hm, bv_0 hS hpts hG, h_at, hAT, hAQ⟩, hho, h_ta, h_te, hsz, hlow⟩) hF d_Model_init_656
      | succ k ih =>
        intro  i   H   locs   ls   fd1 fa hi hm hpts hG hho h_ta h_te h_ba hsz hlow hS h_at hAT hAQ hF hl
        have hfr : FRM (MR mo) H H := FRM.rf
        refine lv_iload_n hx hb d_Model_init_629 rfl (lv_at hl 0 rfl) ?_
        refine lv_bipush (v := nI 12) hx hb d_Model_init_630 (by decide) ?_
        refine lv_icmp_ge (tgt := 651) hx hb d_Model_init_632 (by decide) (fun h9 => absurd h9 (nI_ge (by omega) (by decide))) (fun _ => ?_)
        refine lv_aload_n hx hb d_Model_init_635 rfl (lv_at hl 1 rfl) ?_
        refine lv_bipush (v := nI 32) hx hb d_Model_init_636 (by decide) ?_
        refine lv_iconst (v := nI 3) hx hb d_Model_init_638 (by decide) ?_
        refine lv_iload_n hx hb d_Model_init_639 rfl (lv_at hl 0 rfl) ?_
        refine lv_imul hx hb d_Model_init_640 ?_
        refine lv_topi (fun t9 e9 => ?_)
        obtain rfl : t9 = nI (3 * i) := e9.trans (pk_mul _ _)
        refine lv_iadd hx hb d_Model_init_641 ?_
        refine lv_topi (fun t9 e9 => ?_)
        obtain rfl : t9 = nI (32 + (3 * i)) := e9.trans (nI_add _ _)
        refine q_cV (rest := []) E (c_Model_nothing l g n0 mo (32 + (3 * i)) 0 0 0 0 0 14 hw0 fd1 (by omega)) w_996 w_15 w_993 w_995 (bw_s 22 rfl) hd_Model_nothing rfl ⟨by decide, by decide⟩ (OB.recv E.2.2.2.2.2 (by rfl) hm.1) hm hF hl.1 rfl (Nat.le_of_ble_eq_true rfl) d_Model_init_642 ⟨by decide, by decide⟩ (qv (fun H1 locs hq hF => ?_))
        obtain ⟨hq, fd_101, hm, hS9, hz1, hone, hz2⟩ := hq
        have hfr := hfr.tr hq
        have hho := hho.off hfr
        have h_ta := h_ta.imp (fun f h => AI.off hfr (k_R6 mo) h)
        have h_te := h_te.imp (fun f h => AI.off hfr (k_R7 mo) h)
        have h_ba := AJ.off hfr (k_R3 mo) h_ba
        have hsz := hfr.1.trans hsz
        have hlow : ∀ q, q < mo → _ := fun q hq9 => (hfr.2 q (k_Rq hq9)).trans (hlow q hq9)
        have h_at := AJ.off hfr (k_R4 mo) h_at
        clear hfr
        have hS := hS.tr (hS9.mono (fun t h => by show (32 ≤ t ∧ t < 68) ∨ 116 ≤ t; omega))
        have hG := And.intro ((hS9.sv (by omega) (by decide)).trans hG.1) (And.intro ((hS9.sv (by omega) (by decide)).trans hG.2.1) ((hS9.sv (by omega) (by decide)).trans hG.2.2))
        refine lv_iinc (k := 0) (v := nI (i + 1)) (lv' := [(1, .int (nI (i + 1))), (0, .ref mo)]) hx hb d_Model_init_645 hl rfl (i_inc i) (by decide) rfl (fun ls hl => ?_)
        refine lv_goto (tgt := 629) hx hb d_Model_init_648 (by decide) ?_
        have hl : lv_has ls 4 [(1, .int (nI (i + 1))), (0, .ref mo)] := lv_sub hl [0, 1] rfl
        exact ih (i + 1) _ _ ls _ fa (by omega) hm (fun k hk1 => by by_cases e : k = i; (rw [e]; exact ⟨hz1, hone 14 (by decide) (by decide), hz2⟩); (have h5 := hpts k (by omega); exact ⟨hS9.z0 (by omega) h5.1, (hS9.sv (by omega) (by decide)).trans h5.2.1, hS9.z0 (by omega) h5.2.2⟩)) hG hho h_ta h_te h_ba hsz hlow hS h_at hAT hAQ hF hl
    have lb : ∀ (k : Nat) (i : Nat) (H : Heap) (locs : List Loc) (ls : Array Slot) (fd1 fa : Nat → Int64), i + k = 14 → MS g n0 H mo 0 0 0 0 0 14 fd1 → (∀ k, k < i → fd1 (1624 + k) = kBa k) → (∀ k, k < i → fd1 (1638 + k) = kBa (14 + k)) → HO g H mo → (∃ f, AI g H (mo + 6) 96 f) → (∃ f, AI g H (mo + 7) 96 f) → AJ g H (mo + 3) 28 kBa → H.size = mo + 9 → (∀ q, q < mo → H[q]? = s.heap[q]?) → SAME (fun _ => (0 : Int64)) fd1 (fun t => (32 ≤ t ∧ t < 68) ∨ 116 ≤ t) → AJ g H (mo + 4) 420 fa → (∀ j, j ≤ 10 → PP 1 10 ∣ VL (fun k => fa (210 * 1 + 14 * j + k)) 10 - 268435456 ^ (10 + j)) → (∀ j, j ≤ 14 → PP 0 14 ∣ VL (fun k => fa (210 * 0 + 14 * j + k)) 14 - 268435456 ^ (14 + j)) → (∀ q ∈ locs, n0 q.base) → lv_has ls 4 [(1, .int (nI i)), (0, .ref mo)] → W p l e { frames := 3, cells := 8, slots := 3304, locals := 75 } s m [.ref mo].toArray below meth c H locs 8 3304 (MQ below (QcP (QV (fun H H' => (∃ fd fa, MS g n0 H' mo 0 0 0 0 0 14 fd ∧ BV9 fd B0 ∧ AJ g H' (mo + 4) 420 fa ∧ (∀ j, j ≤ 10 → PP 1 10 ∣ VL (fun k => fa (210 * 1 + 14 * j + k)) 10 - 268435456 ^ (10 + j)) ∧ (∀ j, j ≤ 14 → PP 0 14 ∣ VL (fun k => fa (210 * 0 + 14 * j + k)) 14 - 268435456 ^ (14 + j))) ∧ HO g H' mo ∧ (∃ f, AI g H' (mo + 6) 96 f) ∧ (∃ f, AI g H' (mo + 7) 96 f) ∧ H'.size = mo + 9 ∧ ∀ q, q < mo → H'[q]? = H[q]?))) [.ref mo].toArray s 8 3304 (fun q => n0 q)) (F0 m 574 ls []) := by
      intro k
      induction k with
      | zero =>
        intro  i   H   locs   ls   fd1 fa hi hm hcx hcy hho h_ta h_te h_ba hsz hlow hS h_at hAT hAQ hF hl
        have hfr : FRM (MR mo) H H := FRM.rf
        obtain rfl : i = 14 := by omega
        refine lv_iload_n hx hb d_Model_init_574 rfl (lv_at hl 0 rfl) ?_
        refine lv_bipush (v := nI 14) hx hb d_Model_init_575 (by decide) ?_
        refine lv_icmp_ge (tgt := 621) hx hb d_Model_init_577 (by decide) (fun _ => ?_) (fun h9 => absurd (by decide) h9)
        refine lv_aload_n hx hb d_Model_init_621 rfl (lv_at hl 1 rfl) ?_
        refine lv_bipush (v := nI 118) hx hb d_Model_init_622 (by decide) ?_
        refine q_cV (rest := []) E (c_Model_one l g n0 mo 118 0 0 0 0 0 14 hw0  fd1 (by omega) ) w_971 w_15 w_968 w_970 (bw_s 16 rfl) hd_Model_one rfl ⟨by decide, by decide⟩ (OB.recv E.2.2.2.2.2 (by rfl) hm.1) hm hF hl.1 rfl (Nat.le_of_ble_eq_true rfl) d_Model_init_624 ⟨by decide, by decide⟩ (qv (fun H1 locs hq hF => ?_))
        obtain ⟨hq, fd_102, hm, hpv⟩ := hq
        have hfr := hfr.tr hq
        have hS := hS.put hpv.1 (by show (32 ≤ _ ∧ _ < 68) ∨ 116 ≤ _; decide)
        refine lv_iconst (v := nI 0) hx hb d_Model_init_627 (by decide) ?_
        refine lv_istore_n (lv' := [(1, .int (nI 0)), (0, .ref mo)]) hx hb d_Model_init_628 rfl hl (by decide) rfl (fun ls hl => ?_)
        have hho := hho.off hfr
        have h_ta := h_ta.imp (fun f h => AI.off hfr (k_R6 mo) h)
        have h_te := h_te.imp (fun f h => AI.off hfr (k_R7 mo) h)
        have h_ba := AJ.off hfr (k_R3 mo) h_ba
        have hsz := hfr.1.trans hsz
        have hlow : ∀ q, q < mo → _ := fun q hq9 => (hfr.2 q (k_Rq hq9)).trans (hlow q hq9)
        have h_at := AJ.off hfr (k_R4 mo) h_at
        clear hfr
        have hl : lv_has ls 4 [(1, .int (nI 0)), (0, .ref mo)] := lv_sub hl [0, 1] rfl
        have hG : SV fd_102 116 14 = 3685416753713387016781088315183077757961620795782546409894578378688607592378376318836054947676345821548104185464507 ∧ SV fd_102 117 14 = 1339506544944476473020471379941921221584933875938349620426543736416511423956333506472724655353366534992391756441569 ∧ SV fd_102 118 14 = 1 := ⟨(VL_ext (fun k hk => (hpv.1 _ (by omega)).trans (hcx k hk))).trans gb_x, (VL_ext (fun k hk => (hpv.1 _ (by omega)).trans (hcy k hk))).trans gb_y, (VL_ext (fun k hk => hpv.2 k hk)).trans one_14⟩
        exact lp 12 0 _ _ ls _ fa (by omega) hm (fun k hk1 => absurd hk1 (Nat.not_lt_zero _)) hG hho h_ta h_te h_ba hsz hlow hS h_at hAT hAQ hF hl
      | succ k ih =>
        intro  i   H   locs   ls   fd1 fa hi hm hcx hcy hho h_ta h_te h_ba hsz hlow hS h_at hAT hAQ hF hl
        have hfr : FRM (MR mo) H H := FRM.rf
        refine lv_iload_n hx hb d_Model_init_574 rfl (lv_at hl 0 rfl) ?_
        refine lv_bipush (v := nI 14) hx hb d_Model_init_575 (by decide) ?_
        refine lv_icmp_ge (tgt := 621) hx hb d_Model_init_577 (by decide) (fun h9 => absurd h9 (nI_ge (by omega) (by decide))) (fun _ => ?_)
        refine lv_aload_n hx hb d_Model_init_580 rfl (lv_at hl 1 rfl) ?_
        refine q_get (C := "KateDeskModel") (T := T_Model) (N := 14) (ci := 8) E hm.1 in_Model rfl 1 (by decide) w_1002 rfl rfl d_Model_init_581 ?_
        refine lv_sipush (v := nI 1624) hx hb d_Model_init_584 (by decide) ?_
        refine lv_iload_n hx hb d_Model_init_587 rfl (lv_at hl 0 rfl) ?_
        refine lv_iadd hx hb d_Model_init_588 ?_
        refine lv_topi (fun t9 e9 => ?_)
        obtain rfl : t9 = nI (1624 + i) := e9.trans (nI_add _ _)
        refine lv_aload_n hx hb d_Model_init_589 rfl (lv_at hl 1 rfl) ?_
        refine q_get (C := "KateDeskModel") (T := T_Model) (N := 14) (ci := 8) E hm.1 in_Model rfl 3 (by decide) w_1004 rfl rfl d_Model_init_590 ?_
        refine lv_iload_n hx hb d_Model_init_593 rfl (lv_at hl 0 rfl) ?_
        have hb9 := AJ.off hfr (k_R3 mo) h_ba
        refine q_lald (N := 28) (f := kBa) E hb9 i rfl (by omega) (by decide) d_Model_init_594 ?_
        have hdv : dg (kBa i) := kBa_dg _ (by omega)
        refine q_last E hm.2.2.2.2.1 hm.2.2.2.2.2.2.1 hF (1624 + i) rfl (by omega) (by decide) d_Model_init_595 (fun H1 locs hq hf2 hF => ?_)
        have hm := hm.step hK (hq.mono (fun q h => Or.inl h)) hf2 ((hm.2.2.2.2.2.1).upd hdv)
        have hfr := hfr.tr (kjR1 hq)
        have hS := hS.put (s := 116) (fd2 := vp_updL _ (1624 + i) (kBa (i))) (fun j hj => pk_uLn (by omega)) (by show (32 ≤ _ ∧ _ < 68) ∨ 116 ≤ _; decide)
        refine lv_aload_n hx hb d_Model_init_596 rfl (lv_at hl 1 rfl) ?_
        refine q_get (C := "KateDeskModel") (T := T_Model) (N := 14) (ci := 8) E hm.1 in_Model rfl 1 (by decide) w_1002 rfl rfl d_Model_init_597 ?_
        refine lv_sipush (v := nI 1638) hx hb d_Model_init_600 (by decide) ?_
        refine lv_iload_n hx hb d_Model_init_603 rfl (lv_at hl 0 rfl) ?_
        refine lv_iadd hx hb d_Model_init_604 ?_
        refine lv_topi (fun t9 e9 => ?_)
        obtain rfl : t9 = nI (1638 + i) := e9.trans (nI_add _ _)
        refine lv_aload_n hx hb d_Model_init_605 rfl (lv_at hl 1 rfl) ?_
        refine q_get (C := "KateDeskModel") (T := T_Model) (N := 14) (ci := 8) E hm.1 in_Model rfl 3 (by decide) w_1004 rfl rfl d_Model_init_606 ?_
        refine lv_bipush (v := nI 14) hx hb d_Model_init_609 (by decide) ?_
        refine lv_iload_n hx hb d_Model_init_611 rfl (lv_at hl 0 rfl) ?_
        refine lv_iadd hx hb d_Model_init_612 ?_
        refine lv_topi (fun t9 e9 => ?_)
        obtain rfl : t9 = nI (14 + i) := e9.trans (nI_add _ _)
        have hb9 := AJ.off hfr (k_R3 mo) h_ba
        refine q_lald (N := 28) (f := kBa) E hb9 (14 + i) rfl (by omega) (by decide) d_Model_init_613 ?_
        have hdv : dg (kBa (14 + i)) := kBa_dg _ (by omega)
        refine q_last E hm.2.2.2.2.1 hm.2.2.2.2.2.2.1 hF (1638 + i) rfl (by omega) (by decide) d_Model_init_614 (fun H2 locs hq hf2 hF => ?_)
        have hm := hm.step hK (hq.mono (fun q h => Or.inl h)) hf2 ((hm.2.2.2.2.2.1).upd hdv)
        have hfr := hfr.tr (kjR1 hq)
        have hS := hS.put (s := 117) (fd2 := vp_updL _ (1638 + i) (kBa (14 + i))) (fun j hj => pk_uLn (by omega)) (by show (32 ≤ _ ∧ _ < 68) ∨ 116 ≤ _; decide)
        have hho := hho.off hfr
        have h_ta := h_ta.imp (fun f h => AI.off hfr (k_R6 mo) h)
        have h_te := h_te.imp (fun f h => AI.off hfr (k_R7 mo) h)
        have h_ba := AJ.off hfr (k_R3 mo) h_ba
        have hsz := hfr.1.trans hsz
        have hlow : ∀ q, q < mo → _ := fun q hq9 => (hfr.2 q (k_Rq hq9)).trans (hlow q hq9)
        have h_at := AJ.off hfr (k_R4 mo) h_at
        clear hfr
        refine lv_iinc (k := 0) (v := nI (i + 1)) (lv' := [(1, .int (nI (i + 1))), (0, .ref mo)]) hx hb d_Model_init_615 hl rfl (i_inc i) (by decide) rfl (fun ls hl => ?_)
        refine lv_goto (tgt := 574) hx hb d_Model_init_618 (by decide) ?_
        have hl : lv_has ls 4 [(1, .int (nI (i + 1))), (0, .ref mo)] := lv_sub hl [0, 1] rfl
        exact ih (i + 1) _ _ ls _ fa (by omega) hm (fun k hk => by rw [pk_uLn (by omega)]; by_cases e : k = i; (rw [e, pk_uLs]); (rw [pk_uLn (by omega)]; exact hcx k (by omega))) (fun k hk => by by_cases e : k = i; (rw [e, pk_uLs]); (rw [pk_uLn (by omega), pk_uLn (by omega)]; exact hcy k (by omega))) hho h_ta h_te h_ba hsz hlow hS h_at hAT hAQ hF hl
    have l1 : ∀ (k : Nat) (j : Nat) (H : Heap) (locs : List Loc) (ls : Array Slot) (fd1 fa : Nat → Int64), j + k = 588 → MS g n0 H mo 0 0 0 0 1 10 fd1 → HO g H mo → (∃ f, AI g H (mo + 6) 96 f) → (∃ f, AI g H (mo + 7) 96 f) → AJ g H (mo + 3) 28 kBa → H.size = mo + 9 → (∀ q, q < mo → H[q]? = s.heap[q]?) → SAME (fun _ => (0 : Int64)) fd1 (fun t => (32 ≤ t ∧ t < 68) ∨ 116 ≤ t) → AJ g H (mo + 4) 420 fa → (∀ i, i ≤ 10 → 28 * (10 + i) < j → PP 1 10 ∣ VL (fun k => fa (210 * 1 + 14 * i + k)) 10 - 268435456 ^ (10 + i)) → SV fd1 120 10 = 2 ^ j % RI → (∀ j, j ≤ 14 → PP 0 14 ∣ VL (fun k => fa (210 * 0 + 14 * j + k)) 14 - 268435456 ^ (14 + j)) → (∀ q ∈ locs, n0 q.base) → lv_has ls 4 [(2, .int (nI j)), (1, .int (nI 1)), (0, .ref mo)] → W p l e { frames := 3, cells := 8, slots := 3304, locals := 75 } s m [.ref mo].toArray below meth c H locs 8 3304 (MQ below (QcP (QV (fun H H' => (∃ fd fa, MS g n0 H' mo 0 0 0 0 0 14 fd ∧ BV9 fd B0 ∧ AJ g H' (mo + 4) 420 fa ∧ (∀ j, j ≤ 10 → PP 1 10 ∣ VL (fun k => fa (210 * 1 + 14 * j + k)) 10 - 268435456 ^ (10 + j)) ∧ (∀ j, j ≤ 14 → PP 0 14 ∣ VL (fun k => fa (210 * 0 + 14 * j + k)) 14 - 268435456 ^ (14 + j))) ∧ HO g H' mo ∧ (∃ f, AI g H' (mo + 6) 96 f) ∧ (∃ f, AI g H' (mo + 7) 96 f) ∧ H'.size = mo + 9 ∧ ∀ q, q < mo → H'[q]? = H[q]?))) [.ref mo].toArray s 8 3304 (fun q => n0 q)) (F0 m 461 ls []) := by
      intro k
      induction k with
      | zero =>
        intro  j   H   locs   ls   fd1 fa hi hm hho h_ta h_te h_ba hsz hlow hS h_at hAj h120 hAQ hF hl
        have hfr : FRM (MR mo) H H := FRM.rf
        obtain rfl : j = 588 := by omega
        refine lv_iload_n hx hb d_Model_init_461 rfl (lv_at hl 0 rfl) ?_
        refine lv_bipush (v := nI 28) hx hb d_Model_init_462 (by decide) ?_
        refine lv_iconst (v := nI 2) hx hb d_Model_init_464 (by decide) ?_
        refine lv_aload_n hx hb d_Model_init_465 rfl (lv_at hl 2 rfl) ?_
        refine q_get (C := "KateDeskModel") (T := T_Model) (N := 14) (ci := 8) E hm.1 in_Model rfl 7 (by decide) w_1008 rfl rfl d_Model_init_466 ?_
        refine lv_imul hx hb d_Model_init_469 ?_
        refine lv_topi (fun t9 e9 => ?_)
        obtain rfl : t9 = nI (2 * 10) := e9.trans (pk_mul _ _)
        refine lv_iconst (v := nI 1) hx hb d_Model_init_470 (by decide) ?_
        refine lv_iadd hx hb d_Model_init_471 ?_
        refine lv_topi (fun t9 e9 => ?_)
        obtain rfl : t9 = nI ((2 * 10) + 1) := e9.trans (nI_add _ _)
        refine lv_imul hx hb d_Model_init_472 ?_
        refine lv_topi (fun t9 e9 => ?_)
        obtain rfl : t9 = nI (28 * ((2 * 10) + 1)) := e9.trans (pk_mul _ _)
        refine lv_icmp_ge (tgt := 561) hx hb d_Model_init_473 (by decide) (fun _ => ?_) (fun h9 => absurd (by decide) h9)
        refine lv_iinc (k := 1) (v := nI 2) (lv' := [(1, .int (nI 2)), (2, .int (nI 588)), (0, .ref mo)]) hx hb d_Model_init_561 hl rfl (by decide) (by decide) rfl (fun ls hl => ?_)
        refine lv_goto (tgt := 443) hx hb d_Model_init_564 (by decide) ?_
        refine lv_iload_n hx hb d_Model_init_443 rfl (lv_at hl 0 rfl) ?_
        refine lv_iconst (v := nI 2) hx hb d_Model_init_444 (by decide) ?_
        refine lv_icmp_ge (tgt := 567) hx hb d_Model_init_445 (by decide) (fun _ => ?_) (fun h9 => absurd (by decide) h9)
        refine lv_aload_n hx hb d_Model_init_567 rfl (lv_at hl 2 rfl) ?_
        refine lv_iconst (v := nI 0) hx hb d_Model_init_568 (by decide) ?_
        refine q_cV (rest := []) E (c_Model_use l g n0 mo 0 0 0 0 1 10 hw1 0 14 hw0 fd1 na0) w_967 w_15 w_964 w_966 (bw_s 15 rfl) hd_Model_use rfl ⟨by decide, by decide⟩ (OB.recv E.2.2.2.2.2 (by rfl) hm.1) hm hF hl.1 rfl (Nat.le_of_ble_eq_true rfl) d_Model_init_569 ⟨by decide, by decide⟩ (qv (fun H1 locs hq hF => ?_))
        obtain ⟨hq, hm⟩ := hq
        have hfr := hfr.tr hq
        refine lv_iconst (v := nI 0) hx hb d_Model_init_572 (by decide) ?_
        refine lv_istore_n (lv' := [(1, .int (nI 0)), (2, .int (nI 588)), (0, .ref mo)]) hx hb d_Model_init_573 rfl hl (by decide) rfl (fun ls hl => ?_)
        have hho := hho.off hfr
        have h_ta := h_ta.imp (fun f h => AI.off hfr (k_R6 mo) h)
        have h_te := h_te.imp (fun f h => AI.off hfr (k_R7 mo) h)
        have h_ba := AJ.off hfr (k_R3 mo) h_ba
        have hsz := hfr.1.trans hsz
        have hlow : ∀ q, q < mo → _ := fun q hq9 => (hfr.2 q (k_Rq hq9)).trans (hlow q hq9)
        have h_at := AJ.off hfr (k_R4 mo) h_at
        clear hfr
        have hl : lv_has ls 4 [(1, .int (nI 0)), (0, .ref mo)] := lv_sub hl [0, 2] rfl
        exact lb 14 0 _ _ ls _ fa (by omega) hm (fun k hk => absurd hk (Nat.not_lt_zero _)) (fun k hk => absurd hk (Nat.not_lt_zero _)) hho h_ta h_te h_ba hsz hlow hS h_at (fun i hi => hAj i hi (by omega)) hAQ hF hl
      | succ k ih =>
        intro  j   H   locs   ls   fd1 fa hi hm hho h_ta h_te h_ba hsz hlow hS h_at hAj h120 hAQ hF hl
        have s545 : ∀ (H : Heap) (locs : List Loc) (ls : Array Slot) (fd1 fa : Nat → Int64), MS g n0 H mo 0 0 0 0 1 10 fd1 → HO g H mo → (∃ f, AI g H (mo + 6) 96 f) → (∃ f, AI g H (mo + 7) 96 f) → AJ g H (mo + 3) 28 kBa → H.size = mo + 9 → (∀ q, q < mo → H[q]? = s.heap[q]?) → SAME (fun _ => (0 : Int64)) fd1 (fun t => (32 ≤ t ∧ t < 68) ∨ 116 ≤ t) → AJ g H (mo + 4) 420 fa → (∀ i, i ≤ 10 → 28 * (10 + i) ≤ j → PP 1 10 ∣ VL (fun k => fa (210 * 1 + 14 * i + k)) 10 - 268435456 ^ (10 + i)) → SV fd1 120 10 = 2 ^ j % RI → (∀ j, j ≤ 14 → PP 0 14 ∣ VL (fun k => fa (210 * 0 + 14 * j + k)) 14 - 268435456 ^ (14 + j)) → (∀ q ∈ locs, n0 q.base) → lv_has ls 4 [(2, .int (nI j)), (1, .int (nI 1)), (0, .ref mo)] → W p l e { frames := 3, cells := 8, slots := 3304, locals := 75 } s m [.ref mo].toArray below meth c H locs 8 3304 (MQ below (QcP (QV (fun H H' => (∃ fd fa, MS g n0 H' mo 0 0 0 0 0 14 fd ∧ BV9 fd B0 ∧ AJ g H' (mo + 4) 420 fa ∧ (∀ j, j ≤ 10 → PP 1 10 ∣ VL (fun k => fa (210 * 1 + 14 * j + k)) 10 - 268435456 ^ (10 + j)) ∧ (∀ j, j ≤ 14 → PP 0 14 ∣ VL (fun k => fa (210 * 0 + 14 * j + k)) 14 - 268435456 ^ (14 + j))) ∧ HO g H' mo ∧ (∃ f, AI g H' (mo + 6) 96 f) ∧ (∃ f, AI g H' (mo + 7) 96 f) ∧ H'.size = mo + 9 ∧ ∀ q, q < mo → H'[q]? = H[q]?))) [.ref mo].toArray s 8 3304 (fun q => n0 q)) (F0 m 545 ls []) := by
          intro  H   locs   ls   fd1 fa hm hho h_ta h_te h_ba hsz hlow hS h_at hAj h120 hAQ hF hl
          have hfr : FRM (MR mo) H H := FRM.rf
          refine lv_aload_n hx hb d_Model_init_545 rfl (lv_at hl 2 rfl) ?_
          refine lv_bipush (v := nI 120) hx hb d_Model_init_546 (by decide) ?_
          refine lv_bipush (v := nI 120) hx hb d_Model_init_548 (by decide) ?_
          refine lv_bipush (v := nI 120) hx hb d_Model_init_550 (by decide) ?_
          refine q_cV (rest := []) E (c_Model_add l g n0 mo 120 120 120 0 0 0 0 1 10 hw1  fd1 (by omega) (by omega) (by omega) ) w_975 w_15 w_972 w_974 (bw_s 17 rfl) hd_Model_add rfl ⟨by decide, by decide⟩ (OB.recv E.2.2.2.2.2 (by rfl) hm.1) hm hF hl.1 rfl (Nat.le_of_ble_eq_true rfl) d_Model_init_552 ⟨by decide, by decide⟩ (qv (fun H1 locs hq hF => ?_))
          obtain ⟨hq, fd_103, hm, hpv, hv⟩ := hq
          have hfr := hfr.tr (kjR hq)
          have hS := hS.put hpv.1 (by show (32 ≤ _ ∧ _ < 68) ∨ 116 ≤ _; decide)
          have h120 := tb_db h120 hv
          have hho := hho.off hfr
          have h_ta := h_ta.imp (fun f h => AI.off hfr (k_R6 mo) h)
          have h_te := h_te.imp (fun f h => AI.off hfr (k_R7 mo) h)
          have h_ba := AJ.off hfr (k_R3 mo) h_ba
          have hsz := hfr.1.trans hsz
          have hlow : ∀ q, q < mo → _ := fun q hq9 => (hfr.2 q (k_Rq hq9)).trans (hlow q hq9)
          have h_at := AJ.off hfr (k_R4 mo) h_at
          clear hfr
          refine lv_iinc (k := 0) (v := nI (j + 1)) (lv' := [(2, .int (nI (j + 1))), (1, .int (nI 1)), (0, .ref mo)]) hx hb d_Model_init_555 hl rfl (i_inc j) (by decide) rfl (fun ls hl => ?_)
          refine lv_goto (tgt := 461) hx hb d_Model_init_558 (by decide) ?_
          have hl : lv_has ls 4 [(2, .int (nI (j + 1))), (1, .int (nI 1)), (0, .ref mo)] := lv_sub hl [0, 1, 2] rfl
          exact ih (j + 1) _ _ ls _ fa (by omega) hm hho h_ta h_te h_ba hsz hlow hS h_at (fun i hi h => hAj i hi (by omega)) h120 hAQ hF hl
        have hfr : FRM (MR mo) H H := FRM.rf
        refine lv_iload_n hx hb d_Model_init_461 rfl (lv_at hl 0 rfl) ?_
        refine lv_bipush (v := nI 28) hx hb d_Model_init_462 (by decide) ?_
        refine lv_iconst (v := nI 2) hx hb d_Model_init_464 (by decide) ?_
        refine lv_aload_n hx hb d_Model_init_465 rfl (lv_at hl 2 rfl) ?_
        refine q_get (C := "KateDeskModel") (T := T_Model) (N := 14) (ci := 8) E hm.1 in_Model rfl 7 (by decide) w_1008 rfl rfl d_Model_init_466 ?_
        refine lv_imul hx hb d_Model_init_469 ?_
        refine lv_topi (fun t9 e9 => ?_)
        obtain rfl : t9 = nI (2 * 10) := e9.trans (pk_mul _ _)
        refine lv_iconst (v := nI 1) hx hb d_Model_init_470 (by decide) ?_
        refine lv_iadd hx hb d_Model_init_471 ?_
        refine lv_topi (fun t9 e9 => ?_)
        obtain rfl : t9 = nI ((2 * 10) + 1) := e9.trans (nI_add _ _)
        refine lv_imul hx hb d_Model_init_472 ?_
        refine lv_topi (fun t9 e9 => ?_)
        obtain rfl : t9 = nI (28 * ((2 * 10) + 1)) := e9.trans (pk_mul _ _)
        refine lv_icmp_ge (tgt := 561) hx hb d_Model_init_473 (by decide) (fun h9 => absurd h9 (nI_ge (by omega) (by decide))) (fun _ => ?_)
        refine lv_iload_n hx hb d_Model_init_476 rfl (lv_at hl 0 rfl) ?_
        refine lv_bipush (v := nI 28) hx hb d_Model_init_477 (by decide) ?_
        refine lv_aload_n hx hb d_Model_init_479 rfl (lv_at hl 2 rfl) ?_
        refine q_get (C := "KateDeskModel") (T := T_Model) (N := 14) (ci := 8) E hm.1 in_Model rfl 7 (by decide) w_1008 rfl rfl d_Model_init_480 ?_
        refine lv_imul hx hb d_Model_init_483 ?_
        refine lv_topi (fun t9 e9 => ?_)
        obtain rfl : t9 = nI (28 * 10) := e9.trans (pk_mul _ _)
        refine lv_icmp_lt (tgt := 545) hx hb d_Model_init_484 (by decide) (fun hc => ?_) (fun hc => ?_)
        rotate_left
        · skip
          have hj2 : 280 ≤ j := by rcases Nat.lt_or_ge j 280 with h | h; exact absurd (nI_lt h (by decide)) hc; exact h
          refine lv_iload_n hx hb d_Model_init_487 rfl (lv_at hl 0 rfl) ?_
          refine lv_bipush (v := nI 28) hx hb d_Model_init_488 (by decide) ?_
          refine lv_irem hx hb d_Model_init_490 (by decide) ?_
          refine lv_if_ne (tgt := 545) hx hb d_Model_init_491 (by decide) (fun hr => ?_) (fun hr => ?_)
          rotate_left
          · skip
            have hr0 : j % 28 = 0 := (r28 (by omega)).mp hr
            refine lv_iconst (v := nI 0) hx hb d_Model_init_494 (by decide) ?_
            refine lv_istore_n (lv' := [(3, .int (nI 0)), (2, .int (nI j)), (1, .int (nI 1)), (0, .ref mo)]) hx hb d_Model_init_495 rfl hl (by decide) rfl (fun ls hl => ?_)
            have hl : lv_has ls 4 [(3, .int (nI 0)), (2, .int (nI j)), (1, .int (nI 1)), (0, .ref mo)] := lv_sub hl [0, 1, 2, 3] rfl
            have inner : ∀ (k2 : Nat) (m9 : Nat) (H : Heap) (locs : List Loc) (ls : Array Slot) (fd1 fa : Nat → Int64), m9 + k2 = 10 → MS g n0 H mo 0 0 0 0 1 10 fd1 → HO g H mo → (∃ f, AI g H (mo + 6) 96 f) → (∃ f, AI g H (mo + 7) 96 f) → AJ g H (mo + 3) 28 kBa → H.size = mo + 9 → (∀ q, q < mo → H[q]? = s.heap[q]?) → SAME (fun _ => (0 : Int64)) fd1 (fun t => (32 ≤ t ∧ t < 68) ∨ 116 ≤ t) → AJ g H (mo + 4) 420 fa → (∀ i, i ≤ 10 → 28 * (10 + i) < j → PP 1 10 ∣ VL (fun k => fa (210 * 1 + 14 * i + k)) 10 - 268435456 ^ (10 + i)) → (∀ k, k < m9 → fa (210 * 1 + 14 * (j / 28 - 10) + k) = fd1 (1680 + k)) → SV fd1 120 10 = 2 ^ j % RI → (∀ j, j ≤ 14 → PP 0 14 ∣ VL (fun k => fa (210 * 0 + 14 * j + k)) 14 - 268435456 ^ (14 + j)) → (∀ q ∈ locs, n0 q.base) → lv_has ls 4 [(3, .int (nI m9)), (2, .int (nI j)), (1, .int (nI 1)), (0, .ref mo)] → W p l e { frames := 3, cells := 8, slots := 3304, locals := 75 } s m [.ref mo].toArray below meth c H locs 8 3304 (MQ below (QcP (QV (fun H H' => (∃ fd fa, MS g n0 H' mo 0 0 0 0 0 14 fd ∧ BV9 fd B0 ∧ AJ g H' (mo + 4) 420 fa ∧ (∀ j, j ≤ 10 → PP 1 10 ∣ VL (fun k => fa (210 * 1 + 14 * j + k)) 10 - 268435456 ^ (10 + j)) ∧ (∀ j, j ≤ 14 → PP 0 14 ∣ VL (fun k => fa (210 * 0 + 14 * j + k)) 14 - 268435456 ^ (14 + j))) ∧ HO g H' mo ∧ (∃ f, AI g H' (mo + 6) 96 f) ∧ (∃ f, AI g H' (mo + 7) 96 f) ∧ H'.size = mo + 9 ∧ ∀ q, q < mo → H'[q]? = H[q]?))) [.ref mo].toArray s 8 3304 (fun q => n0 q)) (F0 m 496 ls []) := by
              intro k2
              induction k2 with
              | zero =>
                intro  m9   H   locs   ls   fd1 fa hi9 hm hho h_ta h_te h_ba hsz hlow hS h_at hAj hcp h120 hAQ hF hl
                have hfr : FRM (MR mo) H H := FRM.rf
                obtain rfl : m9 = 10 := by omega
                refine lv_iload_n hx hb d_Model_init_496 rfl (lv_at hl 0 rfl) ?_
                refine lv_aload_n hx hb d_Model_init_497 rfl (lv_at hl 3 rfl) ?_
                refine q_get (C := "KateDeskModel") (T := T_Model) (N := 14) (ci := 8) E hm.1 in_Model rfl 7 (by decide) w_1008 rfl rfl d_Model_init_498 ?_
                refine lv_icmp_ge (tgt := 545) hx hb d_Model_init_501 (by decide) (fun _ => ?_) (fun h9 => absurd (by decide) h9)
                have hl : lv_has ls 4 [(2, .int (nI j)), (1, .int (nI 1)), (0, .ref mo)] := lv_sub hl [1, 2, 3] rfl
                have hAl : (∀ i, i ≤ 10 → 28 * (10 + i) ≤ j → PP 1 10 ∣ VL (fun k => fa (210 * 1 + 14 * i + k)) 10 - 268435456 ^ (10 + i)) := by
                  intro i hi h
                  by_cases e : 28 * (10 + i) < j
                  · exact hAj i hi e
                  · have e2 : j / 28 - 10 = i := by omega
                    rw [e2] at hcp
                    exact tb_row ((VL_ext (fun k hk => hcp k hk)).trans h120) (by omega)
                exact s545 _ _ ls _ fa hm hho h_ta h_te h_ba hsz hlow hS h_at hAl h120 hAQ hF hl
              | succ k2 ih2 =>
                intro  m9   H   locs   ls   fd1 fa hi9 hm hho h_ta h_te h_ba hsz hlow hS h_at hAj hcp h120 hAQ hF hl
                have hfr : FRM (MR mo) H H := FRM.rf
                refine lv_iload_n hx hb d_Model_init_496 rfl (lv_at hl 0 rfl) ?_
                refine lv_aload_n hx hb d_Model_init_497 rfl (lv_at hl 3 rfl) ?_
                refine q_get (C := "KateDeskModel") (T := T_Model) (N := 14) (ci := 8) E hm.1 in_Model rfl 7 (by decide) w_1008 rfl rfl d_Model_init_498 ?_
                refine lv_icmp_ge (tgt := 545) hx hb d_Model_init_501 (by decide) (fun h9 => absurd h9 (nI_ge (by omega) (by decide))) (fun _ => ?_)
                refine lv_aload_n hx hb d_Model_init_504 rfl (lv_at hl 3 rfl) ?_
                refine q_get (C := "KateDeskModel") (T := T_Model) (N := 14) (ci := 8) E hm.1 in_Model rfl 4 (by decide) w_1005 rfl rfl d_Model_init_505 ?_
                refine lv_sipush (v := nI 210) hx hb d_Model_init_508 (by decide) ?_
                refine lv_iload_n hx hb d_Model_init_511 rfl (lv_at hl 2 rfl) ?_
                refine lv_imul hx hb d_Model_init_512 ?_
                refine lv_topi (fun t9 e9 => ?_)
                obtain rfl : t9 = nI (210 * 1) := e9.trans (pk_mul _ _)
                refine lv_bipush (v := nI 14) hx hb d_Model_init_513 (by decide) ?_
                refine lv_iload_n hx hb d_Model_init_515 rfl (lv_at hl 1 rfl) ?_
                refine lv_bipush (v := nI 28) hx hb d_Model_init_516 (by decide) ?_
                refine lv_idiv hx hb d_Model_init_518 (by decide) ?_
                refine lv_topi (fun t9 e9 => ?_)
                obtain rfl : t9 = nI (j / 28) := e9.trans (pk_div (by omega) (by decide) (by decide))
                refine lv_aload_n hx hb d_Model_init_519 rfl (lv_at hl 3 rfl) ?_
                refine q_get (C := "KateDeskModel") (T := T_Model) (N := 14) (ci := 8) E hm.1 in_Model rfl 7 (by decide) w_1008 rfl rfl d_Model_init_520 ?_
                refine lv_isub hx hb d_Model_init_523 ?_
                refine lv_topi (fun t9 e9 => ?_)
                obtain rfl : t9 = nI (j / 28 - 10) := e9.trans (pk_sub (by omega))
                refine lv_imul hx hb d_Model_init_524 ?_
                refine lv_topi (fun t9 e9 => ?_)
                obtain rfl : t9 = nI (14 * (j / 28 - 10)) := e9.trans (pk_mul _ _)
                refine lv_iadd hx hb d_Model_init_525 ?_
                refine lv_topi (fun t9 e9 => ?_)
                obtain rfl : t9 = nI ((210 * 1) + (14 * (j / 28 - 10))) := e9.trans (nI_add _ _)
                refine lv_iload_n hx hb d_Model_init_526 rfl (lv_at hl 0 rfl) ?_
                refine lv_iadd hx hb d_Model_init_527 ?_
                refine lv_topi (fun t9 e9 => ?_)
                obtain rfl : t9 = nI (((210 * 1) + (14 * (j / 28 - 10))) + m9) := e9.trans (nI_add _ _)
                refine lv_aload_n hx hb d_Model_init_528 rfl (lv_at hl 3 rfl) ?_
                refine q_get (C := "KateDeskModel") (T := T_Model) (N := 14) (ci := 8) E hm.1 in_Model rfl 1 (by decide) w_1002 rfl rfl d_Model_init_529 ?_
                refine lv_sipush (v := nI 1680) hx hb d_Model_init_532 (by decide) ?_
                refine lv_iload_n hx hb d_Model_init_535 rfl (lv_at hl 0 rfl) ?_
                refine lv_iadd hx hb d_Model_init_536 ?_
                refine lv_topi (fun t9 e9 => ?_)
                obtain rfl : t9 = nI (1680 + m9) := e9.trans (nI_add _ _)
                refine q_lald (N := 2380) (f := fd1) E hm.2.2.2.2.1 (1680 + m9) rfl (by omega) (by decide) d_Model_init_537 ?_
                have hdv := hm.2.2.2.2.2.1 (1680 + m9) (by omega)
                have hfd : ∀ k, k < 420 → dg (fa k) := by
                  obtain ⟨fa9, hfa9, hfd9⟩ := hm.2.2.1
                  exact fun k hk => by rw [(h_at.same hfa9).2 k hk]; exact hfd9 k hk
                refine q_last E h_at na4 hF (210 * 1 + 14 * (j / 28 - 10) + m9) rfl (by omega) (by decide) d_Model_init_538 (fun H1 locs hq hf2 hF => ?_)
                have hm := hm.above hK hq hf2 (fun k hk1 => by by_cases e : k = 210 * 1 + 14 * (j / 28 - 10) + m9; (rw [e, pk_uLs]; exact hdv); (rw [pk_uLn e]; exact hfd k hk1))
                have hq := hq.frm
                have hho : HO g H1 mo := by obtain ⟨f, h1, h2⟩ := hho; exact ⟨f, AJ.off hq (k_ne (by decide)) h1, h2⟩
                have h_ta := h_ta.imp (fun f h => AI.off hq (k_ne (by decide)) h)
                have h_te := h_te.imp (fun f h => AI.off hq (k_ne (by decide)) h)
                have h_ba := AJ.off hq (k_ne (by decide)) h_ba
                have hsz := hq.1.trans hsz
                have hlow : ∀ q, q < mo → _ := fun q hq9 => (hq.2 q (k_q hq9)).trans (hlow q hq9)
                clear hq
                refine lv_iinc (k := 0) (v := nI (m9 + 1)) (lv' := [(3, .int (nI (m9 + 1))), (2, .int (nI j)), (1, .int (nI 1)), (0, .ref mo)]) hx hb d_Model_init_539 hl rfl (i_inc m9) (by decide) rfl (fun ls hl => ?_)
                refine lv_goto (tgt := 496) hx hb d_Model_init_542 (by decide) ?_
                have hl : lv_has ls 4 [(3, .int (nI (m9 + 1))), (2, .int (nI j)), (1, .int (nI 1)), (0, .ref mo)] := lv_sub hl [0, 1, 2, 3] rfl
                have hAj2 : ∀ i, i ≤ 10 → 28 * (10 + i) < j → PP 1 10 ∣ VL (fun k => vp_updL fa (210 * 1 + 14 * (j / 28 - 10) + m9) (fd1 (1680 + m9)) (210 * 1 + 14 * i + k)) 10 - 268435456 ^ (10 + i) := by
                  intro i hi h
                  have h9 := hAj i hi h
                  rw [VL_ext (f := fun k => vp_updL fa (210 * 1 + 14 * (j / 28 - 10) + m9) (fd1 (1680 + m9)) (210 * 1 + 14 * i + k)) (h := fun k => fa (210 * 1 + 14 * i + k)) (fun k hk => pk_uLn (tb_ix h hk (by omega) hr0))]
                  exact h9
                have hAQ2 : ∀ i, i ≤ 14 → PP 0 14 ∣ VL (fun k => vp_updL fa (210 * 1 + 14 * (j / 28 - 10) + m9) (fd1 (1680 + m9)) (210 * 0 + 14 * i + k)) 14 - 268435456 ^ (14 + i) := by
                  intro i hi
                  have h9 := hAQ i hi
                  rw [VL_ext (f := fun k => vp_updL fa (210 * 1 + 14 * (j / 28 - 10) + m9) (fd1 (1680 + m9)) (210 * 0 + 14 * i + k)) (h := fun k => fa (210 * 0 + 14 * i + k)) (fun k hk => pk_uLn (by omega))]
                  exact h9
                exact ih2 (m9 + 1) _ _ ls _ _ (by omega) hm hho h_ta h_te h_ba hsz hlow hS hf2 hAj2 (fun k hk => by by_cases e : k = m9; (rw [e, pk_uLs]); (rw [pk_uLn (by omega)]; exact hcp k (by omega))) h120 hAQ2 hF hl
            exact inner 10 0 _ _ ls _ fa (by omega) hm hho h_ta h_te h_ba hsz hlow hS h_at hAj (fun k hk => absurd hk (Nat.not_lt_zero _)) h120 hAQ hF hl
          have hl : lv_has ls 4 [(2, .int (nI j)), (1, .int (nI 1)), (0, .ref mo)] := lv_sub hl [0, 1, 2] rfl
          have hr0 : ¬ j % 28 = 0 := fun e => hr ((r28 (by omega)).mpr e)
          exact s545 _ _ ls _ fa hm hho h_ta h_te h_ba hsz hlow hS h_at (fun i hi h => hAj i hi (by omega)) h120 hAQ hF hl
        have hl : lv_has ls 4 [(2, .int (nI j)), (1, .int (nI 1)), (0, .ref mo)] := lv_sub hl [0, 1, 2] rfl
        have hj2 : j < 280 := by rcases Nat.lt_or_ge j 280 with h | h; exact h; exact absurd hc (nI_nlt h (by omega))
        exact s545 _ _ ls _ fa hm hho h_ta h_te h_ba hsz hlow hS h_at (fun i hi h => absurd h (by omega)) h120 hAQ hF hl
    have l0 : ∀ (k : Nat) (j : Nat) (H : Heap) (locs : List Loc) (ls : Array Slot) (fd1 fa : Nat → Int64), j + k = 812 → MS g n0 H mo 0 0 0 0 0 14 fd1 → HO g H mo → (∃ f, AI g H (mo + 6) 96 f) → (∃ f, AI g H (mo + 7) 96 f) → AJ g H (mo + 3) 28 kBa → H.size = mo + 9 → (∀ q, q < mo → H[q]? = s.heap[q]?) → SAME (fun _ => (0 : Int64)) fd1 (fun t => (32 ≤ t ∧ t < 68) ∨ 116 ≤ t) → AJ g H (mo + 4) 420 fa → (∀ i, i ≤ 14 → 28 * (14 + i) < j → PP 0 14 ∣ VL (fun k => fa (210 * 0 + 14 * i + k)) 14 - 268435456 ^ (14 + i)) → SV fd1 120 14 = 2 ^ j % QJ → (∀ q ∈ locs, n0 q.base) → lv_has ls 4 [(2, .int (nI j)), (1, .int (nI 0)), (0, .ref mo)] → W p l e { frames := 3, cells := 8, slots := 3304, locals := 75 } s m [.ref mo].toArray below meth c H locs 8 3304 (MQ below (QcP (QV (fun H H' => (∃ fd fa, MS g n0 H' mo 0 0 0 0 0 14 fd ∧ BV9 fd B0 ∧ AJ g H' (mo + 4) 420 fa ∧ (∀ j, j ≤ 10 → PP 1 10 ∣ VL (fun k => fa (210 * 1 + 14 * j + k)) 10 - 268435456 ^ (10 + j)) ∧ (∀ j, j ≤ 14 → PP 0 14 ∣ VL (fun k => fa (210 * 0 + 14 * j + k)) 14 - 268435456 ^ (14 + j))) ∧ HO g H' mo ∧ (∃ f, AI g H' (mo + 6) 96 f) ∧ (∃ f, AI g H' (mo + 7) 96 f) ∧ H'.size = mo + 9 ∧ ∀ q, q < mo → H'[q]? = H[q]?))) [.ref mo].toArray s 8 3304 (fun q => n0 q)) (F0 m 461 ls []) := by
      intro k
      induction k with
      | zero =>
        intro  j   H   locs   ls   fd1 fa hi hm hho h_ta h_te h_ba hsz hlow hS h_at hAj h120 hF hl
        have hfr : FRM (MR mo) H H := FRM.rf
        obtain rfl : j = 812 := by omega
        refine lv_iload_n hx hb d_Model_init_461 rfl (lv_at hl 0 rfl) ?_
        refine lv_bipush (v := nI 28) hx hb d_Model_init_462 (by decide) ?_
        refine lv_iconst (v := nI 2) hx hb d_Model_init_464 (by decide) ?_
        refine lv_aload_n hx hb d_Model_init_465 rfl (lv_at hl 2 rfl) ?_
        refine q_get (C := "KateDeskModel") (T := T_Model) (N := 14) (ci := 8) E hm.1 in_Model rfl 7 (by decide) w_1008 rfl rfl d_Model_init_466 ?_
        refine lv_imul hx hb d_Model_init_469 ?_
        refine lv_topi (fun t9 e9 => ?_)
        obtain rfl : t9 = nI (2 * 14) := e9.trans (pk_mul _ _)
        refine lv_iconst (v := nI 1) hx hb d_Model_init_470 (by decide) ?_
        refine lv_iadd hx hb d_Model_init_471 ?_
        refine lv_topi (fun t9 e9 => ?_)
        obtain rfl : t9 = nI ((2 * 14) + 1) := e9.trans (nI_add _ _)
        refine lv_imul hx hb d_Model_init_472 ?_
        refine lv_topi (fun t9 e9 => ?_)
        obtain rfl : t9 = nI (28 * ((2 * 14) + 1)) := e9.trans (pk_mul _ _)
        refine lv_icmp_ge (tgt := 561) hx hb d_Model_init_473 (by decide) (fun _ => ?_) (fun h9 => absurd (by decide) h9)
        refine lv_iinc (k := 1) (v := nI 1) (lv' := [(1, .int (nI 1)), (2, .int (nI 812)), (0, .ref mo)]) hx hb d_Model_init_561 hl rfl (by decide) (by decide) rfl (fun ls hl => ?_)
        refine lv_goto (tgt := 443) hx hb d_Model_init_564 (by decide) ?_
        refine lv_iload_n hx hb d_Model_init_443 rfl (lv_at hl 0 rfl) ?_
        refine lv_iconst (v := nI 2) hx hb d_Model_init_444 (by decide) ?_
        refine lv_icmp_ge (tgt := 567) hx hb d_Model_init_445 (by decide) (fun h9 => absurd h9 (by decide)) (fun _ => ?_)
        refine lv_aload_n hx hb d_Model_init_448 rfl (lv_at hl 2 rfl) ?_
        refine lv_iload_n hx hb d_Model_init_449 rfl (lv_at hl 0 rfl) ?_
        refine q_cV (rest := []) E (c_Model_use l g n0 mo 0 0 0 0 0 14 hw0 1 10 hw1 fd1 na0) w_967 w_15 w_964 w_966 (bw_s 15 rfl) hd_Model_use rfl ⟨by decide, by decide⟩ (OB.recv E.2.2.2.2.2 (by rfl) hm.1) hm hF hl.1 rfl (Nat.le_of_ble_eq_true rfl) d_Model_init_450 ⟨by decide, by decide⟩ (qv (fun H1 locs hq hF => ?_))
        obtain ⟨hq, hm⟩ := hq
        have hfr := hfr.tr hq
        refine lv_aload_n hx hb d_Model_init_453 rfl (lv_at hl 2 rfl) ?_
        refine lv_bipush (v := nI 120) hx hb d_Model_init_454 (by decide) ?_
        refine q_cV (rest := []) E (c_Model_one l g n0 mo 120 0 0 0 0 1 10 hw1  fd1 (by omega) ) w_971 w_15 w_968 w_970 (bw_s 16 rfl) hd_Model_one rfl ⟨by decide, by decide⟩ (OB.recv E.2.2.2.2.2 (by rfl) hm.1) hm hF hl.1 rfl (Nat.le_of_ble_eq_true rfl) d_Model_init_456 ⟨by decide, by decide⟩ (qv (fun H2 locs hq hF => ?_))
        obtain ⟨hq, fd_104, hm, hpv⟩ := hq
        have hfr := hfr.tr hq
        have hS := hS.put hpv.1 (by show (32 ≤ _ ∧ _ < 68) ∨ 116 ≤ _; decide)
        refine lv_iconst (v := nI 0) hx hb d_Model_init_459 (by decide) ?_
        refine lv_istore_n (lv' := [(2, .int (nI 0)), (1, .int (nI 1)), (0, .ref mo)]) hx hb d_Model_init_460 rfl hl (by decide) rfl (fun ls hl => ?_)
        have hho := hho.off hfr
        have h_ta := h_ta.imp (fun f h => AI.off hfr (k_R6 mo) h)
        have h_te := h_te.imp (fun f h => AI.off hfr (k_R7 mo) h)
        have h_ba := AJ.off hfr (k_R3 mo) h_ba
        have hsz := hfr.1.trans hsz
        have hlow : ∀ q, q < mo → _ := fun q hq9 => (hfr.2 q (k_Rq hq9)).trans (hlow q hq9)
        have h_at := AJ.off hfr (k_R4 mo) h_at
        clear hfr
        have hl : lv_has ls 4 [(2, .int (nI 0)), (1, .int (nI 1)), (0, .ref mo)] := lv_sub hl [0, 1, 2] rfl
        have h120 : SV fd_104 120 10 = 2 ^ 0 % RI := by rw [tb_1]; exact (VL_ext (fun k hk => hpv.2 k (by omega))).trans one_10
        exact l1 588 0 _ _ ls _ fa (by omega) hm hho h_ta h_te h_ba hsz hlow hS h_at (fun i hi h => absurd h (Nat.not_lt_zero _)) h120 (fun i hi => hAj i hi (by omega)) hF hl
      | succ k ih =>
        intro  j   H   locs   ls   fd1 fa hi hm hho h_ta h_te h_ba hsz hlow hS h_at hAj h120 hF hl
        have s545 : ∀ (H : Heap) (locs : List Loc) (ls : Array Slot) (fd1 fa : Nat → Int64), MS g n0 H mo 0 0 0 0 0 14 fd1 → HO g H mo → (∃ f, AI g H (mo + 6) 96 f) → (∃ f, AI g H (mo + 7) 96 f) → AJ g H (mo + 3) 28 kBa → H.size = mo + 9 → (∀ q, q < mo → H[q]? = s.heap[q]?) → SAME (fun _ => (0 : Int64)) fd1 (fun t => (32 ≤ t ∧ t < 68) ∨ 116 ≤ t) → AJ g H (mo + 4) 420 fa → (∀ i, i ≤ 14 → 28 * (14 + i) ≤ j → PP 0 14 ∣ VL (fun k => fa (210 * 0 + 14 * i + k)) 14 - 268435456 ^ (14 + i)) → SV fd1 120 14 = 2 ^ j % QJ → (∀ q ∈ locs, n0 q.base) → lv_has ls 4 [(2, .int (nI j)), (1, .int (nI 0)), (0, .ref mo)] → W p l e { frames := 3, cells := 8, slots := 3304, locals := 75 } s m [.ref mo].toArray below meth c H locs 8 3304 (MQ below (QcP (QV (fun H H' => (∃ fd fa, MS g n0 H' mo 0 0 0 0 0 14 fd ∧ BV9 fd B0 ∧ AJ g H' (mo + 4) 420 fa ∧ (∀ j, j ≤ 10 → PP 1 10 ∣ VL (fun k => fa (210 * 1 + 14 * j + k)) 10 - 268435456 ^ (10 + j)) ∧ (∀ j, j ≤ 14 → PP 0 14 ∣ VL (fun k => fa (210 * 0 + 14 * j + k)) 14 - 268435456 ^ (14 + j))) ∧ HO g H' mo ∧ (∃ f, AI g H' (mo + 6) 96 f) ∧ (∃ f, AI g H' (mo + 7) 96 f) ∧ H'.size = mo + 9 ∧ ∀ q, q < mo → H'[q]? = H[q]?))) [.ref mo].toArray s 8 3304 (fun q => n0 q)) (F0 m 545 ls []) := by
          intro  H   locs   ls   fd1 fa hm hho h_ta h_te h_ba hsz hlow hS h_at hAj h120 hF hl
          have hfr : FRM (MR mo) H H := FRM.rf
          refine lv_aload_n hx hb d_Model_init_545 rfl (lv_at hl 2 rfl) ?_
          refine lv_bipush (v := nI 120) hx hb d_Model_init_546 (by decide) ?_
          refine lv_bipush (v := nI 120) hx hb d_Model_init_548 (by decide) ?_
          refine lv_bipush (v := nI 120) hx hb d_Model_init_550 (by decide) ?_
          refine q_cV (rest := []) E (c_Model_add l g n0 mo 120 120 120 0 0 0 0 0 14 hw0  fd1 (by omega) (by omega) (by omega) ) w_975 w_15 w_972 w_974 (bw_s 17 rfl) hd_Model_add rfl ⟨by decide, by decide⟩ (OB.recv E.2.2.2.2.2 (by rfl) hm.1) hm hF hl.1 rfl (Nat.le_of_ble_eq_true rfl) d_Model_init_552 ⟨by decide, by decide⟩ (qv (fun H1 locs hq hF => ?_))
          obtain ⟨hq, fd_105, hm, hpv, hv⟩ := hq
          have hfr := hfr.tr (kjR hq)
          have hS := hS.put hpv.1 (by show (32 ≤ _ ∧ _ < 68) ∨ 116 ≤ _; decide)
          have h120 := tbq_db h120 hv
          have hho := hho.off hfr
          have h_ta := h_ta.imp (fun f h => AI.off hfr (k_R6 mo) h)
          have h_te := h_te.imp (fun f h => AI.off hfr (k_R7 mo) h)
          have h_ba := AJ.off hfr (k_R3 mo) h_ba
          have hsz := hfr.1.trans hsz
          have hlow : ∀ q, q < mo → _ := fun q hq9 => (hfr.2 q (k_Rq hq9)).trans (hlow q hq9)
          have h_at := AJ.off hfr (k_R4 mo) h_at
          clear hfr
          refine lv_iinc (k := 0) (v := nI (j + 1)) (lv' := [(2, .int (nI (j + 1))), (1, .int (nI 0)), (0, .ref mo)]) hx hb d_Model_init_555 hl rfl (i_inc j) (by decide) rfl (fun ls hl => ?_)
          refine lv_goto (tgt := 461) hx hb d_Model_init_558 (by decide) ?_
          have hl : lv_has ls 4 [(2, .int (nI (j + 1))), (1, .int (nI 0)), (0, .ref mo)] := lv_sub hl [0, 1, 2] rfl
          exact ih (j + 1) _ _ ls _ fa (by omega) hm hho h_ta h_te h_ba hsz hlow hS h_at (fun i hi h => hAj i hi (by omega)) h120 hF hl
        have hfr : FRM (MR mo) H H := FRM.rf
        refine lv_iload_n hx hb d_Model_init_461 rfl (lv_at hl 0 rfl) ?_
        refine lv_bipush (v := nI 28) hx hb d_Model_init_462 (by decide) ?_
        refine lv_iconst (v := nI 2) hx hb d_Model_init_464 (by decide) ?_
        refine lv_aload_n hx hb d_Model_init_465 rfl (lv_at hl 2 rfl) ?_
        refine q_get (C := "KateDeskModel") (T := T_Model) (N := 14) (ci := 8) E hm.1 in_Model rfl 7 (by decide) w_1008 rfl rfl d_Model_init_466 ?_
        refine lv_imul hx hb d_Model_init_469 ?_
        refine lv_topi (fun t9 e9 => ?_)
        obtain rfl : t9 = nI (2 * 14) := e9.trans (pk_mul _ _)
        refine lv_iconst (v := nI 1) hx hb d_Model_init_470 (by decide) ?_
        refine lv_iadd hx hb d_Model_init_471 ?_
        refine lv_topi (fun t9 e9 => ?_)
        obtain rfl : t9 = nI ((2 * 14) + 1) := e9.trans (nI_add _ _)
        refine lv_imul hx hb d_Model_init_472 ?_
        refine lv_topi (fun t9 e9 => ?_)
        obtain rfl : t9 = nI (28 * ((2 * 14) + 1)) := e9.trans (pk_mul _ _)
        refine lv_icmp_ge (tgt := 561) hx hb d_Model_init_473 (by decide) (fun h9 => absurd h9 (nI_ge (by omega) (by decide))) (fun _ => ?_)
        refine lv_iload_n hx hb d_Model_init_476 rfl (lv_at hl 0 rfl) ?_
        refine lv_bipush (v := nI 28) hx hb d_Model_init_477 (by decide) ?_
        refine lv_aload_n hx hb d_Model_init_479 rfl (lv_at hl 2 rfl) ?_
        refine q_get (C := "KateDeskModel") (T := T_Model) (N := 14) (ci := 8) E hm.1 in_Model rfl 7 (by decide) w_1008 rfl rfl d_Model_init_480 ?_
        refine lv_imul hx hb d_Model_init_483 ?_
        refine lv_topi (fun t9 e9 => ?_)
        obtain rfl : t9 = nI (28 * 14) := e9.trans (pk_mul _ _)
        refine lv_icmp_lt (tgt := 545) hx hb d_Model_init_484 (by decide) (fun hc => ?_) (fun hc => ?_)
        rotate_left
        · skip
          have hj2 : 392 ≤ j := by rcases Nat.lt_or_ge j 392 with h | h; exact absurd (nI_lt h (by decide)) hc; exact h
          refine lv_iload_n hx hb d_Model_init_487 rfl (lv_at hl 0 rfl) ?_
          refine lv_bipush (v := nI 28) hx hb d_Model_init_488 (by decide) ?_
          refine lv_irem hx hb d_Model_init_490 (by decide) ?_
          refine lv_if_ne (tgt := 545) hx hb d_Model_init_491 (by decide) (fun hr => ?_) (fun hr => ?_)
          rotate_left
          · skip
            have hr0 : j % 28 = 0 := (r28 (by omega)).mp hr
            refine lv_iconst (v := nI 0) hx hb d_Model_init_494 (by decide) ?_
            refine lv_istore_n (lv' := [(3, .int (nI 0)), (2, .int (nI j)), (1, .int (nI 0)), (0, .ref mo)]) hx hb d_Model_init_495 rfl hl (by decide) rfl (fun ls hl => ?_)
            have hl : lv_has ls 4 [(3, .int (nI 0)), (2, .int (nI j)), (1, .int (nI 0)), (0, .ref mo)] := lv_sub hl [0, 1, 2, 3] rfl
            have inner : ∀ (k2 : Nat) (m9 : Nat) (H : Heap) (locs : List Loc) (ls : Array Slot) (fd1 fa : Nat → Int64), m9 + k2 = 14 → MS g n0 H mo 0 0 0 0 0 14 fd1 → HO g H mo → (∃ f, AI g H (mo + 6) 96 f) → (∃ f, AI g H (mo + 7) 96 f) → AJ g H (mo + 3) 28 kBa → H.size = mo + 9 → (∀ q, q < mo → H[q]? = s.heap[q]?) → SAME (fun _ => (0 : Int64)) fd1 (fun t => (32 ≤ t ∧ t < 68) ∨ 116 ≤ t) → AJ g H (mo + 4) 420 fa → (∀ i, i ≤ 14 → 28 * (14 + i) < j → PP 0 14 ∣ VL (fun k => fa (210 * 0 + 14 * i + k)) 14 - 268435456 ^ (14 + i)) → (∀ k, k < m9 → fa (210 * 0 + 14 * (j / 28 - 14) + k) = fd1 (1680 + k)) → SV fd1 120 14 = 2 ^ j % QJ → (∀ q ∈ locs, n0 q.base) → lv_has ls 4 [(3, .int (nI m9)), (2, .int (nI j)), (1, .int (nI 0)), (0, .ref mo)] → W p l e { frames := 3, cells := 8, slots := 3304, locals := 75 } s m [.ref mo].toArray below meth c H locs 8 3304 (MQ below (QcP (QV (fun H H' => (∃ fd fa, MS g n0 H' mo 0 0 0 0 0 14 fd ∧ BV9 fd B0 ∧ AJ g H' (mo + 4) 420 fa ∧ (∀ j, j ≤ 10 → PP 1 10 ∣ VL (fun k => fa (210 * 1 + 14 * j + k)) 10 - 268435456 ^ (10 + j)) ∧ (∀ j, j ≤ 14 → PP 0 14 ∣ VL (fun k => fa (210 * 0 + 14 * j + k)) 14 - 268435456 ^ (14 + j))) ∧ HO g H' mo ∧ (∃ f, AI g H' (mo + 6) 96 f) ∧ (∃ f, AI g H' (mo + 7) 96 f) ∧ H'.size = mo + 9 ∧ ∀ q, q < mo → H'[q]? = H[q]?))) [.ref mo].toArray s 8 3304 (fun q => n0 q)) (F0 m 496 ls []) := by
              intro k2
              induction k2 with
              | zero =>
                intro  m9   H   locs   ls   fd1 fa hi9 hm hho h_ta h_te h_ba hsz hlow hS h_at hAj hcp h120 hF hl
                have hfr : FRM (MR mo) H H := FRM.rf
                obtain rfl : m9 = 14 := by omega
                refine lv_iload_n hx hb d_Model_init_496 rfl (lv_at hl 0 rfl) ?_
                refine lv_aload_n hx hb d_Model_init_497 rfl (lv_at hl 3 rfl) ?_
                refine q_get (C := "KateDeskModel") (T := T_Model) (N := 14) (ci := 8) E hm.1 in_Model rfl 7 (by decide) w_1008 rfl rfl d_Model_init_498 ?_
                refine lv_icmp_ge (tgt := 545) hx hb d_Model_init_501 (by decide) (fun _ => ?_) (fun h9 => absurd (by decide) h9)
                have hl : lv_has ls 4 [(2, .int (nI j)), (1, .int (nI 0)), (0, .ref mo)] := lv_sub hl [1, 2, 3] rfl
                have hAl : (∀ i, i ≤ 14 → 28 * (14 + i) ≤ j → PP 0 14 ∣ VL (fun k => fa (210 * 0 + 14 * i + k)) 14 - 268435456 ^ (14 + i)) := by
                  intro i hi h
                  by_cases e : 28 * (14 + i) < j
                  · exact hAj i hi e
                  · have e2 : j / 28 - 14 = i := by omega
                    rw [e2] at hcp
                    exact tbq_row ((VL_ext (fun k hk => hcp k hk)).trans h120) (by omega)
                exact s545 _ _ ls _ fa hm hho h_ta h_te h_ba hsz hlow hS h_at hAl h120 hF hl
              | succ k2 ih2 =>
                intro  m9   H   locs   ls   fd1 fa hi9 hm hho h_ta h_te h_ba hsz hlow hS h_at hAj hcp h120 hF hl
                have hfr : FRM (MR mo) H H := FRM.rf
                refine lv_iload_n hx hb d_Model_init_496 rfl (lv_at hl 0 rfl) ?_
                refine lv_aload_n hx hb d_Model_init_497 rfl (lv_at hl 3 rfl) ?_
                refine q_get (C := "KateDeskModel") (T := T_Model) (N := 14) (ci := 8) E hm.1 in_Model rfl 7 (by decide) w_1008 rfl rfl d_Model_init_498 ?_
                refine lv_icmp_ge (tgt := 545) hx hb d_Model_init_501 (by decide) (fun h9 => absurd h9 (nI_ge (by omega) (by decide))) (fun _ => ?_)
                refine lv_aload_n hx hb d_Model_init_504 rfl (lv_at hl 3 rfl) ?_
                refine q_get (C := "KateDeskModel") (T := T_Model) (N := 14) (ci := 8) E hm.1 in_Model rfl 4 (by decide) w_1005 rfl rfl d_Model_init_505 ?_
                refine lv_sipush (v := nI 210) hx hb d_Model_init_508 (by decide) ?_
                refine lv_iload_n hx hb d_Model_init_511 rfl (lv_at hl 2 rfl) ?_
                refine lv_imul hx hb d_Model_init_512 ?_
                refine lv_topi (fun t9 e9 => ?_)
                obtain rfl : t9 = nI (210 * 0) := e9.trans (pk_mul _ _)
                refine lv_bipush (v := nI 14) hx hb d_Model_init_513 (by decide) ?_
                refine lv_iload_n hx hb d_Model_init_515 rfl (lv_at hl 1 rfl) ?_
                refine lv_bipush (v := nI 28) hx hb d_Model_init_516 (by decide) ?_
                refine lv_idiv hx hb d_Model_init_518 (by decide) ?_
                refine lv_topi (fun t9 e9 => ?_)
                obtain rfl : t9 = nI (j / 28) := e9.trans (pk_div (by omega) (by decide) (by decide))
                refine lv_aload_n hx hb d_Model_init_519 rfl (lv_at hl 3 rfl) ?_
                refine q_get (C := "KateDeskModel") (T := T_Model) (N := 14) (ci := 8) E hm.1 in_Model rfl 7 (by decide) w_1008 rfl rfl d_Model_init_520 ?_
                refine lv_isub hx hb d_Model_init_523 ?_
                refine lv_topi (fun t9 e9 => ?_)
                obtain rfl : t9 = nI (j / 28 - 14) := e9.trans (pk_sub (by omega))
                refine lv_imul hx hb d_Model_init_524 ?_
                refine lv_topi (fun t9 e9 => ?_)
                obtain rfl : t9 = nI (14 * (j / 28 - 14)) := e9.trans (pk_mul _ _)
                refine lv_iadd hx hb d_Model_init_525 ?_
                refine lv_topi (fun t9 e9 => ?_)
                obtain rfl : t9 = nI ((210 * 0) + (14 * (j / 28 - 14))) := e9.trans (nI_add _ _)
                refine lv_iload_n hx hb d_Model_init_526 rfl (lv_at hl 0 rfl) ?_
                refine lv_iadd hx hb d_Model_init_527 ?_
                refine lv_topi (fun t9 e9 => ?_)
                obtain rfl : t9 = nI (((210 * 0) + (14 * (j / 28 - 14))) + m9) := e9.trans (nI_add _ _)
                refine lv_aload_n hx hb d_Model_init_528 rfl (lv_at hl 3 rfl) ?_
                refine q_get (C := "KateDeskModel") (T := T_Model) (N := 14) (ci := 8) E hm.1 in_Model rfl 1 (by decide) w_1002 rfl rfl d_Model_init_529 ?_
                refine lv_sipush (v := nI 1680) hx hb d_Model_init_532 (by decide) ?_
                refine lv_iload_n hx hb d_Model_init_535 rfl (lv_at hl 0 rfl) ?_
                refine lv_iadd hx hb d_Model_init_536 ?_
                refine lv_topi (fun t9 e9 => ?_)
                obtain rfl : t9 = nI (1680 + m9) := e9.trans (nI_add _ _)
                refine q_lald (N := 2380) (f := fd1) E hm.2.2.2.2.1 (1680 + m9) rfl (by omega) (by decide) d_Model_init_537 ?_
                have hdv := hm.2.2.2.2.2.1 (1680 + m9) (by omega)
                have hfd : ∀ k, k < 420 → dg (fa k) := by
                  obtain ⟨fa9, hfa9, hfd9⟩ := hm.2.2.1
                  exact fun k hk => by rw [(h_at.same hfa9).2 k hk]; exact hfd9 k hk
                refine q_last E h_at na4 hF (210 * 0 + 14 * (j / 28 - 14) + m9) rfl (by omega) (by decide) d_Model_init_538 (fun H1 locs hq hf2 hF => ?_)
                have hm := hm.above hK hq hf2 (fun k hk1 => by by_cases e : k = 210 * 0 + 14 * (j / 28 - 14) + m9; (rw [e, pk_uLs]; exact hdv); (rw [pk_uLn e]; exact hfd k hk1))
                have hq := hq.frm
                have hho : HO g H1 mo := by obtain ⟨f, h1, h2⟩ := hho; exact ⟨f, AJ.off hq (k_ne (by decide)) h1, h2⟩
                have h_ta := h_ta.imp (fun f h => AI.off hq (k_ne (by decide)) h)
                have h_te := h_te.imp (fun f h => AI.off hq (k_ne (by decide)) h)
                have h_ba := AJ.off hq (k_ne (by decide)) h_ba
                have hsz := hq.1.trans hsz
                have hlow : ∀ q, q < mo → _ := fun q hq9 => (hq.2 q (k_q hq9)).trans (hlow q hq9)
                clear hq
                refine lv_iinc (k := 0) (v := nI (m9 + 1)) (lv' := [(3, .int (nI (m9 + 1))), (2, .int (nI j)), (1, .int (nI 0)), (0, .ref mo)]) hx hb d_Model_init_539 hl rfl (i_inc m9) (by decide) rfl (fun ls hl => ?_)
                refine lv_goto (tgt := 496) hx hb d_Model_init_542 (by decide) ?_
                have hl : lv_has ls 4 [(3, .int (nI (m9 + 1))), (2, .int (nI j)), (1, .int (nI 0)), (0, .ref mo)] := lv_sub hl [0, 1, 2, 3] rfl
                have hAj2 : ∀ i, i ≤ 14 → 28 * (14 + i) < j → PP 0 14 ∣ VL (fun k => vp_updL fa (210 * 0 + 14 * (j / 28 - 14) + m9) (fd1 (1680 + m9)) (210 * 0 + 14 * i + k)) 14 - 268435456 ^ (14 + i) := by
                  intro i hi h
                  have h9 := hAj i hi h
                  rw [VL_ext (f := fun k => vp_updL fa (210 * 0 + 14 * (j / 28 - 14) + m9) (fd1 (1680 + m9)) (210 * 0 + 14 * i + k)) (h := fun k => fa (210 * 0 + 14 * i + k)) (fun k hk => pk_uLn (tbq_ix h hk (by omega) hr0))]
                  exact h9
                exact ih2 (m9 + 1) _ _ ls _ _ (by omega) hm hho h_ta h_te h_ba hsz hlow hS hf2 hAj2 (fun k hk => by by_cases e : k = m9; (rw [e, pk_uLs]); (rw [pk_uLn (by omega)]; exact hcp k (by omega))) h120 hF hl
            exact inner 14 0 _ _ ls _ fa (by omega) hm hho h_ta h_te h_ba hsz hlow hS h_at hAj (fun k hk => absurd hk (Nat.not_lt_zero _)) h120 hF hl
          have hl : lv_has ls 4 [(2, .int (nI j)), (1, .int (nI 0)), (0, .ref mo)] := lv_sub hl [0, 1, 2] rfl
          have hr0 : ¬ j % 28 = 0 := fun e => hr ((r28 (by omega)).mpr e)
          exact s545 _ _ ls _ fa hm hho h_ta h_te h_ba hsz hlow hS h_at (fun i hi h => hAj i hi (by omega)) h120 hF hl
        have hl : lv_has ls 4 [(2, .int (nI j)), (1, .int (nI 0)), (0, .ref mo)] := lv_sub hl [0, 1, 2] rfl
        have hj2 : j < 392 := by rcases Nat.lt_or_ge j 392 with h | h; exact h; exact absurd hc (nI_nlt h (by omega))
        exact s545 _ _ ls _ fa hm hho h_ta h_te h_ba hsz hlow hS h_at (fun i hi h => absurd h (by omega)) h120 hF hl
    intro H locs ls hm hho h_ta h_te h_ba hsz hlow hF hl
    have hfr : FRM (MR mo) H H := FRM.rf
    have hS : SAME (fun _ => (0 : Int64)) (fun _ => (0 : Int64)) (fun t => (32 ≤ t ∧ t < 68) ∨ 116 ≤ t) := SAME.rf
    refine lv_iconst (v := nI 0) hx hb d_Model_init_441 (by decide) ?_
    refine lv_istore_n (lv' := [(1, .int (nI 0)), (0, .ref mo)]) hx hb d_Model_init_442 rfl hl (by decide) rfl (fun ls hl => ?_)
    refine lv_iload_n hx hb d_Model_init_443 rfl (lv_at hl 0 rfl) ?_
    refine lv_iconst (v := nI 2) hx hb d_Model_init_444 (by decide) ?_
    refine lv_icmp_ge (tgt := 567) hx hb d_Model_init_445 (by decide) (fun h9 => absurd h9 (by decide)) (fun _ => ?_)
    refine lv_aload_n hx hb d_Model_init_448 rfl (lv_at hl 1 rfl) ?_
    refine lv_iload_n hx hb d_Model_init_449 rfl (lv_at hl 0 rfl) ?_
    refine q_cV (rest := []) E (c_Model_useA l g n0 mo 0 0 0 0 0 0 0 14 hw0 (fun _ => 0) na0) w_967 w_15 w_964 w_966 (bw_s 15 rfl) hd_Model_use rfl ⟨by decide, by decide⟩ (OB.recv E.2.2.2.2.2 (by rfl) hm.1) hm hF hl.1 rfl (Nat.le_of_ble_eq_true rfl) d_Model_init_450 ⟨by decide, by decide⟩ (qv (fun H1 locs hq hF => ?_))
    obtain ⟨hq, hm⟩ := hq
    have hfr := hfr.tr hq
    refine lv_aload_n hx hb d_Model_init_453 rfl (lv_at hl 1 rfl) ?_
    refine lv_bipush (v := nI 120) hx hb d_Model_init_454 (by decide) ?_
    refine q_cV (rest := []) E (c_Model_one l g n0 mo 120 0 0 0 0 0 14 hw0  (fun _ => (0 : Int64)) (by omega) ) w_971 w_15 w_968 w_970 (bw_s 16 rfl) hd_Model_one rfl ⟨by decide, by decide⟩ (OB.recv E.2.2.2.2.2 (by rfl) hm.1) hm hF hl.1 rfl (Nat.le_of_ble_eq_true rfl) d_Model_init_456 ⟨by decide, by decide⟩ (qv (fun H2 locs hq hF => ?_))
    obtain ⟨hq, fd_106, hm, hpv⟩ := hq
    have hfr := hfr.tr hq
    have hS := hS.put hpv.1 (by show (32 ≤ _ ∧ _ < 68) ∨ 116 ≤ _; decide)
    refine lv_iconst (v := nI 0) hx hb d_Model_init_459 (by decide) ?_
    refine lv_istore_n (lv' := [(2, .int (nI 0)), (1, .int (nI 0)), (0, .ref mo)]) hx hb d_Model_init_460 rfl hl (by decide) rfl (fun ls hl => ?_)
    have hho := hho.off hfr
    have h_ta := h_ta.imp (fun f h => AI.off hfr (k_R6 mo) h)
    have h_te := h_te.imp (fun f h => AI.off hfr (k_R7 mo) h)
    have h_ba := AJ.off hfr (k_R3 mo) h_ba
    have hsz := hfr.1.trans hsz
    have hlow : ∀ q, q < mo → _ := fun q hq9 => (hfr.2 q (k_Rq hq9)).trans (hlow q hq9)
    clear hfr
    have hl : lv_has ls 4 [(2, .int (nI 0)), (1, .int (nI 0)), (0, .ref mo)] := lv_sub hl [0, 1, 2] rfl
    have h120 : SV fd_106 120 14 = 2 ^ 0 % QJ := (VL_ext (fun k hk => hpv.2 k (by omega))).trans (by decide +kernel)
    obtain ⟨fa, h_at, -⟩ := hm.2.2.1
    exact l0 812 0 _ _ ls _ fa (by omega) hm hho h_ta h_te h_ba hsz hlow hS h_at (fun i hi h => absurd h (Nat.not_lt_zero _)) h120 hF hl
  refine lv_aload_n hx hb d_Model_init_0 rfl (lv_at hl 0 rfl) ?_
  refine W.objInit hx hb E.2.2.2.1 (E.2.2.2.2.1 _ w_912) (E.2.2.2.2.1 _ w_31) (E.2.2.2.2.1 _ w_32) rfl (by rw [E.2.2.1]; exact hl.1) rfl d_Model_init_1 (Nat.le_of_ble_eq_true rfl) (Nat.le_of_ble_eq_true rfl) ?_
  refine lv_aload_n hx hb d_Model_init_4 rfl (lv_at hl 0 rfl) ?_
  refine lv_sipush (v := nI 2380) hx hb d_Model_init_5 (by decide) ?_
  refine q_newJ E 2380 rfl (by decide) w_64 (by decide) (by decide) hsz d_Model_init_8 (fun H1 hsz2 hnw h_d => ?_)
  have hsz : H1.size = mo + 2 := hsz2
  clear hsz2
  have ho := ho.eq (hnw mo (k_mo (by decide)))
  have hlow : ∀ q, q < mo → H1[q]? = s.heap[q]? := fun q hq9 => (hnw q (k_lt hq9)).trans (hlow q hq9)
  clear hnw
  refine q_putF (C := "KateDeskModel") (T := T_Model) (N := 14) (ci := 8) (ty := .array (.long)) E ho in_Model ty_Model tyok_Model nm_Model rfl 1 (by decide) w_1002 rfl rfl hnm rfl (by decide +kernel) rfl rfl (Nat.le_of_ble_eq_true rfl) na0 hF d_Model_init_10 (fun H2 locs hq ho2 hF => ?_)
  have hsz : H2.size = mo + 2 := hq.1.trans hsz
  have ho := ho2
  have h_d := AJ.off hq (show ¬ mo + 1 = mo from k_m (by decide)) h_d
  have hlow : ∀ q, q < mo → H2[q]? = s.heap[q]? := fun q hq9 => (hq.2 q (show ¬ q = mo from Nat.ne_of_lt hq9)).trans (hlow q hq9)
  clear hq ho2
  refine lv_aload_n hx hb d_Model_init_13 rfl (lv_at hl 0 rfl) ?_
  refine lv_bipush (v := nI 28) hx hb d_Model_init_14 (by decide) ?_
  refine q_newJ E 28 rfl (by decide) w_64 (by decide) (by decide) hsz d_Model_init_16 (fun H3 hsz2 hnw h_pr => ?_)
  have hsz : H3.size = mo + 3 := hsz2
  clear hsz2
  have ho := ho.eq (hnw mo (k_mo (by decide)))
  have h_d := h_d.eq (hnw _ (Nat.add_lt_add_left (by decide) _))
  have hlow : ∀ q, q < mo → H3[q]? = s.heap[q]? := fun q hq9 => (hnw q (k_lt hq9)).trans (hlow q hq9)
  clear hnw
  have h_pr : AJ g H3 (mo + 2) 28 (prU 0) := by rw [prU_0]; exact h_pr
  refine lv_dup hx hb d_Model_init_18 rfl ?_
  refine lv_iconst (v := nI 0) hx hb d_Model_init_19 (by decide) ?_
  refine lv_ldc2 (v := 268413611) hx hb E.2.2.2.1 (E.2.2.2.2.1 _ w_913) d_Model_init_20 ?_
  refine q_last E h_pr na2 hF 0 rfl (by decide) (by decide) d_Model_init_23 (fun H4 locs hq hA9 hF => ?_)
  have h_pr : AJ g H4 (mo + 2) 28 (prU 1) := AJ_prU (i := 0) hA9 (by decide)
  clear hA9
  have ho := hq.ob hK ho
  have hsz : H4.size = mo + 3 := hq.1.trans hsz
  have h_d := hq.ajo (show ¬ mo + 1 = mo + 2 from k_ne (by decide)) h_d
  have hlow : ∀ q, q < mo → H4[q]? = s.heap[q]? := fun q hq9 => (hq.off (show ¬ q = mo + 2 from k_q hq9)).trans (hlow q hq9)
  clear hq
  refine lv_dup hx hb d_Model_init_24 rfl ?_
  refine lv_iconst (v := nI 1) hx hb d_Model_init_25 (by decide) ?_
  refine lv_ldc2 (v := 267386879) hx hb E.2.2.2.1 (E.2.2.2.2.1 _ w_914) d_Model_init_26 ?_
  refine q_last E h_pr na2 hF 1 rfl (by decide) (by decide) d_Model_init_29 (fun H5 locs hq hA9 hF => ?_)
  have h_pr : AJ g H5 (mo + 2) 28 (prU 2) := AJ_prU (i := 1) hA9 (by decide)
  clear hA9
  have ho := hq.ob hK ho
  have hsz : H5.size = mo + 3 := hq.1.trans hsz
  have h_d := hq.ajo (show ¬ mo + 1 = mo + 2 from k_ne (by decide)) h_d
  have hlow : ∀ q, q < mo → H5[q]? = s.heap[q]? := fun q hq9 => (hq.off (show ¬ q = mo + 2 from k_q hq9)).trans (hlow q hq9)
  clear hq
  refine lv_dup hx hb d_Model_init_30 rfl ?_
  refine lv_iconst (v := nI 2) hx hb d_Model_init_31 (by decide) ?_
  refine lv_ldc2 (v := 67108793) hx hb E.2.2.2.1 (E.2.2.2.2.1 _ w_915) d_Model_init_32 ?_
  refine q_last E h_pr na2 hF 2 rfl (by decide) (by decide) d_Model_init_35 (fun H6 locs hq hA9 hF => ?_)
  have h_pr : AJ g H6 (mo + 2) 28 (prU 3) := AJ_prU (i := 2) hA9 (by decide)
  clear hA9
  have ho := hq.ob hK ho
  have hsz : H6.size = mo + 3 := hq.1.trans hsz
  have h_d := hq.ajo (show ¬ mo + 1 = mo + 2 from k_ne (by decide)) h_d
  have hlow : ∀ q, q < mo → H6[q]? = s.heap[q]? := fun q hq9 => (hq.off (show ¬ q = mo + 2 from k_q hq9)).trans (hlow q hq9)
  clear hq
  refine lv_dup hx hb d_Model_init_36 rfl ?_
  refine lv_iconst (v := nI 3) hx hb d_Model_init_37 (by decide) ?_
  refine lv_ldc2 (v := 268430101) hx hb E.2.2.2.1 (E.2.2.2.2.1 _ w_916) d_Model_init_38 ?_
  refine q_last E h_pr na2 hF 3 rfl (by decide) (by decide) d_Model_init_41 (fun H7 locs hq hA9 hF => ?_)
  have h_pr : AJ g H7 (mo + 2) 28 (prU 4) := AJ_prU (i := 3) hA9 (by decide)
  clear hA9
  have ho := hq.ob hK ho
  have hsz : H7.size = mo + 3 := hq.1.trans hsz
  have h_d := hq.ajo (show ¬ mo + 1 = mo + 2 from k_ne (by decide)) h_d
  have hlow : ∀ q, q < mo → H7[q]? = s.heap[q]? := fun q hq9 => (hq.off (show ¬ q = mo + 2 from k_q hq9)).trans (hlow q hq9)
  clear hq
  refine lv_dup hx hb d_Model_init_42 rfl ?_
  refine lv_iconst (v := nI 4) hx hb d_Model_init_43 (by decide) ?_
  refine lv_ldc2 (v := 103030443) hx hb E.2.2.2.1 (E.2.2.2.2.1 _ w_917) d_Model_init_44 ?_
  refine q_last E h_pr na2 hF 4 rfl (by decide) (by decide) d_Model_init_47 (fun H8 locs hq hA9 hF => ?_)
  have h_pr : AJ g H8 (mo + 2) 28 (prU 5) := AJ_prU (i := 4) hA9 (by decide)
  clear hA9
  have ho := hq.ob hK ho
  have hsz : H8.size = mo + 3 := hq.1.trans hsz
  have h_d := hq.ajo (show ¬ mo + 1 = mo + 2 from k_ne (by decide)) h_d
  have hlow : ∀ q, q < mo → H8[q]? = s.heap[q]? := fun q hq9 => (hq.off (show ¬ q = mo + 2 from k_q hq9)).trans (hlow q hq9)
  clear hq
  refine lv_dup hx hb d_Model_init_48 rfl ?_
  refine lv_iconst (v := nI 5) hx hb d_Model_init_49 (by decide) ?_
  refine lv_ldc2 (v := 168782607) hx hb E.2.2.2.1 (E.2.2.2.2.1 _ w_918) d_Model_init_50 ?_
  refine q_last E h_pr na2 hF 5 rfl (by decide) (by decide) d_Model_init_53 (fun H9 locs hq hA9 hF => ?_)
  have h_pr : AJ g H9 (mo + 2) 28 (prU 6) := AJ_prU (i := 5) hA9 (by decide)
  clear hA9
  have ho := hq.ob hK ho
  have hsz : H9.size = mo + 3 := hq.1.trans hsz
  have h_d := hq.ajo (show ¬ mo + 1 = mo + 2 from k_ne (by decide)) h_d
  have hlow : ∀ q, q < mo → H9[q]? = s.heap[q]? := fun q hq9 => (hq.off (show ¬ q = mo + 2 from k_q hq9)).trans (hlow q hq9)
  clear hq
  refine lv_dup hx hb d_Model_init_54 rfl ?_
  refine lv_bipush (v := nI 6) hx hb d_Model_init_55 (by decide) ?_
  refine lv_ldc2 (v := 258420946) hx hb E.2.2.2.1 (E.2.2.2.2.1 _ w_919) d_Model_init_57 ?_
  refine q_last E h_pr na2 hF 6 rfl (by decide) (by decide) d_Model_init_60 (fun H10 locs hq hA9 hF => ?_)
  have h_pr : AJ g H10 (mo + 2) 28 (prU 7) := AJ_prU (i := 6) hA9 (by decide)
  clear hA9
  have ho := hq.ob hK ho
  have hsz : H10.size = mo + 3 := hq.1.trans hsz
  have h_d := hq.ajo (show ¬ mo + 1 = mo + 2 from k_ne (by decide)) h_d
  have hlow : ∀ q, q < mo → H10[q]? = s.heap[q]? := fun q hq9 => (hq.off (show ¬ q = mo + 2 from k_q hq9)).trans (hlow q hq9)
  clear hq
  refine lv_dup hx hb d_Model_init_61 rfl ?_
  refine lv_bipush (v := nI 7) hx hb d_Model_init_62 (by decide) ?_
  refine lv_ldc2 (v := 255349035) hx hb E.2.2.2.1 (E.2.2.2.2.1 _ w_920) d_Model_init_64 ?_
  refine q_last E h_pr na2 hF 7 rfl (by decide) (by decide) d_Model_init_67 (fun H11 locs hq hA9 hF => ?_)
  have h_pr : AJ g H11 (mo + 2) 28 (prU 8) := AJ_prU (i := 7) hA9 (by decide)
  clear hA9
  have ho := hq.ob hK ho
  have hsz : H11.size = mo + 3 := hq.1.trans hsz
  have h_d := hq.ajo (show ¬ mo + 1 = mo + 2 from k_ne (by decide)) h_d
  have hlow : ∀ q, q < mo → H11[q]? = s.heap[q]? := fun q hq9 => (hq.off (show ¬ q = mo + 2 from k_q hq9)).trans (hlow q hq9)
  clear hq
  refine lv_dup hx hb d_Model_init_68 rfl ?_
  refine lv_bipush (v := nI 8) hx hb d_Model_init_69 (by decide) ?_
  refine lv_ldc2 (v := 74926980) hx hb E.2.2.2.1 (E.2.2.2.2.1 _ w_921) d_Model_init_71 ?_
  refine q_last E h_pr na2 hF 8 rfl (by decide) (by decide) d_Model_init_74 (fun H12 locs hq hA9 hF => ?_)
  have h_pr : AJ g H12 (mo + 2) 28 (prU 9) := AJ_prU (i := 8) hA9 (by decide)
  clear hA9
  have ho := hq.ob hK ho
  have hsz : H12.size = mo + 3 := hq.1.trans hsz
  have h_d := hq.ajo (show ¬ mo + 1 = mo + 2 from k_ne (by decide)) h_d
  have hlow : ∀ q, q < mo → H12[q]? = s.heap[q]? := fun q hq9 => (hq.off (show ¬ q = mo + 2 from k_q hq9)).trans (hlow q hq9)
  clear hq
  refine lv_dup hx hb d_Model_init_75 rfl ?_
  refine lv_bipush (v := nI 9) hx hb d_Model_init_76 (by decide) ?_
  refine lv_ldc2 (v := 79351158) hx hb E.2.2.2.1 (E.2.2.2.2.1 _ w_922) d_Model_init_78 ?_
  refine q_last E h_pr na2 hF 9 rfl (by decide) (by decide) d_Model_init_81 (fun H13 locs hq hA9 hF => ?_)
  have h_pr : AJ g H13 (mo + 2) 28 (prU 10) := AJ_prU (i := 9) hA9 (by decide)
  clear hA9
  have ho := hq.ob hK ho
  have hsz : H13.size = mo + 3 := hq.1.trans hsz
  have h_d := hq.ajo (show ¬ mo + 1 = mo + 2 from k_ne (by decide)) h_d
  have hlow : ∀ q, q < mo → H13[q]? = s.heap[q]? := fun q hq9 => (hq.off (show ¬ q = mo + 2 from k_q hq9)).trans (hlow q hq9)
  clear hq
  refine lv_dup hx hb d_Model_init_82 rfl ?_
  refine lv_bipush (v := nI 10) hx hb d_Model_init_83 (by decide) ?_
  refine lv_ldc2 (v := 195540547) hx hb E.2.2.2.1 (E.2.2.2.2.1 _ w_923) d_Model_init_85 ?_
  refine q_last E h_pr na2 hF 10 rfl (by decide) (by decide) d_Model_init_88 (fun H14 locs hq hA9 hF => ?_)
  have h_pr : AJ g H14 (mo + 2) 28 (prU 11) := AJ_prU (i := 10) hA9 (by decide)
  clear hA9
  have ho := hq.ob hK ho
  have hsz : H14.size = mo + 3 := hq.1.trans hsz
  have h_d := hq.ajo (show ¬ mo + 1 = mo + 2 from k_ne (by decide)) h_d
  have hlow : ∀ q, q < mo → H14[q]? = s.heap[q]? := fun q hq9 => (hq.off (show ¬ q = mo + 2 from k_q hq9)).trans (hlow q hq9)
  clear hq
  refine lv_dup hx hb d_Model_init_89 rfl ?_
  refine lv_bipush (v := nI 11) hx hb d_Model_init_90 (by decide) ?_
  refine lv_ldc2 (v := 241804465) hx hb E.2.2.2.1 (E.2.2.2.2.1 _ w_924) d_Model_init_92 ?_
  refine q_last E h_pr na2 hF 11 rfl (by decide) (by decide) d_Model_init_95 (fun H15 locs hq hA9 hF => ?_)
  have h_pr : AJ g H15 (mo + 2) 28 (prU 12) := AJ_prU (i := 11) hA9 (by decide)
  clear hA9
  have ho := hq.ob hK ho
  have hsz : H15.size = mo + 3 := hq.1.trans hsz
  have h_d := hq.ajo (show ¬ mo + 1 = mo + 2 from k_ne (by decide)) h_d
  have hlow : ∀ q, q < mo → H15[q]? = s.heap[q]? := fun q hq9 => (hq.off (show ¬ q = mo + 2 from k_q hq9)).trans (hlow q hq9)
  clear hq
  refine lv_dup hx hb d_Model_init_96 rfl ?_
  refine lv_bipush (v := nI 12) hx hb d_Model_init_97 (by decide) ?_
  refine lv_ldc2 (v := 32127359) hx hb E.2.2.2.1 (E.2.2.2.2.1 _ w_925) d_Model_init_99 ?_
  refine q_last E h_pr na2 hF 12 rfl (by decide) (by decide) d_Model_init_102 (fun H16 locs hq hA9 hF => ?_)
  have h_pr : AJ g H16 (mo + 2) 28 (prU 13) := AJ_prU (i := 12) hA9 (by decide)
  clear hA9
  have ho := hq.ob hK ho
  have hsz : H16.size = mo + 3 := hq.1.trans hsz
  have h_d := hq.ajo (show ¬ mo + 1 = mo + 2 from k_ne (by decide)) h_d
  have hlow : ∀ q, q < mo → H16[q]? = s.heap[q]? := fun q hq9 => (hq.off (show ¬ q = mo + 2 from k_q hq9)).trans (hlow q hq9)
  clear hq
  refine lv_dup hx hb d_Model_init_103 rfl ?_
  refine lv_bipush (v := nI 13) hx hb d_Model_init_104 (by decide) ?_
  refine lv_ldc2 (v := 106513) hx hb E.2.2.2.1 (E.2.2.2.2.1 _ w_926) d_Model_init_106 ?_
  refine q_last E h_pr na2 hF 13 rfl (by decide) (by decide) d_Model_init_109 (fun H17 locs hq hA9 hF => ?_)
  have h_pr : AJ g H17 (mo + 2) 28 (prU 14) := AJ_prU (i := 13) hA9 (by decide)
  clear hA9
  have ho := hq.ob hK ho
  have hsz : H17.size = mo + 3 := hq.1.trans hsz
  have h_d := hq.ajo (show ¬ mo + 1 = mo + 2 from k_ne (by decide)) h_d
  have hlow : ∀ q, q < mo → H17[q]? = s.heap[q]? := fun q hq9 => (hq.off (show ¬ q = mo + 2 from k_q hq9)).trans (hlow q hq9)
  clear hq
  refine lv_dup hx hb d_Model_init_110 rfl ?_
  refine lv_bipush (v := nI 14) hx hb d_Model_init_111 (by decide) ?_
  refine lv_lconst (v := 1) hx hb d_Model_init_113 (by decide) ?_
  refine q_last E h_pr na2 hF 14 rfl (by decide) (by decide) d_Model_init_114 (fun H18 locs hq hA9 hF => ?_)
  have h_pr : AJ g H18 (mo + 2) 28 (prU 15) := AJ_prU (i := 14) hA9 (by decide)
  clear hA9
  have ho := hq.ob hK ho
  have hsz : H18.size = mo + 3 := hq.1.trans hsz
  have h_d := hq.ajo (show ¬ mo + 1 = mo + 2 from k_ne (by decide)) h_d
  have hlow : ∀ q, q < mo → H18[q]? = s.heap[q]? := fun q hq9 => (hq.off (show ¬ q = mo + 2 from k_q hq9)).trans (hlow q hq9)
  clear hq
  refine lv_dup hx hb d_Model_init_115 rfl ?_
  refine lv_bipush (v := nI 15) hx hb d_Model_init_116 (by decide) ?_
  refine lv_ldc2 (v := 268435440) hx hb E.2.2.2.1 (E.2.2.2.2.1 _ w_927) d_Model_init_118 ?_
  refine q_last E h_pr na2 hF 15 rfl (by decide) (by decide) d_Model_init_121 (fun H19 locs hq hA9 hF => ?_)
  have h_pr : AJ g H19 (mo + 2) 28 (prU 16) := AJ_prU (i := 15) hA9 (by decide)
  clear hA9
  have ho := hq.ob hK ho
  have hsz : H19.size = mo + 3 := hq.1.trans hsz
  have h_d := hq.ajo (show ¬ mo + 1 = mo + 2 from k_ne (by decide)) h_d
  have hlow : ∀ q, q < mo → H19[q]? = s.heap[q]? := fun q hq9 => (hq.off (show ¬ q = mo + 2 from k_q hq9)).trans (hlow q hq9)
  clear hq
  refine lv_dup hx hb d_Model_init_122 rfl ?_
  refine lv_bipush (v := nI 16) hx hb d_Model_init_123 (by decide) ?_
  refine lv_ldc2 (v := 240910079) hx hb E.2.2.2.1 (E.2.2.2.2.1 _ w_928) d_Model_init_125 ?_
  refine q_last E h_pr na2 hF 16 rfl (by decide) (by decide) d_Model_init_128 (fun H20 locs hq hA9 hF => ?_)
  have h_pr : AJ g H20 (mo + 2) 28 (prU 17) := AJ_prU (i := 16) hA9 (by decide)
  clear hA9
  have ho := hq.ob hK ho
  have hsz : H20.size = mo + 3 := hq.1.trans hsz
  have h_d := hq.ajo (show ¬ mo + 1 = mo + 2 from k_ne (by decide)) h_d
  have hlow : ∀ q, q < mo → H20[q]? = s.heap[q]? := fun q hq9 => (hq.off (show ¬ q = mo + 2 from k_q hq9)).trans (hlow q hq9)
  clear hq
  refine lv_dup hx hb d_Model_init_129 rfl ?_
  refine lv_bipush (v := nI 17) hx hb d_Model_init_130 (by decide) ?_
  refine lv_ldc2 (v := 171978751) hx hb E.2.2.2.1 (E.2.2.2.2.1 _ w_929) d_Model_init_132 ?_
  refine q_last E h_pr na2 hF 17 rfl (by decide) (by decide) d_Model_init_135 (fun H21 locs hq hA9 hF => ?_)
  have h_pr : AJ g H21 (mo + 2) 28 (prU 18) := AJ_prU (i := 17) hA9 (by decide)
  clear hA9
  have ho := hq.ob hK ho
  have hsz : H21.size = mo + 3 := hq.1.trans hsz
  have h_d := hq.ajo (show ¬ mo + 1 = mo + 2 from k_ne (by decide)) h_d
  have hlow : ∀ q, q < mo → H21[q]? = s.heap[q]? := fun q hq9 => (hq.off (show ¬ q = mo + 2 from k_q hq9)).trans (hlow q hq9)
  clear hq
  refine lv_dup hx hb d_Model_init_136 rfl ?_
  refine lv_bipush (v := nI 18) hx hb d_Model_init_137 (by decide) ?_
  refine lv_ldc2 (v := 134566845) hx hb E.2.2.2.1 (E.2.2.2.2.1 _ w_930) d_Model_init_139 ?_
  refine q_last E h_pr na2 hF 18 rfl (by decide) (by decide) d_Model_init_142 (fun H22 locs hq hA9 hF => ?_)
  have h_pr : AJ g H22 (mo + 2) 28 (prU 19) := AJ_prU (i := 18) hA9 (by decide)
  clear hA9
  have ho := hq.ob hK ho
  have hsz : H22.size = mo + 3 := hq.1.trans hsz
  have h_d := hq.ajo (show ¬ mo + 1 = mo + 2 from k_ne (by decide)) h_d
  have hlow : ∀ q, q < mo → H22[q]? = s.heap[q]? := fun q hq9 => (hq.off (show ¬ q = mo + 2 from k_q hq9)).trans (hlow q hq9)
  clear hq
  refine lv_dup hx hb d_Model_init_143 rfl ?_
  refine lv_bipush (v := nI 19) hx hb d_Model_init_144 (by decide) ?_
  refine lv_ldc2 (v := 8428061) hx hb E.2.2.2.1 (E.2.2.2.2.1 _ w_931) d_Model_init_146 ?_
  refine q_last E h_pr na2 hF 19 rfl (by decide) (by decide) d_Model_init_149 (fun H23 locs hq hA9 hF => ?_)
  have h_pr : AJ g H23 (mo + 2) 28 (prU 20) := AJ_prU (i := 19) hA9 (by decide)
  clear hA9
  have ho := hq.ob hK ho
  have hsz : H23.size = mo + 3 := hq.1.trans hsz
  have h_d := hq.ajo (show ¬ mo + 1 = mo + 2 from k_ne (by decide)) h_d
  have hlow : ∀ q, q < mo → H23[q]? = s.heap[q]? := fun q hq9 => (hq.off (show ¬ q = mo + 2 from k_q hq9)).trans (hlow q hq9)
  clear hq
  refine lv_dup hx hb d_Model_init_150 rfl ?_
  refine lv_bipush (v := nI 20) hx hb d_Model_init_151 (by decide) ?_
  refine lv_ldc2 (v := 137574872) hx hb E.2.2.2.1 (E.2.2.2.2.1 _ w_932) d_Model_init_153 ?_
  refine q_last E h_pr na2 hF 20 rfl (by decide) (by decide) d_Model_init_156 (fun H24 locs hq hA9 hF => ?_)
  have h_pr : AJ g H24 (mo + 2) 28 (prU 21) := AJ_prU (i := 20) hA9 (by decide)
  clear hA9
  have ho := hq.ob hK ho
  have hsz : H24.size = mo + 3 := hq.1.trans hsz
  have h_d := hq.ajo (show ¬ mo + 1 = mo + 2 from k_ne (by decide)) h_d
  have hlow : ∀ q, q < mo → H24[q]? = s.heap[q]? := fun q hq9 => (hq.off (show ¬ q = mo + 2 from k_q hq9)).trans (hlow q hq9)
  clear hq
  refine lv_dup hx hb d_Model_init_157 rfl ?_
  refine lv_bipush (v := nI 21) hx hb d_Model_init_158 (by decide) ?_
  refine lv_ldc2 (v := 43636692) hx hb E.2.2.2.1 (E.2.2.2.2.1 _ w_933) d_Model_init_160 ?_
  refine q_last E h_pr na2 hF 21 rfl (by decide) (by decide) d_Model_init_163 (fun H25 locs hq hA9 hF => ?_)
  have h_pr : AJ g H25 (mo + 2) 28 (prU 22) := AJ_prU (i := 21) hA9 (by decide)
  clear hA9
  have ho := hq.ob hK ho
  have hsz : H25.size = mo + 3 := hq.1.trans hsz
  have h_d := hq.ajo (show ¬ mo + 1 = mo + 2 from k_ne (by decide)) h_d
  have hlow : ∀ q, q < mo → H25[q]? = s.heap[q]? := fun q hq9 => (hq.off (show ¬ q = mo + 2 from k_q hq9)).trans (hlow q hq9)
  clear hq
  refine lv_dup hx hb d_Model_init_164 rfl ?_
  refine lv_bipush (v := nI 22) hx hb d_Model_init_165 (by decide) ?_
  refine lv_ldc2 (v := 65906515) hx hb E.2.2.2.1 (E.2.2.2.2.1 _ w_934) d_Model_init_167 ?_
  refine q_last E h_pr na2 hF 22 rfl (by decide) (by decide) d_Model_init_170 (fun H26 locs hq hA9 hF => ?_)
  have h_pr : AJ g H26 (mo + 2) 28 (prU 23) := AJ_prU (i := 22) hA9 (by decide)
  clear hA9
  have ho := hq.ob hK ho
  have hsz : H26.size = mo + 3 := hq.1.trans hsz
  have h_d := hq.ajo (show ¬ mo + 1 = mo + 2 from k_ne (by decide)) h_d
  have hlow : ∀ q, q < mo → H26[q]? = s.heap[q]? := fun q hq9 => (hq.off (show ¬ q = mo + 2 from k_q hq9)).trans (hlow q hq9)
  clear hq
  refine lv_dup hx hb d_Model_init_171 rfl ?_
  refine lv_bipush (v := nI 23) hx hb d_Model_init_172 (by decide) ?_
  refine lv_ldc2 (v := 7) hx hb E.2.2.2.1 (E.2.2.2.2.1 _ w_935) d_Model_init_174 ?_
  refine q_last E h_pr na2 hF 23 rfl (by decide) (by decide) d_Model_init_177 (fun H27 locs hq hA9 hF => ?_)
  have h_pr : AJ g H27 (mo + 2) 28 (prU 24) := AJ_prU (i := 23) hA9 (by decide)
  clear hA9
  have ho := hq.ob hK ho
  have hsz : H27.size = mo + 3 := hq.1.trans hsz
  have h_d := hq.ajo (show ¬ mo + 1 = mo + 2 from k_ne (by decide)) h_d
  have hlow : ∀ q, q < mo → H27[q]? = s.heap[q]? := fun q hq9 => (hq.off (show ¬ q = mo + 2 from k_q hq9)).trans (hlow q hq9)
  clear hq
  refine lv_dup hx hb d_Model_init_178 rfl ?_
  refine lv_bipush (v := nI 24) hx hb d_Model_init_179 (by decide) ?_
  refine lv_lconst (v := 0) hx hb d_Model_init_181 (by decide) ?_
  refine q_last E h_pr na2 hF 24 rfl (by decide) (by decide) d_Model_init_182 (fun H28 locs hq hA9 hF => ?_)
  have h_pr : AJ g H28 (mo + 2) 28 (prU 25) := AJ_prU (i := 24) hA9 (by decide)
  clear hA9
  have ho := hq.ob hK ho
  have hsz : H28.size = mo + 3 := hq.1.trans hsz
  have h_d := hq.ajo (show ¬ mo + 1 = mo + 2 from k_ne (by decide)) h_d
  have hlow : ∀ q, q < mo → H28[q]? = s.heap[q]? := fun q hq9 => (hq.off (show ¬ q = mo + 2 from k_q hq9)).trans (hlow q hq9)
  clear hq
  refine lv_dup hx hb d_Model_init_183 rfl ?_
  refine lv_bipush (v := nI 25) hx hb d_Model_init_184 (by decide) ?_
  refine lv_lconst (v := 0) hx hb d_Model_init_186 (by decide) ?_
  refine q_last E h_pr na2 hF 25 rfl (by decide) (by decide) d_Model_init_187 (fun H29 locs hq hA9 hF => ?_)
  have h_pr : AJ g H29 (mo + 2) 28 (prU 26) := AJ_prU (i := 25) hA9 (by decide)
  clear hA9
  have ho := hq.ob hK ho
  have hsz : H29.size = mo + 3 := hq.1.trans hsz
  have h_d := hq.ajo (show ¬ mo + 1 = mo + 2 from k_ne (by decide)) h_d
  have hlow : ∀ q, q < mo → H29[q]? = s.heap[q]? := fun q hq9 => (hq.off (show ¬ q = mo + 2 from k_q hq9)).trans (hlow q hq9)
  clear hq
  refine lv_dup hx hb d_Model_init_188 rfl ?_
  refine lv_bipush (v := nI 26) hx hb d_Model_init_189 (by decide) ?_
  refine lv_lconst (v := 0) hx hb d_Model_init_191 (by decide) ?_
  refine q_last E h_pr na2 hF 26 rfl (by decide) (by decide) d_Model_init_192 (fun H30 locs hq hA9 hF => ?_)
  have h_pr : AJ g H30 (mo + 2) 28 (prU 27) := AJ_prU (i := 26) hA9 (by decide)
  clear hA9
  have ho := hq.ob hK ho
  have hsz : H30.size = mo + 3 := hq.1.trans hsz
  have h_d := hq.ajo (show ¬ mo + 1 = mo + 2 from k_ne (by decide)) h_d
  have hlow : ∀ q, q < mo → H30[q]? = s.heap[q]? := fun q hq9 => (hq.off (show ¬ q = mo + 2 from k_q hq9)).trans (hlow q hq9)
  clear hq
  refine lv_dup hx hb d_Model_init_193 rfl ?_
  refine lv_bipush (v := nI 27) hx hb d_Model_init_194 (by decide) ?_
  refine lv_lconst (v := 0) hx hb d_Model_init_196 (by decide) ?_
  refine q_last E h_pr na2 hF 27 rfl (by decide) (by decide) d_Model_init_197 (fun H31 locs hq hA9 hF => ?_)
  have h_pr : AJ g H31 (mo + 2) 28 (prU 28) := AJ_prU (i := 27) hA9 (by decide)
  clear hA9
  have ho := hq.ob hK ho
  have hsz : H31.size = mo + 3 := hq.1.trans hsz
  have h_d := hq.ajo (show ¬ mo + 1 = mo + 2 from k_ne (by decide)) h_d
  have hlow : ∀ q, q < mo → H31[q]? = s.heap[q]? := fun q hq9 => (hq.off (show ¬ q = mo + 2 from k_q hq9)).trans (hlow q hq9)
  clear hq
  have h_pr := h_pr.ext prU_eq
  refine q_putF (C := "KateDeskModel") (T := T_Model) (N := 14) (ci := 8) (ty := .array (.long)) E ho in_Model ty_Model tyok_Model nm_Model rfl 2 (by decide) w_1003 rfl rfl hnm rfl (by decide +kernel) rfl rfl (Nat.le_of_ble_eq_true rfl) na0 hF d_Model_init_198 (fun H32 locs hq ho2 hF => ?_)
  have hsz : H32.size = mo + 3 := hq.1.trans hsz
  have ho := ho2
  have h_d := AJ.off hq (show ¬ mo + 1 = mo from k_m (by decide)) h_d
  have h_pr := AJ.off hq (show ¬ mo + 2 = mo from k_m (by decide)) h_pr
  have hlow : ∀ q, q < mo → H32[q]? = s.heap[q]? := fun q hq9 => (hq.2 q (show ¬ q = mo from Nat.ne_of_lt hq9)).trans (hlow q hq9)
  clear hq ho2
  refine lv_aload_n hx hb d_Model_init_201 rfl (lv_at hl 0 rfl) ?_
  refine lv_bipush (v := nI 28) hx hb d_Model_init_202 (by decide) ?_
  refine q_newJ E 28 rfl (by decide) w_64 (by decide) (by decide) hsz d_Model_init_204 (fun H33 hsz2 hnw h_ba => ?_)
  have hsz : H33.size = mo + 4 := hsz2
  clear hsz2
  have ho := ho.eq (hnw mo (k_mo (by decide)))
  have h_d := h_d.eq (hnw _ (Nat.add_lt_add_left (by decide) _))
  have h_pr := h_pr.eq (hnw _ (Nat.add_lt_add_left (by decide) _))
  have hlow : ∀ q, q < mo → H33[q]? = s.heap[q]? := fun q hq9 => (hnw q (k_lt hq9)).trans (hlow q hq9)
  clear hnw
  have h_ba : AJ g H33 (mo + 3) 28 (baU 0) := by rw [baU_0]; exact h_ba
  refine lv_dup hx hb d_Model_init_206 rfl ?_
  refine lv_iconst (v := nI 0) hx hb d_Model_init_207 (by decide) ?_
  refine lv_ldc2 (v := 186828475) hx hb E.2.2.2.1 (E.2.2.2.2.1 _ w_936) d_Model_init_208 ?_
  refine q_last E h_ba na3 hF 0 rfl (by decide) (by decide) d_Model_init_211 (fun H34 locs hq hA9 hF => ?_)
  have h_ba : AJ g H34 (mo + 3) 28 (baU 1) := AJ_baU (i := 0) hA9 (by decide)
  clear hA9
  have ho := hq.ob hK ho
  have hsz : H34.size = mo + 4 := hq.1.trans hsz
  have h_d := hq.ajo (show ¬ mo + 1 = mo + 3 from k_ne (by decide)) h_d
  have h_pr := hq.ajo (show ¬ mo + 2 = mo + 3 from k_ne (by decide)) h_pr
  have hlow : ∀ q, q < mo → H34[q]? = s.heap[q]? := fun q hq9 => (hq.off (show ¬ q = mo + 3 from k_q hq9)).trans (hlow q hq9)
  clear hq
  refine lv_dup hx hb d_Model_init_212 rfl ?_
  refine lv_iconst (v := nI 1) hx hb d_Model_init_213 (by decide) ?_
  refine lv_ldc2 (v := 61800621) hx hb E.2.2.2.1 (E.2.2.2.2.1 _ w_937) d_Model_init_214 ?_
  refine q_last E h_ba na3 hF 1 rfl (by decide) (by decide) d_Model_init_217 (fun H35 locs hq hA9 hF => ?_)
  have h_ba : AJ g H35 (mo + 3) 28 (baU 2) := AJ_baU (i := 1) hA9 (by decide)
  clear hA9
  have ho := hq.ob hK ho
  have hsz : H35.size = mo + 4 := hq.1.trans hsz
  have h_d := hq.ajo (show ¬ mo + 1 = mo + 3 from k_ne (by decide)) h_d
  have h_pr := hq.ajo (show ¬ mo + 2 = mo + 3 from k_ne (by decide)) h_pr
  have hlow : ∀ q, q < mo → H35[q]? = s.heap[q]? := fun q hq9 => (hq.off (show ¬ q = mo + 3 from k_q hq9)).trans (hlow q hq9)
  clear hq
  refine lv_dup hx hb d_Model_init_218 rfl ?_
  refine lv_iconst (v := nI 2) hx hb d_Model_init_219 (by decide) ?_
  refine lv_ldc2 (v := 169537531) hx hb E.2.2.2.1 (E.2.2.2.2.1 _ w_938) d_Model_init_220 ?_
  refine q_last E h_ba na3 hF 2 rfl (by decide) (by decide) d_Model_init_223 (fun H36 locs hq hA9 hF => ?_)
  have h_ba : AJ g H36 (mo + 3) 28 (baU 3) := AJ_baU (i := 2) hA9 (by decide)
  clear hA9
  have ho := hq.ob hK ho
  have hsz : H36.size = mo + 4 := hq.1.trans hsz
  have h_d := hq.ajo (show ¬ mo + 1 = mo + 3 from k_ne (by decide)) h_d
  have h_pr := hq.ajo (show ¬ mo + 2 = mo + 3 from k_ne (by decide)) h_pr
  have hlow : ∀ q, q < mo → H36[q]? = s.heap[q]? := fun q hq9 => (hq.off (show ¬ q = mo + 3 from k_q hq9)).trans (hlow q hq9)
  clear hq
  refine lv_dup hx hb d_Model_init_224 rfl ?_
  refine lv_iconst (v := nI 3) hx hb d_Model_init_225 (by decide) ?_
  refine lv_ldc2 (v := 243531671) hx hb E.2.2.2.1 (E.2.2.2.2.1 _ w_939) d_Model_init_226 ?_
  refine q_last E h_ba na3 hF 3 rfl (by decide) (by decide) d_Model_init_229 (fun H37 locs hq hA9 hF => ?_)
  have h_ba : AJ g H37 (mo + 3) 28 (baU 4) := AJ_baU (i := 3) hA9 (by decide)
  clear hA9
  have ho := hq.ob hK ho
  have hsz : H37.size = mo + 4 := hq.1.trans hsz
  have h_d := hq.ajo (show ¬ mo + 1 = mo + 3 from k_ne (by decide)) h_d
  have h_pr := hq.ajo (show ¬ mo + 2 = mo + 3 from k_ne (by decide)) h_pr
  have hlow : ∀ q, q < mo → H37[q]? = s.heap[q]? := fun q hq9 => (hq.off (show ¬ q = mo + 3 from k_q hq9)).trans (hlow q hq9)
  clear hq
  refine lv_dup hx hb d_Model_init_230 rfl ?_
  refine lv_iconst (v := nI 4) hx hb d_Model_init_231 (by decide) ?_
  refine lv_ldc2 (v := 207121493) hx hb E.2.2.2.1 (E.2.2.2.2.1 _ w_940) d_Model_init_232 ?_
  refine q_last E h_ba na3 hF 4 rfl (by decide) (by decide) d_Model_init_235 (fun H38 locs hq hA9 hF => ?_)
  have h_ba : AJ g H38 (mo + 3) 28 (baU 5) := AJ_baU (i := 4) hA9 (by decide)
  clear hA9
  have ho := hq.ob hK ho
  have hsz : H38.size = mo + 4 := hq.1.trans hsz
  have h_d := hq.ajo (show ¬ mo + 1 = mo + 3 from k_ne (by decide)) h_d
  have h_pr := hq.ajo (show ¬ mo + 2 = mo + 3 from k_ne (by decide)) h_pr
  have hlow : ∀ q, q < mo → H38[q]? = s.heap[q]? := fun q hq9 => (hq.off (show ¬ q = mo + 3 from k_q hq9)).trans (hlow q hq9)
  clear hq
  refine lv_dup hx hb d_Model_init_236 rfl ?_
  refine lv_iconst (v := nI 5) hx hb d_Model_init_237 (by decide) ?_
  refine lv_ldc2 (v := 66154938) hx hb E.2.2.2.1 (E.2.2.2.2.1 _ w_941) d_Model_init_238 ?_
  refine q_last E h_ba na3 hF 5 rfl (by decide) (by decide) d_Model_init_241 (fun H39 locs hq hA9 hF => ?_)
  have h_ba : AJ g H39 (mo + 3) 28 (baU 6) := AJ_baU (i := 5) hA9 (by decide)
  clear hA9
  have ho := hq.ob hK ho
  have hsz : H39.size = mo + 4 := hq.1.trans hsz
  have h_d := hq.ajo (show ¬ mo + 1 = mo + 3 from k_ne (by decide)) h_d
  have h_pr := hq.ajo (show ¬ mo + 2 = mo + 3 from k_ne (by decide)) h_pr
  have hlow : ∀ q, q < mo → H39[q]? = s.heap[q]? := fun q hq9 => (hq.off (show ¬ q = mo + 3 from k_q hq9)).trans (hlow q hq9)
  clear hq
  refine lv_dup hx hb d_Model_init_242 rfl ?_
  refine lv_bipush (v := nI 6) hx hb d_Model_init_243 (by decide) ?_
  refine lv_ldc2 (v := 94457402) hx hb E.2.2.2.1 (E.2.2.2.2.1 _ w_942) d_Model_init_245 ?_
  refine q_last E h_ba na3 hF 6 rfl (by decide) (by decide) d_Model_init_248 (fun H40 locs hq hA9 hF => ?_)
  have h_ba : AJ g H40 (mo + 3) 28 (baU 7) := AJ_baU (i := 6) hA9 (by decide)
  clear hA9
  have ho := hq.ob hK ho
  have hsz : H40.size = mo + 4 := hq.1.trans hsz
  have h_d := hq.ajo (show ¬ mo + 1 = mo + 3 from k_ne (by decide)) h_d
  have h_pr := hq.ajo (show ¬ mo + 2 = mo + 3 from k_ne (by decide)) h_pr
  have hlow : ∀ q, q < mo → H40[q]? = s.heap[q]? := fun q hq9 => (hq.off (show ¬ q = mo + 3 from k_q hq9)).trans (hlow q hq9)
  clear hq
  refine lv_dup hx hb d_Model_init_249 rfl ?_
  refine lv_bipush (v := nI 7) hx hb d_Model_init_250 (by decide) ?_
  refine lv_ldc2 (v := 158813072) hx hb E.2.2.2.1 (E.2.2.2.2.1 _ w_943) d_Model_init_252 ?_
  refine q_last E h_ba na3 hF 7 rfl (by decide) (by decide) d_Model_init_255 (fun H41 locs hq hA9 hF => ?_)
  have h_ba : AJ g H41 (mo + 3) 28 (baU 8) := AJ_baU (i := 7) hA9 (by decide)
  clear hA9
  have ho := hq.ob hK ho
  have hsz : H41.size = mo + 4 := hq.1.trans hsz
  have h_d := hq.ajo (show ¬ mo + 1 = mo + 3 from k_ne (by decide)) h_d
  have h_pr := hq.ajo (show ¬ mo + 2 = mo + 3 from k_ne (by decide)) h_pr
  have hlow : ∀ q, q < mo → H41[q]? = s.heap[q]? := fun q hq9 => (hq.off (show ¬ q = mo + 3 from k_q hq9)).trans (hlow q hq9)
  clear hq
  refine lv_dup hx hb d_Model_init_256 rfl ?_
  refine lv_bipush (v := nI 8) hx hb d_Model_init_257 (by decide) ?_
  refine lv_ldc2 (v := 57183311) hx hb E.2.2.2.1 (E.2.2.2.2.1 _ w_944) d_Model_init_259 ?_
  refine q_last E h_ba na3 hF 8 rfl (by decide) (by decide) d_Model_init_262 (fun H42 locs hq hA9 hF => ?_)
  have h_ba : AJ g H42 (mo + 3) 28 (baU 9) := AJ_baU (i := 8) hA9 (by decide)
  clear hA9
  have ho := hq.ob hK ho
  have hsz : H42.size = mo + 4 := hq.1.trans hsz
  have h_d := hq.ajo (show ¬ mo + 1 = mo + 3 from k_ne (by decide)) h_d
  have h_pr := hq.ajo (show ¬ mo + 2 = mo + 3 from k_ne (by decide)) h_pr
  have hlow : ∀ q, q < mo → H42[q]? = s.heap[q]? := fun q hq9 => (hq.off (show ¬ q = mo + 3 from k_q hq9)).trans (hlow q hq9)
  clear hq
  refine lv_dup hx hb d_Model_init_263 rfl ?_
  refine lv_bipush (v := nI 9) hx hb d_Model_init_264 (by decide) ?_
  refine lv_ldc2 (v := 177914108) hx hb E.2.2.2.1 (E.2.2.2.2.1 _ w_945) d_Model_init_266 ?_
  refine q_last E h_ba na3 hF 9 rfl (by decide) (by decide) d_Model_init_269 (fun H43 locs hq hA9 hF => ?_)
  have h_ba : AJ g H43 (mo + 3) 28 (baU 10) := AJ_baU (i := 9) hA9 (by decide)
  clear hA9
  have ho := hq.ob hK ho
  have hsz : H43.size = mo + 4 := hq.1.trans hsz
  have h_d := hq.ajo (show ¬ mo + 1 = mo + 3 from k_ne (by decide)) h_d
  have h_pr := hq.ajo (show ¬ mo + 2 = mo + 3 from k_ne (by decide)) h_pr
  have hlow : ∀ q, q < mo → H43[q]? = s.heap[q]? := fun q hq9 => (hq.off (show ¬ q = mo + 3 from k_q hq9)).trans (hlow q hq9)
  clear hq
  refine lv_dup hx hb d_Model_init_270 rfl ?_
  refine lv_bipush (v := nI 10) hx hb d_Model_init_271 (by decide) ?_
  refine lv_ldc2 (v := 90410063) hx hb E.2.2.2.1 (E.2.2.2.2.1 _ w_946) d_Model_init_273 ?_
  refine q_last E h_ba na3 hF 10 rfl (by decide) (by decide) d_Model_init_276 (fun H44 locs hq hA9 hF => ?_)
  have h_ba : AJ g H44 (mo + 3) 28 (baU 11) := AJ_baU (i := 10) hA9 (by decide)
  clear hA9
  have ho := hq.ob hK ho
  have hsz : H44.size = mo + 4 := hq.1.trans hsz
  have h_d := hq.ajo (show ¬ mo + 1 = mo + 3 from k_ne (by decide)) h_d
  have h_pr := hq.ajo (show ¬ mo + 2 = mo + 3 from k_ne (by decide)) h_pr
  have hlow : ∀ q, q < mo → H44[q]? = s.heap[q]? := fun q hq9 => (hq.off (show ¬ q = mo + 3 from k_q hq9)).trans (hlow q hq9)
  clear hq
  refine lv_dup hx hb d_Model_init_277 rfl ?_
  refine lv_bipush (v := nI 11) hx hb d_Model_init_278 (by decide) ?_
  refine lv_ldc2 (v := 226050665) hx hb E.2.2.2.1 (E.2.2.2.2.1 _ w_947) d_Model_init_280 ?_
  refine q_last E h_ba na3 hF 11 rfl (by decide) (by decide) d_Model_init_283 (fun H45 locs hq hA9 hF => ?_)
  have h_ba : AJ g H45 (mo + 3) 28 (baU 12) := AJ_baU (i := 11) hA9 (by decide)
  clear hA9
  have ho := hq.ob hK ho
  have hsz : H45.size = mo + 4 := hq.1.trans hsz
  have h_d := hq.ajo (show ¬ mo + 1 = mo + 3 from k_ne (by decide)) h_d
  have h_pr := hq.ajo (show ¬ mo + 2 = mo + 3 from k_ne (by decide)) h_pr
  have hlow : ∀ q, q < mo → H45[q]? = s.heap[q]? := fun q hq9 => (hq.off (show ¬ q = mo + 3 from k_q hq9)).trans (hlow q hq9)
  clear hq
  refine lv_dup hx hb d_Model_init_284 rfl ?_
  refine lv_bipush (v := nI 12) hx hb d_Model_init_285 (by decide) ?_
  refine lv_ldc2 (v := 61288855) hx hb E.2.2.2.1 (E.2.2.2.2.1 _ w_948) d_Model_init_287 ?_
  refine q_last E h_ba na3 hF 12 rfl (by decide) (by decide) d_Model_init_290 (fun H46 locs hq hA9 hF => ?_)
  have h_ba : AJ g H46 (mo + 3) 28 (baU 13) := AJ_baU (i := 12) hA9 (by decide)
  clear hA9
  have ho := hq.ob hK ho
  have hsz : H46.size = mo + 4 := hq.1.trans hsz
  have h_d := hq.ajo (show ¬ mo + 1 = mo + 3 from k_ne (by decide)) h_d
  have h_pr := hq.ajo (show ¬ mo + 2 = mo + 3 from k_ne (by decide)) h_pr
  have hlow : ∀ q, q < mo → H46[q]? = s.heap[q]? := fun q hq9 => (hq.off (show ¬ q = mo + 3 from k_q hq9)).trans (hlow q hq9)
  clear hq
  refine lv_dup hx hb d_Model_init_291 rfl ?_
  refine lv_bipush (v := nI 13) hx hb d_Model_init_292 (by decide) ?_
  refine lv_ldc2 (v := 98077) hx hb E.2.2.2.1 (E.2.2.2.2.1 _ w_949) d_Model_init_294 ?_
  refine q_last E h_ba na3 hF 13 rfl (by decide) (by decide) d_Model_init_297 (fun H47 locs hq hA9 hF => ?_)
  have h_ba : AJ g H47 (mo + 3) 28 (baU 14) := AJ_baU (i := 13) hA9 (by decide)
  clear hA9
  have ho := hq.ob hK ho
  have hsz : H47.size = mo + 4 := hq.1.trans hsz
  have h_d := hq.ajo (show ¬ mo + 1 = mo + 3 from k_ne (by decide)) h_d
  have h_pr := hq.ajo (show ¬ mo + 2 = mo + 3 from k_ne (by decide)) h_pr
  have hlow : ∀ q, q < mo → H47[q]? = s.heap[q]? := fun q hq9 => (hq.off (show ¬ q = mo + 3 from k_q hq9)).trans (hlow q hq9)
  clear hq
  refine lv_dup hx hb d_Model_init_298 rfl ?_
  refine lv_bipush (v := nI 14) hx hb d_Model_init_299 (by decide) ?_
  refine lv_ldc2 (v := 113633249) hx hb E.2.2.2.1 (E.2.2.2.2.1 _ w_950) d_Model_init_301 ?_
  refine q_last E h_ba na3 hF 14 rfl (by decide) (by decide) d_Model_init_304 (fun H48 locs hq hA9 hF => ?_)
  have h_ba : AJ g H48 (mo + 3) 28 (baU 15) := AJ_baU (i := 14) hA9 (by decide)
  clear hA9
  have ho := hq.ob hK ho
  have hsz : H48.size = mo + 4 := hq.1.trans hsz
  have h_d := hq.ajo (show ¬ mo + 1 = mo + 3 from k_ne (by decide)) h_d
  have h_pr := hq.ajo (show ¬ mo + 2 = mo + 3 from k_ne (by decide)) h_pr
  have hlow : ∀ q, q < mo → H48[q]? = s.heap[q]? := fun q hq9 => (hq.off (show ¬ q = mo + 3 from k_q hq9)).trans (hlow q hq9)
  clear hq
  refine lv_dup hx hb d_Model_init_305 rfl ?_
  refine lv_bipush (v := nI 15) hx hb d_Model_init_306 (by decide) ?_
  refine lv_ldc2 (v := 178401940) hx hb E.2.2.2.1 (E.2.2.2.2.1 _ w_951) d_Model_init_308 ?_
  refine q_last E h_ba na3 hF 15 rfl (by decide) (by decide) d_Model_init_311 (fun H49 locs hq hA9 hF => ?_)
  have h_ba : AJ g H49 (mo + 3) 28 (baU 16) := AJ_baU (i := 15) hA9 (by decide)
  clear hA9
  have ho := hq.ob hK ho
  have hsz : H49.size = mo + 4 := hq.1.trans hsz
  have h_d := hq.ajo (show ¬ mo + 1 = mo + 3 from k_ne (by decide)) h_d
  have h_pr := hq.ajo (show ¬ mo + 2 = mo + 3 from k_ne (by decide)) h_pr
  have hlow : ∀ q, q < mo → H49[q]? = s.heap[q]? := fun q hq9 => (hq.off (show ¬ q = mo + 3 from k_q hq9)).trans (hlow q hq9)
  clear hq
  refine lv_dup hx hb d_Model_init_312 rfl ?_
  refine lv_bipush (v := nI 16) hx hb d_Model_init_313 (by decide) ?_
  refine lv_ldc2 (v := 143320076) hx hb E.2.2.2.1 (E.2.2.2.2.1 _ w_952) d_Model_init_315 ?_
  refine q_last E h_ba na3 hF 16 rfl (by decide) (by decide) d_Model_init_318 (fun H50 locs hq hA9 hF => ?_)
  have h_ba : AJ g H50 (mo + 3) 28 (baU 17) := AJ_baU (i := 16) hA9 (by decide)
  clear hA9
  have ho := hq.ob hK ho
  have hsz : H50.size = mo + 4 := hq.1.trans hsz
  have h_d := hq.ajo (show ¬ mo + 1 = mo + 3 from k_ne (by decide)) h_d
  have h_pr := hq.ajo (show ¬ mo + 2 = mo + 3 from k_ne (by decide)) h_pr
  have hlow : ∀ q, q < mo → H50[q]? = s.heap[q]? := fun q hq9 => (hq.off (show ¬ q = mo + 3 from k_q hq9)).trans (hlow q hq9)
  clear hq
  refine lv_dup hx hb d_Model_init_319 rfl ?_
  refine lv_bipush (v := nI 17) hx hb d_Model_init_320 (by decide) ?_
  refine lv_ldc2 (v := 208947752) hx hb E.2.2.2.1 (E.2.2.2.2.1 _ w_953) d_Model_init_322 ?_
  refine q_last E h_ba na3 hF 17 rfl (by decide) (by decide) d_Model_init_325 (fun H51 locs hq hA9 hF => ?_)
  have h_ba : AJ g H51 (mo + 3) 28 (baU 18) := AJ_baU (i := 17) hA9 (by decide)
  clear hA9
  have ho := hq.ob hK ho
  have hsz : H51.size = mo + 4 := hq.1.trans hsz
  have h_d := hq.ajo (show ¬ mo + 1 = mo + 3 from k_ne (by decide)) h_d
  have h_pr := hq.ajo (show ¬ mo + 2 = mo + 3 from k_ne (by decide)) h_pr
  have hlow : ∀ q, q < mo → H51[q]? = s.heap[q]? := fun q hq9 => (hq.off (show ¬ q = mo + 3 from k_q hq9)).trans (hlow q hq9)
  clear hq
  refine lv_dup hx hb d_Model_init_326 rfl ?_
  refine lv_bipush (v := nI 18) hx hb d_Model_init_327 (by decide) ?_
  refine lv_ldc2 (v := 65916988) hx hb E.2.2.2.1 (E.2.2.2.2.1 _ w_954) d_Model_init_329 ?_
  refine q_last E h_ba na3 hF 18 rfl (by decide) (by decide) d_Model_init_332 (fun H52 locs hq hA9 hF => ?_)
  have h_ba : AJ g H52 (mo + 3) 28 (baU 19) := AJ_baU (i := 18) hA9 (by decide)
  clear hA9
  have ho := hq.ob hK ho
  have hsz : H52.size = mo + 4 := hq.1.trans hsz
  have h_d := hq.ajo (show ¬ mo + 1 = mo + 3 from k_ne (by decide)) h_d
  have h_pr := hq.ajo (show ¬ mo + 2 = mo + 3 from k_ne (by decide)) h_pr
  have hlow : ∀ q, q < mo → H52[q]? = s.heap[q]? := fun q hq9 => (hq.off (show ¬ q = mo + 3 from k_q hq9)).trans (hlow q hq9)
  clear hq
  refine lv_dup hx hb d_Model_init_333 rfl ?_
  refine lv_bipush (v := nI 19) hx hb d_Model_init_334 (by decide) ?_
  refine lv_ldc2 (v := 213041227) hx hb E.2.2.2.1 (E.2.2.2.2.1 _ w_955) d_Model_init_336 ?_
  refine q_last E h_ba na3 hF 19 rfl (by decide) (by decide) d_Model_init_339 (fun H53 locs hq hA9 hF => ?_)
  have h_ba : AJ g H53 (mo + 3) 28 (baU 20) := AJ_baU (i := 19) hA9 (by decide)
  clear hA9
  have ho := hq.ob hK ho
  have hsz : H53.size = mo + 4 := hq.1.trans hsz
  have h_d := hq.ajo (show ¬ mo + 1 = mo + 3 from k_ne (by decide)) h_d
  have h_pr := hq.ajo (show ¬ mo + 2 = mo + 3 from k_ne (by decide)) h_pr
  have hlow : ∀ q, q < mo → H53[q]? = s.heap[q]? := fun q hq9 => (hq.off (show ¬ q = mo + 3 from k_q hq9)).trans (hlow q hq9)
  clear hq
  refine lv_dup hx hb d_Model_init_340 rfl ?_
  refine lv_bipush (v := nI 20) hx hb d_Model_init_341 (by decide) ?_
  refine lv_ldc2 (v := 100719384) hx hb E.2.2.2.1 (E.2.2.2.2.1 _ w_956) d_Model_init_343 ?_
  refine q_last E h_ba na3 hF 20 rfl (by decide) (by decide) d_Model_init_346 (fun H54 locs hq hA9 hF => ?_)
  have h_ba : AJ g H54 (mo + 3) 28 (baU 21) := AJ_baU (i := 20) hA9 (by decide)
  clear hA9
  have ho := hq.ob hK ho
  have hsz : H54.size = mo + 4 := hq.1.trans hsz
  have h_d := hq.ajo (show ¬ mo + 1 = mo + 3 from k_ne (by decide)) h_d
  have h_pr := hq.ajo (show ¬ mo + 2 = mo + 3 from k_ne (by decide)) h_pr
  have hlow : ∀ q, q < mo → H54[q]? = s.heap[q]? := fun q hq9 => (hq.off (show ¬ q = mo + 3 from k_q hq9)).trans (hlow q hq9)
  clear hq
  refine lv_dup hx hb d_Model_init_347 rfl ?_
  refine lv_bipush (v := nI 21) hx hb d_Model_init_348 (by decide) ?_
  refine lv_ldc2 (v := 224198831) hx hb E.2.2.2.1 (E.2.2.2.2.1 _ w_957) d_Model_init_350 ?_
  refine q_last E h_ba na3 hF 21 rfl (by decide) (by decide) d_Model_init_353 (fun H55 locs hq hA9 hF => ?_)
  have h_ba : AJ g H55 (mo + 3) 28 (baU 22) := AJ_baU (i := 21) hA9 (by decide)
  clear hA9
  have ho := hq.ob hK ho
  have hsz : H55.size = mo + 4 := hq.1.trans hsz
  have h_d := hq.ajo (show ¬ mo + 1 = mo + 3 from k_ne (by decide)) h_d
  have h_pr := hq.ajo (show ¬ mo + 2 = mo + 3 from k_ne (by decide)) h_pr
  have hlow : ∀ q, q < mo → H55[q]? = s.heap[q]? := fun q hq9 => (hq.off (show ¬ q = mo + 3 from k_q hq9)).trans (hlow q hq9)
  clear hq
  refine lv_dup hx hb d_Model_init_354 rfl ?_
  refine lv_bipush (v := nI 22) hx hb d_Model_init_355 (by decide) ?_
  refine lv_ldc2 (v := 217440405) hx hb E.2.2.2.1 (E.2.2.2.2.1 _ w_958) d_Model_init_357 ?_
  refine q_last E h_ba na3 hF 22 rfl (by decide) (by decide) d_Model_init_360 (fun H56 locs hq hA9 hF => ?_)
  have h_ba : AJ g H56 (mo + 3) 28 (baU 23) := AJ_baU (i := 22) hA9 (by decide)
  clear hA9
  have ho := hq.ob hK ho
  have hsz : H56.size = mo + 4 := hq.1.trans hsz
  have h_d := hq.ajo (show ¬ mo + 1 = mo + 3 from k_ne (by decide)) h_d
  have h_pr := hq.ajo (show ¬ mo + 2 = mo + 3 from k_ne (by decide)) h_pr
  have hlow : ∀ q, q < mo → H56[q]? = s.heap[q]? := fun q hq9 => (hq.off (show ¬ q = mo + 3 from k_q hq9)).trans (hlow q hq9)
  clear hq
  refine lv_dup hx hb d_Model_init_361 rfl ?_
  refine lv_bipush (v := nI 23) hx hb d_Model_init_362 (by decide) ?_
  refine lv_ldc2 (v := 30977615) hx hb E.2.2.2.1 (E.2.2.2.2.1 _ w_959) d_Model_init_364 ?_
  refine q_last E h_ba na3 hF 23 rfl (by decide) (by decide) d_Model_init_367 (fun H57 locs hq hA9 hF => ?_)
  have h_ba : AJ g H57 (mo + 3) 28 (baU 24) := AJ_baU (i := 23) hA9 (by decide)
  clear hA9
  have ho := hq.ob hK ho
  have hsz : H57.size = mo + 4 := hq.1.trans hsz
  have h_d := hq.ajo (show ¬ mo + 1 = mo + 3 from k_ne (by decide)) h_d
  have h_pr := hq.ajo (show ¬ mo + 2 = mo + 3 from k_ne (by decide)) h_pr
  have hlow : ∀ q, q < mo → H57[q]? = s.heap[q]? := fun q hq9 => (hq.off (show ¬ q = mo + 3 from k_q hq9)).trans (hlow q hq9)
  clear hq
  refine lv_dup hx hb d_Model_init_368 rfl ?_
  refine lv_bipush (v := nI 24) hx hb d_Model_init_369 (by decide) ?_
  refine lv_ldc2 (v := 238087540) hx hb E.2.2.2.1 (E.2.2.2.2.1 _ w_960) d_Model_init_371 ?_
  refine q_last E h_ba na3 hF 24 rfl (by decide) (by decide) d_Model_init_374 (fun H58 locs hq hA9 hF => ?_)
  have h_ba : AJ g H58 (mo + 3) 28 (baU 25) := AJ_baU (i := 24) hA9 (by decide)
  clear hA9
  have ho := hq.ob hK ho
  have hsz : H58.size = mo + 4 := hq.1.trans hsz
  have h_d := hq.ajo (show ¬ mo + 1 = mo + 3 from k_ne (by decide)) h_d
  have h_pr := hq.ajo (show ¬ mo + 2 = mo + 3 from k_ne (by decide)) h_pr
  have hlow : ∀ q, q < mo → H58[q]? = s.heap[q]? := fun q hq9 => (hq.off (show ¬ q = mo + 3 from k_q hq9)).trans (hlow q hq9)
  clear hq
  refine lv_dup hx hb d_Model_init_375 rfl ?_
  refine lv_bipush (v := nI 25) hx hb d_Model_init_376 (by decide) ?_
  refine lv_ldc2 (v := 168761865) hx hb E.2.2.2.1 (E.2.2.2.2.1 _ w_961) d_Model_init_378 ?_
  refine q_last E h_ba na3 hF 25 rfl (by decide) (by decide) d_Model_init_381 (fun H59 locs hq hA9 hF => ?_)
  have h_ba : AJ g H59 (mo + 3) 28 (baU 26) := AJ_baU (i := 25) hA9 (by decide)
  clear hA9
  have ho := hq.ob hK ho
  have hsz : H59.size = mo + 4 := hq.1.trans hsz
  have h_d := hq.ajo (show ¬ mo + 1 = mo + 3 from k_ne (by decide)) h_d
  have h_pr := hq.ajo (show ¬ mo + 2 = mo + 3 from k_ne (by decide)) h_pr
  have hlow : ∀ q, q < mo → H59[q]? = s.heap[q]? := fun q hq9 => (hq.off (show ¬ q = mo + 3 from k_q hq9)).trans (hlow q hq9)
  clear hq
  refine lv_dup hx hb d_Model_init_382 rfl ?_
  refine lv_bipush (v := nI 26) hx hb d_Model_init_383 (by decide) ?_
  refine lv_ldc2 (v := 75621290) hx hb E.2.2.2.1 (E.2.2.2.2.1 _ w_962) d_Model_init_385 ?_
  refine q_last E h_ba na3 hF 26 rfl (by decide) (by decide) d_Model_init_388 (fun H60 locs hq hA9 hF => ?_)
  have h_ba : AJ g H60 (mo + 3) 28 (baU 27) := AJ_baU (i := 26) hA9 (by decide)
  clear hA9
  have ho := hq.ob hK ho
  have hsz : H60.size = mo + 4 := hq.1.trans hsz
  have h_d := hq.ajo (show ¬ mo + 1 = mo + 3 from k_ne (by decide)) h_d
  have h_pr := hq.ajo (show ¬ mo + 2 = mo + 3 from k_ne (by decide)) h_pr
  have hlow : ∀ q, q < mo → H60[q]? = s.heap[q]? := fun q hq9 => (hq.off (show ¬ q = mo + 3 from k_q hq9)).trans (hlow q hq9)
  clear hq
  refine lv_dup hx hb d_Model_init_389 rfl ?_
  refine lv_bipush (v := nI 27) hx hb d_Model_init_390 (by decide) ?_
  refine lv_ldc2 (v := 35647) hx hb E.2.2.2.1 (E.2.2.2.2.1 _ w_963) d_Model_init_392 ?_
  refine q_last E h_ba na3 hF 27 rfl (by decide) (by decide) d_Model_init_395 (fun H61 locs hq hA9 hF => ?_)
  have h_ba : AJ g H61 (mo + 3) 28 (baU 28) := AJ_baU (i := 27) hA9 (by decide)
  clear hA9
  have ho := hq.ob hK ho
  have hsz : H61.size = mo + 4 := hq.1.trans hsz
  have h_d := hq.ajo (show ¬ mo + 1 = mo + 3 from k_ne (by decide)) h_d
  have h_pr := hq.ajo (show ¬ mo + 2 = mo + 3 from k_ne (by decide)) h_pr
  have hlow : ∀ q, q < mo → H61[q]? = s.heap[q]? := fun q hq9 => (hq.off (show ¬ q = mo + 3 from k_q hq9)).trans (hlow q hq9)
  clear hq
  have h_ba := h_ba.ext baU_eq
  refine q_putF (C := "KateDeskModel") (T := T_Model) (N := 14) (ci := 8) (ty := .array (.long)) E ho in_Model ty_Model tyok_Model nm_Model rfl 3 (by decide) w_1004 rfl rfl hnm rfl (by decide +kernel) rfl rfl (Nat.le_of_ble_eq_true rfl) na0 hF d_Model_init_396 (fun H62 locs hq ho2 hF => ?_)
  have hsz : H62.size = mo + 4 := hq.1.trans hsz
  have ho := ho2
  have h_d := AJ.off hq (show ¬ mo + 1 = mo from k_m (by decide)) h_d
  have h_pr := AJ.off hq (show ¬ mo + 2 = mo from k_m (by decide)) h_pr
  have h_ba := AJ.off hq (show ¬ mo + 3 = mo from k_m (by decide)) h_ba
  have hlow : ∀ q, q < mo → H62[q]? = s.heap[q]? := fun q hq9 => (hq.2 q (show ¬ q = mo from Nat.ne_of_lt hq9)).trans (hlow q hq9)
  clear hq ho2
  refine lv_aload_n hx hb d_Model_init_399 rfl (lv_at hl 0 rfl) ?_
  refine lv_sipush (v := nI 420) hx hb d_Model_init_400 (by decide) ?_
  refine q_newJ E 420 rfl (by decide) w_64 (by decide) (by decide) hsz d_Model_init_403 (fun H63 hsz2 hnw h_ab => ?_)
  have hsz : H63.size = mo + 5 := hsz2
  clear hsz2
  have ho := ho.eq (hnw mo (k_mo (by decide)))
  have h_d := h_d.eq (hnw _ (Nat.add_lt_add_left (by decide) _))
  have h_pr := h_pr.eq (hnw _ (Nat.add_lt_add_left (by decide) _))
  have h_ba := h_ba.eq (hnw _ (Nat.add_lt_add_left (by decide) _))
  have hlow : ∀ q, q < mo → H63[q]? = s.heap[q]? := fun q hq9 => (hnw q (k_lt hq9)).trans (hlow q hq9)
  clear hnw
  refine q_putF (C := "KateDeskModel") (T := T_Model) (N := 14) (ci := 8) (ty := .array (.long)) E ho in_Model ty_Model tyok_Model nm_Model rfl 4 (by decide) w_1005 rfl rfl hnm rfl (by decide +kernel) rfl rfl (Nat.le_of_ble_eq_true rfl) na0 hF d_Model_init_405 (fun H64 locs hq ho2 hF => ?_)
  have hsz : H64.size = mo + 5 := hq.1.trans hsz
  have ho := ho2
  have h_d := AJ.off hq (show ¬ mo + 1 = mo from k_m (by decide)) h_d
  have h_pr := AJ.off hq (show ¬ mo + 2 = mo from k_m (by decide)) h_pr
  have h_ba := AJ.off hq (show ¬ mo + 3 = mo from k_m (by decide)) h_ba
  have h_ab := AJ.off hq (show ¬ mo + 4 = mo from k_m (by decide)) h_ab
  have hlow : ∀ q, q < mo → H64[q]? = s.heap[q]? := fun q hq9 => (hq.2 q (show ¬ q = mo from Nat.ne_of_lt hq9)).trans (hlow q hq9)
  clear hq ho2
  refine lv_aload_n hx hb d_Model_init_408 rfl (lv_at hl 0 rfl) ?_
  refine lv_bipush (v := nI 32) hx hb d_Model_init_409 (by decide) ?_
  refine q_newJ E 32 rfl (by decide) w_64 (by decide) (by decide) hsz d_Model_init_411 (fun H65 hsz2 hnw h_ac => ?_)
  have hsz : H65.size = mo + 6 := hsz2
  clear hsz2
  have ho := ho.eq (hnw mo (k_mo (by decide)))
  have h_d := h_d.eq (hnw _ (Nat.add_lt_add_left (by decide) _))
  have h_pr := h_pr.eq (hnw _ (Nat.add_lt_add_left (by decide) _))
  have h_ba := h_ba.eq (hnw _ (Nat.add_lt_add_left (by decide) _))
  have h_ab := h_ab.eq (hnw _ (Nat.add_lt_add_left (by decide) _))
  have hlow : ∀ q, q < mo → H65[q]? = s.heap[q]? := fun q hq9 => (hnw q (k_lt hq9)).trans (hlow q hq9)
  clear hnw
  refine q_putF (C := "KateDeskModel") (T := T_Model) (N := 14) (ci := 8) (ty := .array (.long)) E ho in_Model ty_Model tyok_Model nm_Model rfl 5 (by decide) w_1006 rfl rfl hnm rfl (by decide +kernel) rfl rfl (Nat.le_of_ble_eq_true rfl) na0 hF d_Model_init_413 (fun H66 locs hq ho2 hF => ?_)
  have hsz : H66.size = mo + 6 := hq.1.trans hsz
  have ho := ho2
  have h_d := AJ.off hq (show ¬ mo + 1 = mo from k_m (by decide)) h_d
  have h_pr := AJ.off hq (show ¬ mo + 2 = mo from k_m (by decide)) h_pr
  have h_ba := AJ.off hq (show ¬ mo + 3 = mo from k_m (by decide)) h_ba
  have h_ab := AJ.off hq (show ¬ mo + 4 = mo from k_m (by decide)) h_ab
  have h_ac := AJ.off hq (show ¬ mo + 5 = mo from k_m (by decide)) h_ac
  have hlow : ∀ q, q < mo → H66[q]? = s.heap[q]? := fun q hq9 => (hq.2 q (show ¬ q = mo from Nat.ne_of_lt hq9)).trans (hlow q hq9)
  clear hq ho2
  refine lv_aload_n hx hb d_Model_init_416 rfl (lv_at hl 0 rfl) ?_
  refine lv_bipush (v := nI 96) hx hb d_Model_init_417 (by decide) ?_
  refine q_newI E 96 rfl (by decide) w_1044 (by decide) (by decide) hsz d_Model_init_419 (fun H67 hsz2 hnw h_ta => ?_)
  have hsz : H67.size = mo + 7 := hsz2
  clear hsz2
  have ho := ho.eq (hnw mo (k_mo (by decide)))
  have h_d := h_d.eq (hnw _ (Nat.add_lt_add_left (by decide) _))
  have h_pr := h_pr.eq (hnw _ (Nat.add_lt_add_left (by decide) _))
  have h_ba := h_ba.eq (hnw _ (Nat.add_lt_add_left (by decide) _))
  have h_ab := h_ab.eq (hnw _ (Nat.add_lt_add_left (by decide) _))
  have h_ac := h_ac.eq (hnw _ (Nat.add_lt_add_left (by decide) _))
  have hlow : ∀ q, q < mo → H67[q]? = s.heap[q]? := fun q hq9 => (hnw q (k_lt hq9)).trans (hlow q hq9)
  clear hnw
  refine q_putF (C := "KateDeskModel") (T := T_Model) (N := 14) (ci := 8) (ty := .array (.int)) E ho in_Model ty_Model tyok_Model nm_Model rfl 9 (by decide) w_1010 rfl rfl hnm rfl (by decide +kernel) rfl rfl (Nat.le_of_ble_eq_true rfl) na0 hF d_Model_init_421 (fun H68 locs hq ho2 hF => ?_)
  have hsz : H68.size = mo + 7 := hq.1.trans hsz
  have ho := ho2
  have h_d := AJ.off hq (show ¬ mo + 1 = mo from k_m (by decide)) h_d
  have h_pr := AJ.off hq (show ¬ mo + 2 = mo from k_m (by decide)) h_pr
  have h_ba := AJ.off hq (show ¬ mo + 3 = mo from k_m (by decide)) h_ba
  have h_ab := AJ.off hq (show ¬ mo + 4 = mo from k_m (by decide)) h_ab
  have h_ac := AJ.off hq (show ¬ mo + 5 = mo from k_m (by decide)) h_ac
  have h_ta := AI.off hq (show ¬ mo + 6 = mo from k_m (by decide)) h_ta
  have hlow : ∀ q, q < mo → H68[q]? = s.heap[q]? := fun q hq9 => (hq.2 q (show ¬ q = mo from Nat.ne_of_lt hq9)).trans (hlow q hq9)
  clear hq ho2
  refine lv_aload_n hx hb d_Model_init_424 rfl (lv_at hl 0 rfl) ?_
  refine lv_bipush (v := nI 96) hx hb d_Model_init_425 (by decide) ?_
  refine q_newI E 96 rfl (by decide) w_1044 (by decide) (by decide) hsz d_Model_init_427 (fun H69 hsz2 hnw h_te => ?_)
  have hsz : H69.size = mo + 8 := hsz2
  clear hsz2
  have ho := ho.eq (hnw mo (k_mo (by decide)))
  have h_d := h_d.eq (hnw _ (Nat.add_lt_add_left (by decide) _))
  have h_pr := h_pr.eq (hnw _ (Nat.add_lt_add_left (by decide) _))
  have h_ba := h_ba.eq (hnw _ (Nat.add_lt_add_left (by decide) _))
  have h_ab := h_ab.eq (hnw _ (Nat.add_lt_add_left (by decide) _))
  have h_ac := h_ac.eq (hnw _ (Nat.add_lt_add_left (by decide) _))
  have h_ta := h_ta.eq (hnw _ (Nat.add_lt_add_left (by decide) _))
  have hlow : ∀ q, q < mo → H69[q]? = s.heap[q]? := fun q hq9 => (hnw q (k_lt hq9)).trans (hlow q hq9)
  clear hnw
  refine q_putF (C := "KateDeskModel") (T := T_Model) (N := 14) (ci := 8) (ty := .array (.int)) E ho in_Model ty_Model tyok_Model nm_Model rfl 11 (by decide) w_1012 rfl rfl hnm rfl (by decide +kernel) rfl rfl (Nat.le_of_ble_eq_true rfl) na0 hF d_Model_init_429 (fun H70 locs hq ho2 hF => ?_)
  have hsz : H70.size = mo + 8 := hq.1.trans hsz
  have ho := ho2
  have h_d := AJ.off hq (show ¬ mo + 1 = mo from k_m (by decide)) h_d
  have h_pr := AJ.off hq (show ¬ mo + 2 = mo from k_m (by decide)) h_pr
  have h_ba := AJ.off hq (show ¬ mo + 3 = mo from k_m (by decide)) h_ba
  have h_ab := AJ.off hq (show ¬ mo + 4 = mo from k_m (by decide)) h_ab
  have h_ac := AJ.off hq (show ¬ mo + 5 = mo from k_m (by decide)) h_ac
  have h_ta := AI.off hq (show ¬ mo + 6 = mo from k_m (by decide)) h_ta
  have h_te := AI.off hq (show ¬ mo + 7 = mo from k_m (by decide)) h_te
  have hlow : ∀ q, q < mo → H70[q]? = s.heap[q]? := fun q hq9 => (hq.2 q (show ¬ q = mo from Nat.ne_of_lt hq9)).trans (hlow q hq9)
  clear hq ho2
  refine lv_aload_n hx hb d_Model_init_432 rfl (lv_at hl 0 rfl) ?_
  refine lv_sipush (v := nI 224) hx hb d_Model_init_433 (by decide) ?_
  refine q_newJ E 224 rfl (by decide) w_64 (by decide) (by decide) hsz d_Model_init_436 (fun H71 hsz2 hnw h_ho => ?_)
  have hsz : H71.size = mo + 9 := hsz2
  clear hsz2
  have ho := ho.eq (hnw mo (k_mo (by decide)))
  have h_d := h_d.eq (hnw _ (Nat.add_lt_add_left (by decide) _))
  have h_pr := h_pr.eq (hnw _ (Nat.add_lt_add_left (by decide) _))
  have h_ba := h_ba.eq (hnw _ (Nat.add_lt_add_left (by decide) _))
  have h_ab := h_ab.eq (hnw _ (Nat.add_lt_add_left (by decide) _))
  have h_ac := h_ac.eq (hnw _ (Nat.add_lt_add_left (by decide) _))
  have h_ta := h_ta.eq (hnw _ (Nat.add_lt_add_left (by decide) _))
  have h_te := h_te.eq (hnw _ (Nat.add_lt_add_left (by decide) _))
  have hlow : ∀ q, q < mo → H71[q]? = s.heap[q]? := fun q hq9 => (hnw q (k_lt hq9)).trans (hlow q hq9)
  clear hnw
  refine q_putF (C := "KateDeskModel") (T := T_Model) (N := 14) (ci := 8) (ty := .array (.long)) E ho in_Model ty_Model tyok_Model nm_Model rfl 13 (by decide) w_1014 rfl rfl hnm rfl (by decide +kernel) rfl rfl (Nat.le_of_ble_eq_true rfl) na0 hF d_Model_init_438 (fun H72 locs hq ho2 hF => ?_)
  have hsz : H72.size = mo + 9 := hq.1.trans hsz
  have ho := ho2
  have h_d := AJ.off hq (show ¬ mo + 1 = mo from k_m (by decide)) h_d
  have h_pr := AJ.off hq (show ¬ mo + 2 = mo from k_m (by decide)) h_pr
  have h_ba := AJ.off hq (show ¬ mo + 3 = mo from k_m (by decide)) h_ba
  have h_ab := AJ.off hq (show ¬ mo + 4 = mo from k_m (by decide)) h_ab
  have h_ac := AJ.off hq (show ¬ mo + 5 = mo from k_m (by decide)) h_ac
  have h_ta := AI.off hq (show ¬ mo + 6 = mo from k_m (by decide)) h_ta
  have h_te := AI.off hq (show ¬ mo + 7 = mo from k_m (by decide)) h_te
  have h_ho := AJ.off hq (show ¬ mo + 8 = mo from k_m (by decide)) h_ho
  have hlow : ∀ q, q < mo → H72[q]? = s.heap[q]? := fun q hq9 => (hq.2 q (show ¬ q = mo from Nat.ne_of_lt hq9)).trans (hlow q hq9)
  clear hq ho2
  have hm : MS g n0 H72 mo 0 0 0 0 0 0 (fun _ => 0) := ⟨ho, h_pr, ⟨_, h_ab, fun k _ => dg0⟩, ⟨_, h_ac⟩, h_d, fun k _ => dg0, na1, na5⟩
  have hho : HO g H72 mo := ⟨_, h_ho, fun k _ => dg0⟩
  exact rest _ _ ls hm hho ⟨_, h_ta⟩ ⟨_, h_te⟩ h_ba hsz hlow hF hl
