theorem dg0 : dg 0 := ⟨by decide, by decide⟩
theorem k_mo {mo a : Nat} (h : 0 < a) : mo < mo + a := by omega
theorem k_lt {q mo a : Nat} (h : q < mo) : q < mo + a := by omega
theorem k_ne {mo a b : Nat} (h : a ≠ b) : ¬ mo + a = mo + b := by omega
theorem k_q {q mo a : Nat} (h : q < mo) : ¬ q = mo + a := by omega
theorem k_m {mo a : Nat} (h : a ≠ 0) : ¬ mo + a = mo := by omega
theorem prU_0 : prU 0 = fun _ => 0 := rfl
theorem prU_s (n : Nat) : prU (n + 1) = vp_updL (prU n) n (kPr n) := rfl
theorem AJ_prU {g : WG} {H : Heap} {a i : Nat} {v : Int64} (h : AJ g H a 28 (vp_updL (prU i) i v)) (hv : v = kPr i) : AJ g H a 28 (prU (i + 1)) := by
  rw [prU_s, ← hv]; exact h
theorem baU_0 : baU 0 = fun _ => 0 := rfl
theorem baU_s (n : Nat) : baU (n + 1) = vp_updL (baU n) n (kBa n) := rfl
theorem AJ_baU {g : WG} {H : Heap} {a i : Nat} {v : Int64} (h : AJ g H a 28 (vp_updL (baU i) i v)) (hv : v = kBa i) : AJ g H a 28 (baU (i + 1)) := by
  rw [baU_s, ← hv]; exact h
theorem k_R6 (mo : Nat) : ¬ MR mo (mo + 6) := by unfold MR; omega
theorem k_R7 (mo : Nat) : ¬ MR mo (mo + 7) := by unfold MR; omega
theorem k_R3 (mo : Nat) : ¬ MR mo (mo + 3) := by unfold MR; omega
theorem k_Rq {q mo : Nat} (h : q < mo) : ¬ MR mo q := by unfold MR; omega
set_option maxHeartbeats 4000000 in
set_option maxRecDepth 100000 in
theorem c_Model_useA (l : Launch) (g : WG) (n0 : Nat → Prop) (mo : Nat) (th pw td wr : Int32) (w n : Nat) (w2 n2 : Nat) (hw2 : WH w2 n2) (fd : Nat → Int64) (hmn : n0 mo) : Ctr l y_Model_use (.code y_Model_use prog_11_method_5_code 2 none) 0 0 0 0 n0 g [.ref mo, .int (nI w2)] (fun H => MS g n0 H mo th pw td wr w n fd) (QV (fun H H' => FRM (MR mo) H H' ∧ MS g n0 H' mo th pw td wr w2 n2 fd)) := by
  refine ctr_mk l (lv0 := [(0, .ref mo), (1, .int (nI w2))]) (by decide) (Nat.le_of_ble_eq_true rfl) rfl ?_
  intro p e s m below meth c ls E hr hlk hnm hl hP
  have hx := E.1
  have hb := E.2.1
  have hK := E.2.2.2.2.2
  have hF : ∀ q ∈ ([] : List Loc), n0 q.base := fun q hq => absurd hq List.not_mem_nil
  obtain ⟨hmo, hpr, ⟨fa, hab, had⟩, ⟨fc, hac⟩, hfd, hDD, hn01, hn05⟩ := id hP
  refine lv_aload_n hx hb d_Model_use_0 rfl (lv_at hl 0 rfl) ?_
  refine lv_iload_n hx hb d_Model_use_1 rfl (lv_at hl 1 rfl) ?_
  refine q_put (C := "KateDeskModel") (T := T_Model) (N := 14) (ci := 8) (ty := .int) E hmo in_Model ty_Model tyok_Model nm_Model rfl 6 (by decide) w_1007 rfl rfl (by decide +kernel) rfl rfl (Nat.le_of_ble_eq_true rfl) hmn hF d_Model_use_2 (fun H1 locs hq ho2 hF => ?_)
  have hfr := hq
  refine lv_aload_n hx hb d_Model_use_5 rfl (lv_at hl 0 rfl) ?_
  refine lv_iload_n hx hb d_Model_use_6 rfl (lv_at hl 1 rfl) ?_
  refine lv_if_ne (tgt := 15) hx hb d_Model_use_7 (by decide) (fun hc => ?_) (fun hc => ?_)
  rotate_left
  · skip
    rcases hw2 with ⟨rfl, rfl⟩ | ⟨rfl, rfl⟩
    · skip
      refine lv_bipush (v := nI 14) hx hb d_Model_use_10 (by decide) ?_
      refine lv_goto (tgt := 17) hx hb d_Model_use_12 (by decide) ?_
      refine q_put (C := "KateDeskModel") (T := T_Model) (N := 14) (ci := 8) (ty := .int) E ho2 in_Model ty_Model tyok_Model nm_Model rfl 7 (by decide) w_1008 rfl rfl (by decide +kernel) rfl rfl (Nat.le_of_ble_eq_true rfl) hmn hF d_Model_use_17 (fun H2 locs hq2 ho3 hF => ?_)
      have hfr := hfr.tr hq2
      exact q_vret E hr hlk (⟨rfl, hfr.mono (fun q h => Or.inl h), hP.frm hfr (by omega) (by omega) (by omega) (by omega) ho3⟩) hF d_Model_use_20
    · exact absurd hc (by decide)
  rcases hw2 with ⟨rfl, rfl⟩ | ⟨rfl, rfl⟩
  · exact absurd rfl hc
  · skip
    refine lv_bipush (v := nI 10) hx hb d_Model_use_15 (by decide) ?_
    refine q_put (C := "KateDeskModel") (T := T_Model) (N := 14) (ci := 8) (ty := .int) E ho2 in_Model ty_Model tyok_Model nm_Model rfl 7 (by decide) w_1008 rfl rfl (by decide +kernel) rfl rfl (Nat.le_of_ble_eq_true rfl) hmn hF d_Model_use_17 (fun H2 locs hq2 ho3 hF => ?_)
    have hfr := hfr.tr hq2
    exact q_vret E hr hlk (⟨rfl, hfr.mono (fun q h => Or.inl h), hP.frm hfr (by omega) (by omega) (by omega) (by omega) ho3⟩) hF d_Model_use_20