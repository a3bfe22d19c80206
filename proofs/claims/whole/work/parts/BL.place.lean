set_option maxHeartbeats 4000000 in
set_option maxRecDepth 100000 in
theorem L_Sums_place (l : Launch) (g : WG) (n0 : Nat → Prop) (o cu od dg sm s1 s2 s3 : Nat) (fo : Nat) (F : Nat → Nat) (mi : Int64) (X : Nat → Nat) (O O1 O2 O3 : Nat → Nat) (DG : Nat → Nat) (n1 : Nat → Prop) (t a : Nat) (y y1 y2 y3 : Nat) (P : P3) (fa : Nat → Int64) (s9 : Nat) (hfa : RV fa (s9 : Int)) (hs9 : s9 ≠ 0) (hs256 : s9 < 2 ^ 256) (hPC : onC P) (ht : t < 16) (hn1 : ∀ q, n1 q → n0 q) (hmi : mi = 268238845) (hA9 : SAP F X O1 O2 O3 s1 s2 s3) (hXb : ∀ i, i < 9 → y1 ≠ X i ∧ y2 ≠ X i ∧ y3 ≠ X i) (hOb : ∀ k, k < 64 → (y1 ≠ O1 k ∧ y1 ≠ O2 k ∧ y1 ≠ O3 k) ∧ (y2 ≠ O1 k ∧ y2 ≠ O2 k ∧ y2 ≠ O3 k) ∧ y3 ≠ O1 k ∧ y3 ≠ O2 k ∧ y3 ≠ O3 k) (hdn : ¬ (fun q => (∃ i, i < 9 ∧ q = X i) ∨ q = F 5 ∨ q = s1 ∨ q = s2 ∨ q = s3 ∨ ∃ k, t * 4 ≤ k ∧ k < t * 4 + 4 ∧ (q = O1 k ∨ q = O2 k ∨ q = O3 k)) (DG t)) : Ctr l y_Sums_place (.code y_Sums_place prog_9_method_2_code 4 none) 5 211 0 0 n0 g [.ref o, .int (nI t), .ref a, .ref y] (fun H => SO g n1 H o cu od dg sm s1 s2 s3 fo F mi X O O1 O2 O3 ∧ AR g.2.2.2.2.2.2 H dg 16 DG ∧ (n0 (DG t) ∧ ∃ f, AB g H (DG t) 257 f) ∧ AJ g H a 14 fa ∧ PT g n1 H y y1 y2 y3 ∧ AJ g H (F 0) 14 kQ ∧ LPt g H y1 y2 y3 P) (QV (fun H H' => KJ g (fun q => q = DG t ∨ (fun q => (∃ i, i < 9 ∧ q = X i) ∨ q = F 5 ∨ q = s1 ∨ q = s2 ∨ q = s3 ∨ ∃ k, t * 4 ≤ k ∧ k < t * 4 + 4 ∧ (q = O1 k ∨ q = O2 k ∨ q = O3 k)) q) H H' ∧ (∃ f, AB g H' (DG t) 257 f ∧ (∀ j, j < 257 → DO (f j)) ∧ DSg (fun j => (f j).toInt) 257 = (s9 : Int)) ∧ ∀ m9 : Nat, m9 < 4 → ∃ W, RP P (2 * (m9 : Int) + 1) W ∧ LPt g H' (O1 (t * 4 + m9)) (O2 (t * 4 + m9)) (O3 (t * 4 + m9)) W)) := by
  refine ctr_mk l (lv0 := [(0, .ref o), (1, .int (nI t)), (2, .ref a), (3, .ref y)]) (by decide) (Nat.le_of_ble_eq_true rfl) rfl ?_
  intro p e s m below meth c ls E hr hlk hnm hl hP
  have hx := E.1
  have hb := E.2.1
  have hK := E.2.2.2.2.2
  have hF : ∀ q ∈ ([] : List Loc), n0 q.base := fun q hq => absurd hq List.not_mem_nil
  obtain ⟨hso, hdr, hdt, h_a, h_y, hM, hLy⟩ := hP
  have hdb := hdt.2
  obtain ⟨fb9, hfb9⟩ := hdb
  refine lv_aload_n hx hb d_Sums_place_0 rfl (lv_at hl 0 rfl) ?_
  refine lv_iload_n hx hb d_Sums_place_1 rfl (lv_at hl 1 rfl) ?_
  refine lv_aload_n hx hb d_Sums_place_2 rfl (lv_at hl 2 rfl) ?_
  refine lv_iconst (v := nI 0) hx hb d_Sums_place_3 (by decide) ?_
  refine lv_sipush (v := nI 256) hx hb d_Sums_place_4 (by decide) ?_
  refine q_cV (rest := []) E (L_Sums_recode l g n0 o cu od dg sm DG t a 256 0 fa s9 hfa ht (by decide) (by decide)) w_681 w_12 w_678 w_679 w_680 hd_Sums_recode rfl ⟨by decide, by decide⟩ (OB.recv E.2.2.2.2.2 (by rfl) hso.1) (⟨hso.1, hdr, hdt, h_a⟩) hF hl.1 rfl (Nat.le_of_ble_eq_true rfl) d_Sums_place_7 ⟨by decide, by decide⟩ (qv (fun H1 locs hq hF => ?_))
  obtain ⟨hk, f9, hf9, hdo, hzz, hds⟩ := hq
  rw [Nat.pow_zero, Nat.div_one, Nat.mod_eq_of_lt hs256] at hds
  have hnj : ∀ {r : Nat} {f : Nat → Int64}, AJ g s.heap r 14 f → AJ g H1 r 14 f := fun hr9 => hk.ajo (aj_ne hr9 hK.jb hfb9) hr9
  refine lv_aload_n hx hb d_Sums_place_10 rfl (lv_at hl 2 rfl) ?_
  refine q_cS (rest := []) E (V_Limbs_isZero l g n0 a fa (s9 : Int) hfa) w_548 w_5 w_689 w_547 hd_Limbs_isZero rfl ⟨by decide, by decide⟩ (hnj h_a) hF hl.1 rfl (Nat.le_of_ble_eq_true rfl) d_Sums_place_11 ⟨by decide, by decide⟩ (qi (fun r H2 locs hq hF => ?_))
  obtain ⟨hr9, hq⟩ := hq
  have hq := hq.symm
  subst hq
  have hr0 : r = 0 := (hr9.resolve_left (fun h => hs9 (Int.ofNat.inj h.2))).1
  subst hr0
  refine lv_if_ne (tgt := 23) hx hb d_Sums_place_14 (by decide) (fun h9 => absurd (rfl) h9) (fun _ => ?_)
  refine lv_aload_n hx hb d_Sums_place_17 rfl (lv_at hl 0 rfl) ?_
  refine lv_iload_n hx hb d_Sums_place_18 rfl (lv_at hl 1 rfl) ?_
  refine lv_aload_n hx hb d_Sums_place_19 rfl (lv_at hl 3 rfl) ?_
  refine q_cV (rest := []) E ((L_Sums_tabulate l g n1 o cu od dg sm s1 s2 s3 fo F mi X O O1 O2 O3 t y y1 y2 y3 P hPC ht hmi hA9 hXb hOb).up hn1) w_693 w_12 w_690 w_691 w_692 hd_Sums_tabulate rfl ⟨by decide, by decide⟩ (OB.recv E.2.2.2.2.2 (by rfl) ((hk.so hK hso).1)) (⟨hk.so hK hso, hk.pt hK h_y, hnj hM, hLy.1.imp (fun f hf => ⟨hnj hf.1, hf.2⟩), hLy.2.1.imp (fun f hf => ⟨hnj hf.1, hf.2⟩), hLy.2.2.imp (fun f hf => ⟨hnj hf.1, hf.2⟩)⟩) hF hl.1 rfl (Nat.le_of_ble_eq_true rfl) d_Sums_place_20 ⟨by decide, by decide⟩ (qv (fun H3 locs hq hF => ?_))
  obtain ⟨hq, -, hW⟩ := hq
  exact q_vret E hr hlk (⟨rfl, (hk.mono (fun q h => Or.inl h)).tr (hq.mono (fun q h => Or.inr h)), ⟨f9, hq.abo hdn hf9, hdo, hds⟩, hW⟩) hF d_Sums_place_23
