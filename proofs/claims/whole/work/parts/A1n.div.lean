/-- the scalars of the desk -/
def SCA (g : WG) (H : Heap) (b : Nat) (A : Nat → Int) : Prop := ∀ k, k < 32 → ∃ f, AJ g H (kSc b k) 14 f ∧ RV f (A k) ∧ A k < RI
def updI (A : Nat → Int) (j : Nat) (v : Int) (k : Nat) : Int := if k = j then v else A k
theorem RV.nn {f : Nat → Int64} {x : Int} (h : RV f x) : 0 ≤ x := by
  have := VL_range h.1
  rw [h.2] at this
  exact this.1
theorem SCA.kj {g : WG} {S : Nat → Prop} {H H' : Heap} {b : Nat} {A : Nat → Int} (h : SCA g H b A) (hk : KJ g S H H') (hS : ∀ q, S q → ¬ (b + 2 ≤ q ∧ q ≤ b + 33)) : SCA g H' b A := fun k hk1 => (h k hk1).imp (fun f hf => ⟨hk.ajo (fun hs => hS _ hs (by unfold kSc; omega)) hf.1, hf.2⟩)
theorem SCA.set {g : WG} {H H' : Heap} {b j : Nat} {A : Nat → Int} {f : Nat → Int64} {v : Int} (h : SCA g H b A) (hk : KJ g (fun q => q = kSc b j) H H') (hA : AJ g H' (kSc b j) 14 f) (hv : RV f v) (hv2 : v < RI) : SCA g H' b (updI A j v) := by
  intro k hk1
  by_cases e : k = j
  · subst e
    exact ⟨f, hA, by unfold updI; rw [if_pos rfl]; exact hv, by unfold updI; rw [if_pos rfl]; exact hv2⟩
  · obtain ⟨f2, h1, h2⟩ := h k hk1
    refine ⟨f2, hk.ajo (fun hs => e (by unfold kSc at hs; omega)) h1, ?_⟩
    unfold updI
    rw [if_neg e]
    exact h2
/-- the division by x - Z, from the highest coefficient on -/
def dvS (a : Nat) (Z : Int) : Nat → (Nat → Int) × Int → (Nat → Int) × Int
  | 0, p => p
  | k + 1, p => dvS a Z k (updI p.1 (a + k) p.2, (p.2 * Z + p.1 (a + k)) % RI)
theorem lz_mul (v Z : Int) : (v * ((Z * WR) % RI) * WIR) % RI = (v * Z) % RI := by
  rw [show v * ((Z * WR) % RI) * WIR = ((Z * WR) % RI) * (v * WIR) by grind, Int.mul_emod, Int.emod_emod_of_dvd _ (Int.dvd_refl _), ← Int.mul_emod, ← ww_r (v * Z)]
  congr 1
  grind
theorem add_m {x y : Int} (hx : 0 ≤ x ∧ x < RI) (hy : 0 ≤ y ∧ y < RI) : (if x + y < RI then x + y else x + y - RI) = (x + y) % RI := by
  have hr := RI_pos
  split
  · rw [Int.emod_eq_of_lt (by omega) (by assumption)]
  · rw [← Int.sub_emod_right, Int.emod_eq_of_lt (by omega) (by omega)]
theorem add_e (x y : Int) : (x % RI + y) % RI = (x + y) % RI := Int.emod_add_emod _ _ _
set_option maxHeartbeats 4000000 in
set_option maxRecDepth 100000 in
theorem R_Polys_divide (l : Launch) (g : WG) (n0 : Nat → Prop) (b : Nat) (mr : Int64) (hmr : mr = 268435455) (a n : Nat) (A : Nat → Int) (Z : Int) (fz : Nat → Int64) (hn : 1 ≤ n) (han : a + n ≤ 32) (hvz : RV fz ((Z * WR) % RI)) : Ctr l y_Polys_divide (.code y_Polys_divide prog_7_method_5_code 7 none) 2 135 0 0 n0 g [.ref (b + 470), .ref (b + 160), .ref (b + 1), .int (nI a), .int (nI n), .ref (b + 161)] (fun H => PO g n0 H (b + 470) (b + 162) (b + 478) (kFr b) mr (kY b) (kV b) ∧ CR g H b ∧ J14 g n0 H (b + 160) ∧ RS g n0 H (b + 1) 32 (kSc b) ∧ SCA g H b A ∧ AJ g H (b + 161) 14 fz) (QV (fun H H' => KJ g (fun q => q = kY b 6 ∨ q = b + 160 ∨ (b + 2 ≤ q ∧ q ≤ b + 33)) H H' ∧ SCA g H' b (dvS a Z n (A, 0)).1 ∧ ∃ fv, AJ g H' (b + 160) 14 fv ∧ RV fv (dvS a Z n (A, 0)).2 ∧ (dvS a Z n (A, 0)).2 < RI)) := by
  refine ctr_mk l (lv0 := [(0, .ref (b + 470)), (1, .ref (b + 160)), (2, .ref (b + 1)), (3, .int (nI a)), (4, .int (nI n)), (5, .ref (b + 161))]) (by decide) (Nat.le_of_ble_eq_true rfl) rfl ?_
  intro p e s m below meth c ls E hr hlk hnm hl hP
  have hx := E.1
  have hb := E.2.1
  have hK := E.2.2.2.2.2
  have hF : ∀ q ∈ ([] : List Loc), n0 q.base := fun q hq => absurd hq List.not_mem_nil
  obtain ⟨hpo, hcr, hjv, hrs, hsc, hfz⟩ := hP
  have n168 : ¬ (kFr b 0 = kY b 6 ∨ kFr b 0 = b + 160 ∨ (b + 2 ≤ kFr b 0 ∧ kFr b 0 ≤ b + 33)) := by
    show ¬ (b + 168 = b + 477 ∨ b + 168 = b + 160 ∨ (b + 2 ≤ b + 168 ∧ b + 168 ≤ b + 33))
    omega
  have n161 : ¬ (b + 161 = kY b 6 ∨ b + 161 = b + 160 ∨ (b + 2 ≤ b + 161 ∧ b + 161 ≤ b + 33)) := by
    show ¬ (b + 161 = b + 477 ∨ b + 161 = b + 160 ∨ (b + 2 ≤ b + 161 ∧ b + 161 ≤ b + 33))
    omega
  have loop : ∀ (k : Nat) (H : Heap) (locs : List Loc) (ls : Array Slot) (x : Int32) (A1 : Nat → Int) (v1 : Int) (fv : Nat → Int64), k ≤ n → x = nI (a + k) - 1 → KJ g (fun q => q = kY b 6 ∨ q = b + 160 ∨ (b + 2 ≤ q ∧ q ≤ b + 33)) s.heap H → SCA g H b A1 → AJ g H (b + 160) 14 fv → RV fv v1 → v1 < RI → dvS a Z k (A1, v1) = dvS a Z n (A, 0) → (∀ q ∈ locs, n0 q.base) → lv_has ls 7 [(6, .int x), (0, .ref (b + 470)), (1, .ref (b + 160)), (2, .ref (b + 1)), (3, .int (nI a)), (5, .ref (b + 161))] → W p l e { frames := 2, cells := 0, slots := 0, locals := 135 } s m [.ref (b + 470), .ref (b + 160), .ref (b + 1), .int (nI a), .int (nI n), .ref (b + 161)].toArray below meth c H locs 0 0 (MQ below (QcP (QV (fun H H' => KJ g (fun q => q = kY b 6 ∨ q = b + 160 ∨ (b + 2 ≤ q ∧ q ≤ b + 33)) H H' ∧ SCA g H' b (dvS a Z n (A, 0)).1 ∧ ∃ fv, AJ g H' (b + 160) 14 fv ∧ RV fv (dvS a Z n (A, 0)).2 ∧ (dvS a Z n (A, 0)).2 < RI))) [.ref (b + 470), .ref (b + 160), .ref (b + 1), .int (nI a), .int (nI n), .ref (b + 161)].toArray s 0 0 (fun q => n0 q)) (F0 m 12 ls []) := by
    intro k
    induction k with
    | zero =>
      intro  H   locs   ls   x   A1   v1   fv hk0 hxx hk hsa hfv hvv hv1 hdv hF hl
      refine lv_iload hx hb d_Polys_divide_12 (lv_at hl 0 rfl) ?_
      refine lv_iload_n hx hb d_Polys_divide_14 rfl (lv_at hl 4 rfl) ?_
      refine lv_icmp_lt (tgt := 73) hx hb d_Polys_divide_15 (by decide) (fun _ => ?_) (fun h9 => absurd (by rw [hxx]; exact dn_lt (by omega)) h9)
      have hdv : (A1, v1) = dvS a Z n (A, 0) := hdv
      rw [← hdv]
      exact q_vret E hr hlk (⟨rfl, hk, hsa, _, hfv, hvv, hv1⟩) hF d_Polys_divide_73
    | succ k ih =>
      intro  H   locs   ls   x   A1   v1   fv hk0 hxx hk hsa hfv hvv hv1 hdv hF hl
      have hxx : x = nI (a + k) := hxx.trans (nI_pred _)
      subst hxx
      refine lv_iload hx hb d_Polys_divide_12 (lv_at hl 0 rfl) ?_
      refine lv_iload_n hx hb d_Polys_divide_14 rfl (lv_at hl 4 rfl) ?_
      refine lv_icmp_lt (tgt := 73) hx hb d_Polys_divide_15 (by decide) (fun h9 => absurd h9 (nI_nlt (by omega) (by omega))) (fun _ => ?_)
      have hak : a + k < 32 := by omega
      obtain ⟨fr, hfr, hvr, hr9⟩ := hsa (a + k) hak
      refine lv_aload_n hx hb d_Polys_divide_18 rfl (lv_at hl 1 rfl) ?_
      refine q_get (C := "KateDesk$Polynomials") (T := T_Polys) (N := 9) (ci := 7) E ((hk.po hK hpo).1) in_Polys rfl 0 (by decide) w_303 rfl rfl d_Polys_divide_19 ?_
      refine lv_aload_n hx hb d_Polys_divide_22 rfl (lv_at hl 1 rfl) ?_
      refine q_get (C := "KateDesk$Polynomials") (T := T_Polys) (N := 9) (ci := 7) E ((hk.po hK hpo).1) in_Polys rfl 7 (by decide) w_310 rfl rfl d_Polys_divide_23 ?_
      refine lv_aload_n hx hb d_Polys_divide_26 rfl (lv_at hl 2 rfl) ?_
      refine lv_aload hx hb d_Polys_divide_27 (lv_at hl 5 rfl) ?_
      refine q_cV (rest := []) E (R_Field_multiply l g n0 (b + 162) (kY b 6) (b + 160) (b + 161) (kFr b) mr fv fz v1 ((Z * WR) % RI) hvv hvz hv1 ((rm_r _).2) (show b + 168 ≠ b + 477 by omega) hmr) w_165 w_4 w_854 w_163 w_164 hd_Field_multiply rfl ⟨by decide, by decide⟩ (OB.recv E.2.2.2.2.2 (by rfl) ((hk.po hK hpo).2.1.1)) (⟨(hk.po hK hpo).2.1, ((hk.po hK hpo).2.2.1 6 (by decide)), hfv, (hk.ajo n161 hfz), (hk.ajo n168 hcr.1)⟩) hF hl.1 rfl (Nat.le_of_ble_eq_true rfl) d_Polys_divide_29 ⟨by decide, by decide⟩ (qv (fun H1 locs hq hF => ?_))
      obtain ⟨hq, g1, hg1, hw1⟩ := hq
      rw [lz_mul] at hw1
      have hfr := hq.ajo (show ¬ kSc b (a + k) = b + 477 by unfold kSc; omega) hfr
      have hfv := hq.ajo (show ¬ b + 160 = b + 477 by omega) hfv
      have hsa := hsa.kj hq (fun q h => by have h : q = b + 477 := h; omega)
      have hk : KJ g (fun q => q = kY b 6 ∨ q = b + 160 ∨ (b + 2 ≤ q ∧ q ≤ b + 33)) s.heap _ := hk.tr (hq.mono (fun q h => Or.inl h))
      refine lv_aload_n hx hb d_Polys_divide_32 rfl (lv_at hl 1 rfl) ?_
      refine q_get (C := "KateDesk$Polynomials") (T := T_Polys) (N := 9) (ci := 7) E ((hk.po hK hpo).1) in_Polys rfl 0 (by decide) w_303 rfl rfl d_Polys_divide_33 ?_
      refine lv_aload_n hx hb d_Polys_divide_36 rfl (lv_at hl 1 rfl) ?_
      refine q_get (C := "KateDesk$Polynomials") (T := T_Polys) (N := 9) (ci := 7) E ((hk.po hK hpo).1) in_Polys rfl 7 (by decide) w_310 rfl rfl d_Polys_divide_37 ?_
      refine lv_aload_n hx hb d_Polys_divide_40 rfl (lv_at hl 1 rfl) ?_
      refine q_get (C := "KateDesk$Polynomials") (T := T_Polys) (N := 9) (ci := 7) E ((hk.po hK hpo).1) in_Polys rfl 7 (by decide) w_310 rfl rfl d_Polys_divide_41 ?_
      refine lv_aload_n hx hb d_Polys_divide_44 rfl (lv_at hl 3 rfl) ?_
      refine lv_iload hx hb d_Polys_divide_45 (lv_at hl 0 rfl) ?_
      refine q_aald (t := 4) E rfl rfl ((hk.rs hK hrs).1) (a + k) rfl hak (by decide) d_Polys_divide_47 ?_
      refine q_cV (rest := []) E (V_Field_add l g n0 (b + 162) (kY b 6) (kY b 6) (kSc b (a + k)) (kFr b) mr g1 fr kR ((v1 * Z) % RI) (A1 (a + k)) RI hw1 hvr kR_rv ((rm_r _).2) hr9 (show b + 168 ≠ b + 477 by omega) RI_2) w_157 w_4 w_855 w_155 w_156 hd_Field_add rfl ⟨by decide, by decide⟩ (OB.recv E.2.2.2.2.2 (by rfl) ((hk.po hK hpo).2.1.1)) (⟨(hk.po hK hpo).2.1, ((hk.po hK hpo).2.2.1 6 (by decide)), hg1, hfr, (hk.ajo n168 hcr.1)⟩) hF hl.1 rfl (Nat.le_of_ble_eq_true rfl) d_Polys_divide_48 ⟨by decide, by decide⟩ (qv (fun H2 locs hq hF => ?_))
      obtain ⟨hq, g2, hg2, hw2⟩ := hq
      rw [add_m (rm_r _) ⟨hvr.nn, hr9⟩, add_e] at hw2
      have hfv := hq.ajo (show ¬ b + 160 = b + 477 by omega) hfv
      have hsa := hsa.kj hq (fun q h => by have h : q = b + 477 := h; omega)
      have hk : KJ g (fun q => q = kY b 6 ∨ q = b + 160 ∨ (b + 2 ≤ q ∧ q ≤ b + 33)) s.heap _ := hk.tr (hq.mono (fun q h => Or.inl h))
      refine lv_aload_n hx hb d_Polys_divide_51 rfl (lv_at hl 3 rfl) ?_
      refine lv_iload hx hb d_Polys_divide_52 (lv_at hl 0 rfl) ?_
      refine q_aald (t := 4) E rfl rfl ((hk.rs hK hrs).1) (a + k) rfl hak (by decide) d_Polys_divide_54 ?_
      refine lv_aload_n hx hb d_Polys_divide_55 rfl (lv_at hl 2 rfl) ?_
      refine q_cS (rest := []) E (c_Limbs_copy l g n0 (kSc b (a + k)) (b + 160) fv) w_146 w_5 w_856 w_145 hd_Limbs_copy rfl ⟨by decide, by decide⟩ (⟨(hk.rs hK hrs).2 (a + k) hak, hfv⟩) hF hl.1 rfl (Nat.le_of_ble_eq_true rfl) d_Polys_divide_56 ⟨by decide, by decide⟩ (qv (fun H3 locs hq hF => ?_))
      obtain ⟨hq, hg3⟩ := hq
      have hg2 := hq.ajo (show ¬ b + 477 = kSc b (a + k) by unfold kSc; omega) hg2
      have hsa := hsa.set hq hg3 hvv hv1
      have hk : KJ g (fun q => q = kY b 6 ∨ q = b + 160 ∨ (b + 2 ≤ q ∧ q ≤ b + 33)) s.heap _ := hk.tr (hq.mono (fun q h => Or.inr (Or.inr (by have h : q = b + 2 + (a + k) := h; omega))))
      refine lv_aload_n hx hb d_Polys_divide_59 rfl (lv_at hl 2 rfl) ?_
      refine lv_aload_n hx hb d_Polys_divide_60 rfl (lv_at hl 1 rfl) ?_
      refine q_get (C := "KateDesk$Polynomials") (T := T_Polys) (N := 9) (ci := 7) E ((hk.po hK hpo).1) in_Polys rfl 7 (by decide) w_310 rfl rfl d_Polys_divide_61 ?_
      refine q_cS (rest := []) E (c_Limbs_copy l g n0 (b + 160) (kY b 6) g2) w_146 w_5 w_856 w_145 hd_Limbs_copy rfl ⟨by decide, by decide⟩ (⟨hk.j hjv, hg2⟩) hF hl.1 rfl (Nat.le_of_ble_eq_true rfl) d_Polys_divide_64 ⟨by decide, by decide⟩ (qv (fun H4 locs hq hF => ?_))
      obtain ⟨hq, hg4⟩ := hq
      have hsa := hsa.kj hq (fun q h => by have h : q = b + 160 := h; omega)
      have hk : KJ g (fun q => q = kY b 6 ∨ q = b + 160 ∨ (b + 2 ≤ q ∧ q ≤ b + 33)) s.heap _ := hk.tr (hq.mono (fun q h => Or.inr (Or.inl h)))
      refine lv_iinc (k := 0) (v := nI (a + k) - 1) (lv' := [(6, .int (nI (a + k) - 1)), (0, .ref (b + 470)), (1, .ref (b + 160)), (2, .ref (b + 1)), (3, .int (nI a)), (5, .ref (b + 161))]) hx hb d_Polys_divide_67 hl rfl (i_dec _) (by decide) rfl (fun ls hl => ?_)
      refine lv_goto (tgt := 12) hx hb d_Polys_divide_70 (by decide) ?_
      have hl : lv_has ls 7 [(6, .int (nI (a + k) - 1)), (0, .ref (b + 470)), (1, .ref (b + 160)), (2, .ref (b + 1)), (3, .int (nI a)), (5, .ref (b + 161))] := lv_sub hl [0, 1, 2, 3, 4, 5] rfl
      exact ih _ _ ls _ _ _ _ (by omega) rfl hk hsa hg4 hw2 (rm_r _).2 hdv hF hl
  refine lv_aload_n hx hb d_Polys_divide_0 rfl (lv_at hl 1 rfl) ?_
  refine q_cS (rest := []) E (c_Limbs_clear l g n0 (b + 160)) w_498 w_5 w_853 w_497 hd_Limbs_clear rfl ⟨by decide, by decide⟩ hjv hF hl.1 rfl (Nat.le_of_ble_eq_true rfl) d_Polys_divide_1 ⟨by decide, by decide⟩ (qv (fun H1 locs hq hF => ?_))
  obtain ⟨hq, hfv⟩ := hq
  have hsa := hsc.kj hq (fun q h => by omega)
  have hk : KJ g (fun q => q = kY b 6 ∨ q = b + 160 ∨ (b + 2 ≤ q ∧ q ≤ b + 33)) s.heap _ := hq.mono (fun q h => Or.inr (Or.inl h))
  refine lv_iload_n hx hb d_Polys_divide_4 rfl (lv_at hl 3 rfl) ?_
  refine lv_iload hx hb d_Polys_divide_5 (lv_at hl 4 rfl) ?_
  refine lv_iadd hx hb d_Polys_divide_7 ?_
  refine lv_iconst (v := nI 1) hx hb d_Polys_divide_8 (by decide) ?_
  refine lv_isub hx hb d_Polys_divide_9 ?_
  refine lv_topi (fun t9 e9 => ?_)
  obtain rfl : t9 = nI (a + n - 1) := e9.trans ((congrArg (· - nI 1) (nI_add a n)).trans (pk_sub (by omega)))
  refine lv_istore (lv' := [(6, .int (nI (a + n - 1))), (0, .ref (b + 470)), (1, .ref (b + 160)), (2, .ref (b + 1)), (3, .int (nI a)), (4, .int (nI n)), (5, .ref (b + 161))]) hx hb d_Polys_divide_10 hl (by decide) rfl (fun ls hl => ?_)
  have hl : lv_has ls 7 [(6, .int (nI (a + n - 1))), (0, .ref (b + 470)), (1, .ref (b + 160)), (2, .ref (b + 1)), (3, .int (nI a)), (5, .ref (b + 161))] := lv_sub hl [0, 1, 2, 3, 4, 6] rfl
  exact loop n _ _ ls _ A 0 _ (Nat.le_refl _) (by rw [show a + n = (a + n - 1) + 1 by omega, nI_pred, Nat.add_sub_cancel]) hk hsa hfv ⟨fun _ _ => dg_0, VL_z14⟩ RI_pos rfl hF hl
