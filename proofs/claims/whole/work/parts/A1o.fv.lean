/-- the value at Z, from the highest coefficient on -/
def hvS (A : Nat → Int) (a : Nat) (Z : Int) : Nat → Int → Int
  | 0, v => v
  | k + 1, v => hvS A a Z k ((v * Z + A (a + k)) % RI)
theorem pl_mul (x y : Int) : (((x * WR) % RI) * ((y * WR) % RI) * WIR) % RI = (x * y * WR) % RI := by
  rw [mm_r, ← ww_r (x * y * WR)]
  congr 1
  grind
/-- u times and 1, n times over -/
def geS (u : Int) : Nat → Int → Int
  | 0, v => v
  | k + 1, v => geS u k ((v * u + 1) % RI)
def kW (b q : Nat) : Prop := q = b + 167 ∨ (b + 473 ≤ q ∧ q ≤ b + 477) ∨ (b + 479 ≤ q ∧ q ≤ b + 494)
theorem kW_C {b : Nat} : ∀ q, kW b q → ¬ kC b q := by
  intro q h
  unfold kW at h
  unfold kC
  omega
theorem kW_S {b : Nat} : ∀ q, kW b q → ¬ (b + 2 ≤ q ∧ q ≤ b + 33) := by
  intro q h
  unfold kW at h
  omega
theorem re_W {b t : Nat} (ht : kW b t) : ∀ q, (q = kY b 6 ∨ q = kFr b 5 ∨ q = kY b 2) ∨ q = t → kW b q := by
  intro q h
  rcases h with h | h
  · have h : q = b + 477 ∨ q = b + 167 ∨ q = b + 473 := h
    unfold kW
    omega
  · rw [h]
    exact ht
set_option maxHeartbeats 4000000 in
set_option maxRecDepth 100000 in
theorem R_Polys_findValues (l : Launch) (g : WG) (n0 : Nat → Prop) (b : Nat) (mr : Int64) (hmr : mr = 268435455) (a k9 : Nat) (A : Nat → Int) (hk5 : k9 < 5) (han : a + 2 ^ k9 ≤ 32) : Ctr l y_Polys_findValues (.code y_Polys_findValues prog_7_method_8_code 7 none) 5 182 0 0 n0 g [.ref (b + 470), .ref (b + 1), .int (nI a), .int (nI k9)] (fun H => PO g n0 H (b + 470) (b + 162) (b + 478) (kFr b) mr (kY b) (kV b) ∧ CR g H b ∧ RS g n0 H (b + 1) 32 (kSc b) ∧ SCA g H b A) (QV (fun H H' => KJ g (kW b) H H' ∧ (∀ j, j < 2 ^ k9 → ∃ f, AJ g H' (kV b j) 14 f ∧ RV f (hvS A a ((7 ^ eU k9) ^ j) (2 ^ k9) 0) ∧ hvS A a ((7 ^ eU k9) ^ j) (2 ^ k9) 0 < RI))) := by
  refine ctr_mk l (lv0 := [(0, .ref (b + 470)), (1, .ref (b + 1)), (2, .int (nI a)), (3, .int (nI k9))]) (by decide) (Nat.le_of_ble_eq_true rfl) rfl ?_
  intro p e s m below meth c ls E hr hlk hnm hl hP
  have hx := E.1
  have hb := E.2.1
  have hK := E.2.2.2.2.2
  have hF : ∀ q ∈ ([] : List Loc), n0 q.base := fun q hq => absurd hq List.not_mem_nil
  obtain ⟨hpo, hcr, hrs, hsc⟩ := hP
  obtain ⟨hp1, hp16⟩ := pw16 hk5
  have hk : KJ g (kW b) s.heap s.heap := KJ.rf
  have loop : ∀ (k : Nat) (i : Nat) (H : Heap) (locs : List Loc) (ls : Array Slot), i + k = 2 ^ k9 → KJ g (kW b) s.heap H → (∃ f, AJ g H (kY b 3) 14 f ∧ RV f ((7 ^ eU k9 * WR) % RI)) → (∃ f, AJ g H (kY b 4) 14 f ∧ RV f (((7 ^ eU k9) ^ i * WR) % RI)) → (∀ j, j < i → ∃ f, AJ g H (kV b j) 14 f ∧ RV f (hvS A a ((7 ^ eU k9) ^ j) (2 ^ k9) 0) ∧ hvS A a ((7 ^ eU k9) ^ j) (2 ^ k9) 0 < RI) → (∀ q ∈ locs, n0 q.base) → lv_has ls 7 [(5, .int (nI i)), (0, .ref (b + 470)), (1, .ref (b + 1)), (2, .int (nI a)), (4, .int (nI (2 ^ k9)))] → W p l e { frames := 5, cells := 0, slots := 0, locals := 182 } s m [.ref (b + 470), .ref (b + 1), .int (nI a), .int (nI k9)].toArray below meth c H locs 0 0 (MQ below (QcP (QV (fun H H' => KJ g (kW b) H H' ∧ (∀ j, j < 2 ^ k9 → ∃ f, AJ g H' (kV b j) 14 f ∧ RV f (hvS A a ((7 ^ eU k9) ^ j) (2 ^ k9) 0) ∧ hvS A a ((7 ^ eU k9) ^ j) (2 ^ k9) 0 < RI)))) [.ref (b + 470), .ref (b + 1), .int (nI a), .int (nI k9)].toArray s 0 0 (fun q => n0 q)) (F0 m 31 ls []) := by
    intro k
    induction k with
    | zero =>
      intro  i   H   locs   ls hi hk hro hpl hvs hF hl
      obtain rfl : 2 ^ k9 = i := by omega
      refine lv_iload hx hb d_Polys_findValues_31 (lv_at hl 0 rfl) ?_
      refine lv_iload hx hb d_Polys_findValues_33 (lv_at hl 4 rfl) ?_
      refine lv_icmp_ge (tgt := 150) hx hb d_Polys_findValues_35 (by decide) (fun _ => ?_) (fun h9 => absurd (nI_le (Nat.le_refl _) (by omega)) h9)
      exact q_vret E hr hlk (⟨rfl, hk, hvs⟩) hF d_Polys_findValues_150
    | succ k ih =>
      intro  i   H   locs   ls hi hk hro hpl hvs hF hl
      have hi16 : i < 16 := by omega
      refine lv_iload hx hb d_Polys_findValues_31 (lv_at hl 0 rfl) ?_
      refine lv_iload hx hb d_Polys_findValues_33 (lv_at hl 4 rfl) ?_
      refine lv_icmp_ge (tgt := 150) hx hb d_Polys_findValues_35 (by decide) (fun h9 => absurd h9 (nI_ge (by omega) (by omega))) (fun _ => ?_)
      refine lv_iload hx hb d_Polys_findValues_38 (lv_at hl 0 rfl) ?_
      refine lv_bipush (v := nI 16) hx hb d_Polys_findValues_40 (by decide) ?_
      refine lv_icmp_ge (tgt := 150) hx hb d_Polys_findValues_42 (by decide) (fun h9 => absurd h9 (nI_ge hi16 (by decide))) (fun _ => ?_)
      refine lv_aload_n hx hb d_Polys_findValues_45 rfl (lv_at hl 1 rfl) ?_
      refine q_get (C := "KateDesk$Polynomials") (T := T_Polys) (N := 9) (ci := 7) E ((hk.po hK hpo).1) in_Polys rfl 8 (by decide) w_311 rfl rfl d_Polys_findValues_46 ?_
      refine lv_iload hx hb d_Polys_findValues_49 (lv_at hl 0 rfl) ?_
      refine q_aald (t := 4) E rfl rfl ((hk.po hK hpo).2.2.2.1) i rfl (by omega) (by decide) d_Polys_findValues_51 ?_
      have nV : ∀ j, j < i → kV b j ≠ kV b i := fun j hj => by unfold kV; omega
      refine q_cS (rest := []) E (c_Limbs_clear l g n0 (kV b i)) w_498 w_5 w_853 w_497 hd_Limbs_clear rfl ⟨by decide, by decide⟩ ((hk.po hK hpo).2.2.2.2 i hi16) hF hl.1 rfl (Nat.le_of_ble_eq_true rfl) d_Polys_findValues_52 ⟨by decide, by decide⟩ (qv (fun H1 locs hq hF => ?_))
      obtain ⟨hq, hfv⟩ := hq
      have hro : ∃ f, AJ g H1 (kY b 3) 14 f ∧ RV f ((7 ^ eU k9 * WR) % RI) := hro.imp (fun f hf => ⟨hq.ajo (show ¬ b + 474 = kV b i by unfold kV; omega) hf.1, hf.2⟩)
      have hpl : ∃ f, AJ g H1 (kY b 4) 14 f ∧ RV f (((7 ^ eU k9) ^ i * WR) % RI) := hpl.imp (fun f hf => ⟨hq.ajo (show ¬ b + 475 = kV b i by unfold kV; omega) hf.1, hf.2⟩)
      have hvs : (∀ j, j < i → ∃ f, AJ g H1 (kV b j) 14 f ∧ RV f (hvS A a ((7 ^ eU k9) ^ j) (2 ^ k9) 0) ∧ hvS A a ((7 ^ eU k9) ^ j) (2 ^ k9) 0 < RI) := fun j hj => (hvs j hj).imp (fun f hf => ⟨hq.ajo (nV j hj) hf.1, hf.2⟩)
      have hk : KJ g (kW b) s.heap _ := hk.tr (hq.mono (fun q h => Or.inr (Or.inr (by rw [h]; unfold kV; omega))))
      refine lv_iload_n hx hb d_Polys_findValues_55 rfl (lv_at hl 3 rfl) ?_
      refine lv_iload hx hb d_Polys_findValues_56 (lv_at hl 4 rfl) ?_
      refine lv_iadd hx hb d_Polys_findValues_58 ?_
      refine lv_iconst (v := nI 1) hx hb d_Polys_findValues_59 (by decide) ?_
      refine lv_isub hx hb d_Polys_findValues_60 ?_
      refine lv_topi (fun t9 e9 => ?_)
      obtain rfl : t9 = nI (a + 2 ^ k9 - 1) := e9.trans ((congrArg (· - nI 1) (nI_add a (2 ^ k9))).trans (pk_sub (by omega)))
      refine lv_istore (lv' := [(6, .int (nI (a + 2 ^ k9 - 1))), (5, .int (nI i)), (0, .ref (b + 470)), (1, .ref (b + 1)), (2, .int (nI a)), (4, .int (nI (2 ^ k9)))]) hx hb d_Polys_findValues_61 hl (by decide) rfl (fun ls hl => ?_)
      have hl : lv_has ls 7 [(6, .int (nI (a + 2 ^ k9 - 1))), (5, .int (nI i)), (0, .ref (b + 470)), (1, .ref (b + 1)), (2, .int (nI a)), (4, .int (nI (2 ^ k9)))] := lv_sub hl [0, 1, 2, 3, 4, 5] rfl
      have inner : ∀ (k2x : Nat) (H : Heap) (locs : List Loc) (ls : Array Slot) (y : Int32) (v1 : Int) (fv : Nat → Int64), k2x ≤ 2 ^ k9 → y = nI (a + k2x) - 1 → hvS A a ((7 ^ eU k9) ^ i) k2x v1 = hvS A a ((7 ^ eU k9) ^ i) (2 ^ k9) 0 → AJ g H (kV b i) 14 fv → RV fv v1 → v1 < RI → KJ g (kW b) s.heap H → (∃ f, AJ g H (kY b 3) 14 f ∧ RV f ((7 ^ eU k9 * WR) % RI)) → (∃ f, AJ g H (kY b 4) 14 f ∧ RV f (((7 ^ eU k9) ^ i * WR) % RI)) → (∀ j, j < i → ∃ f, AJ g H (kV b j) 14 f ∧ RV f (hvS A a ((7 ^ eU k9) ^ j) (2 ^ k9) 0) ∧ hvS A a ((7 ^ eU k9) ^ j) (2 ^ k9) 0 < RI) → (∀ q ∈ locs, n0 q.base) → lv_has ls 7 [(6, .int y), (5, .int (nI i)), (0, .ref (b + 470)), (1, .ref (b + 1)), (2, .int (nI a)), (4, .int (nI (2 ^ k9)))] → W p l e { frames := 5, cells := 0, slots := 0, locals := 182 } s m [.ref (b + 470), .ref (b + 1), .int (nI a), .int (nI k9)].toArray below meth c H locs 0 0 (MQ below (QcP (QV (fun H H' => KJ g (kW b) H H' ∧ (∀ j, j < 2 ^ k9 → ∃ f, AJ g H' (kV b j) 14 f ∧ RV f (hvS A a ((7 ^ eU k9) ^ j) (2 ^ k9) 0) ∧ hvS A a ((7 ^ eU k9) ^ j) (2 ^ k9) 0 < RI)))) [.ref (b + 470), .ref (b + 1), .int (nI a), .int (nI k9)].toArray s 0 0 (fun q => n0 q)) (F0 m 63 ls []) := by
        intro k2x
        induction k2x with
        | zero =>
          intro  H   locs   ls   y   v1   fv hk0 hxx hdv hfv hvv hv1 hk hro hpl hvs hF hl
          refine lv_iload hx hb d_Polys_findValues_63 (lv_at hl 0 rfl) ?_
          refine lv_iload_n hx hb d_Polys_findValues_65 rfl (lv_at hl 4 rfl) ?_
          refine lv_icmp_lt (tgt := 125) hx hb d_Polys_findValues_66 (by decide) (fun _ => ?_) (fun h9 => absurd (by rw [hxx]; exact dn_lt (by omega)) h9)
          have hdv : v1 = hvS A a ((7 ^ eU k9) ^ i) (2 ^ k9) 0 := hdv
          subst hdv
          obtain ⟨fp, hfp, hvp⟩ := hpl
          obtain ⟨fo, hfo, hvo⟩ := hro
          refine lv_aload_n hx hb d_Polys_findValues_125 rfl (lv_at hl 2 rfl) ?_
          refine q_get (C := "KateDesk$Polynomials") (T := T_Polys) (N := 9) (ci := 7) E ((hk.po hK hpo).1) in_Polys rfl 0 (by decide) w_303 rfl rfl d_Polys_findValues_126 ?_
          refine lv_aload_n hx hb d_Polys_findValues_129 rfl (lv_at hl 2 rfl) ?_
          refine q_get (C := "KateDesk$Polynomials") (T := T_Polys) (N := 9) (ci := 7) E ((hk.po hK hpo).1) in_Polys rfl 5 (by decide) w_308 rfl rfl d_Polys_findValues_130 ?_
          refine lv_aload_n hx hb d_Polys_findValues_133 rfl (lv_at hl 2 rfl) ?_
          refine q_get (C := "KateDesk$Polynomials") (T := T_Polys) (N := 9) (ci := 7) E ((hk.po hK hpo).1) in_Polys rfl 5 (by decide) w_308 rfl rfl d_Polys_findValues_134 ?_
          refine lv_aload_n hx hb d_Polys_findValues_137 rfl (lv_at hl 2 rfl) ?_
          refine q_get (C := "KateDesk$Polynomials") (T := T_Polys) (N := 9) (ci := 7) E ((hk.po hK hpo).1) in_Polys rfl 4 (by decide) w_307 rfl rfl d_Polys_findValues_138 ?_
          refine q_cV (rest := []) E (R_Field_multiply l g n0 (b + 162) (kY b 4) (kY b 4) (kY b 3) (kFr b) mr fp fo (((7 ^ eU k9) ^ i * WR) % RI) ((7 ^ eU k9 * WR) % RI) hvp hvo ((rm_r _).2) ((rm_r _).2) (show b + 168 ≠ b + 475 by omega) hmr) w_165 w_4 w_854 w_163 w_164 hd_Field_multiply rfl ⟨by decide, by decide⟩ (OB.recv E.2.2.2.2.2 (by rfl) ((hk.po hK hpo).2.1.1)) (⟨(hk.po hK hpo).2.1, ((hk.po hK hpo).2.2.1 4 (by decide)), hfp, hfo, (hcr.kj hk kW_C).1⟩) hF hl.1 rfl (Nat.le_of_ble_eq_true rfl) d_Polys_findValues_141 ⟨by decide, by decide⟩ (qv (fun H1 locs hq hF => ?_))
          obtain ⟨hq, g1, hg1, hw1⟩ := hq
          rw [pl_mul, ← Int.pow_succ] at hw1
          have hfo := hq.ajo (show ¬ b + 474 = b + 475 by omega) hfo
          have hfv := hq.ajo (show ¬ kV b i = b + 475 by unfold kV; omega) hfv
          have hk : KJ g (kW b) s.heap _ := hk.tr (hq.mono (fun q h => Or.inr (Or.inl (by have h : q = b + 475 := h; omega))))
          have hvs2 : (∀ j, j < i + 1 → ∃ f, AJ g H1 (kV b j) 14 f ∧ RV f (hvS A a ((7 ^ eU k9) ^ j) (2 ^ k9) 0) ∧ hvS A a ((7 ^ eU k9) ^ j) (2 ^ k9) 0 < RI) := fun j hj => by
            by_cases e : j = i
            · subst e; exact ⟨_, hfv, hvv, hv1⟩
            · exact (hvs j (by omega)).imp (fun f hf => ⟨hq.ajo (show ¬ kV b j = b + 475 by unfold kV; omega) hf.1, hf.2⟩)
          refine lv_iinc (k := 1) (v := nI (i + 1)) (lv' := [(5, .int (nI (i + 1))), (6, .int y), (0, .ref (b + 470)), (1, .ref (b + 1)), (2, .int (nI a)), (4, .int (nI (2 ^ k9)))]) hx hb d_Polys_findValues_144 hl rfl (i_inc i) (by decide) rfl (fun ls hl => ?_)
          refine lv_goto (tgt := 31) hx hb d_Polys_findValues_147 (by decide) ?_
          have hl : lv_has ls 7 [(5, .int (nI (i + 1))), (0, .ref (b + 470)), (1, .ref (b + 1)), (2, .int (nI a)), (4, .int (nI (2 ^ k9)))] := lv_sub hl [0, 2, 3, 4, 5] rfl
          exact ih (i + 1) _ _ ls (by omega) hk ⟨_, hfo, hvo⟩ ⟨_, hg1, hw1⟩ hvs2 hF hl
        | succ k2x ih2 =>
          intro  H   locs   ls   y   v1   fv hk0 hxx hdv hfv hvv hv1 hk hro hpl hvs hF hl
          have hxx : y = nI (a + k2x) := hxx.trans (nI_pred _)
          subst hxx
          refine lv_iload hx hb d_Polys_findValues_63 (lv_at hl 0 rfl) ?_
          refine lv_iload_n hx hb d_Polys_findValues_65 rfl (lv_at hl 4 rfl) ?_
          refine lv_icmp_lt (tgt := 125) hx hb d_Polys_findValues_66 (by decide) (fun h9 => absurd h9 (nI_nlt (by omega) (by omega))) (fun _ => ?_)
          obtain ⟨fp, hfp, hvp⟩ := id hpl
          refine lv_aload_n hx hb d_Polys_findValues_69 rfl (lv_at hl 2 rfl) ?_
          refine q_get (C := "KateDesk$Polynomials") (T := T_Polys) (N := 9) (ci := 7) E ((hk.po hK hpo).1) in_Polys rfl 0 (by decide) w_303 rfl rfl d_Polys_findValues_70 ?_
          refine lv_aload_n hx hb d_Polys_findValues_73 rfl (lv_at hl 2 rfl) ?_
          refine q_get (C := "KateDesk$Polynomials") (T := T_Polys) (N := 9) (ci := 7) E ((hk.po hK hpo).1) in_Polys rfl 8 (by decide) w_311 rfl rfl d_Polys_findValues_74 ?_
          refine lv_iload hx hb d_Polys_findValues_77 (lv_at hl 1 rfl) ?_
          refine q_aald (t := 4) E rfl rfl ((hk.po hK hpo).2.2.2.1) i rfl (by omega) (by decide) d_Polys_findValues_79 ?_
          refine lv_aload_n hx hb d_Polys_findValues_80 rfl (lv_at hl 2 rfl) ?_
          refine q_get (C := "KateDesk$Polynomials") (T := T_Polys) (N := 9) (ci := 7) E ((hk.po hK hpo).1) in_Polys rfl 8 (by decide) w_311 rfl rfl d_Polys_findValues_81 ?_
          refine lv_iload hx hb d_Polys_findValues_84 (lv_at hl 1 rfl) ?_
          refine q_aald (t := 4) E rfl rfl ((hk.po hK hpo).2.2.2.1) i rfl (by omega) (by decide) d_Polys_findValues_86 ?_
          refine lv_aload_n hx hb d_Polys_findValues_87 rfl (lv_at hl 2 rfl) ?_
          refine q_get (C := "KateDesk$Polynomials") (T := T_Polys) (N := 9) (ci := 7) E ((hk.po hK hpo).1) in_Polys rfl 5 (by decide) w_308 rfl rfl d_Polys_findValues_88 ?_
          refine q_cV (rest := []) E (R_Field_multiply l g n0 (b + 162) (kV b i) (kV b i) (kY b 4) (kFr b) mr fv fp v1 (((7 ^ eU k9) ^ i * WR) % RI) hvv hvp hv1 ((rm_r _).2) (show b + 168 ≠ kV b i by unfold kV; omega) hmr) w_165 w_4 w_854 w_163 w_164 hd_Field_multiply rfl ⟨by decide, by decide⟩ (OB.recv E.2.2.2.2.2 (by rfl) ((hk.po hK hpo).2.1.1)) (⟨(hk.po hK hpo).2.1, (hk.po hK hpo).2.2.2.2 i hi16, hfv, hfp, (hcr.kj hk kW_C).1⟩) hF hl.1 rfl (Nat.le_of_ble_eq_true rfl) d_Polys_findValues_91 ⟨by decide, by decide⟩ (qv (fun H1 locs hq hF => ?_))
          obtain ⟨hq, g1, hg1, hw1⟩ := hq
          rw [lz_mul] at hw1
          have hro : ∃ f, AJ g H1 (kY b 3) 14 f ∧ RV f ((7 ^ eU k9 * WR) % RI) := hro.imp (fun f hf => ⟨hq.ajo (show ¬ b + 474 = kV b i by unfold kV; omega) hf.1, hf.2⟩)
          have hpl : ∃ f, AJ g H1 (kY b 4) 14 f ∧ RV f (((7 ^ eU k9) ^ i * WR) % RI) := hpl.imp (fun f hf => ⟨hq.ajo (show ¬ b + 475 = kV b i by unfold kV; omega) hf.1, hf.2⟩)
          have hvs : (∀ j, j < i → ∃ f, AJ g H1 (kV b j) 14 f ∧ RV f (hvS A a ((7 ^ eU k9) ^ j) (2 ^ k9) 0) ∧ hvS A a ((7 ^ eU k9) ^ j) (2 ^ k9) 0 < RI) := fun j hj => (hvs j hj).imp (fun f hf => ⟨hq.ajo (nV j hj) hf.1, hf.2⟩)
          have hk : KJ g (kW b) s.heap _ := hk.tr (hq.mono (fun q h => Or.inr (Or.inr (by rw [h]; unfold kV; omega))))
          obtain ⟨fr, hfr, hvr, hr9⟩ := (hsc.kj hk kW_S) (a + k2x) (by omega)
          refine lv_aload_n hx hb d_Polys_findValues_94 rfl (lv_at hl 2 rfl) ?_
          refine q_get (C := "KateDesk$Polynomials") (T := T_Polys) (N := 9) (ci := 7) E ((hk.po hK hpo).1) in_Polys rfl 0 (by decide) w_303 rfl rfl d_Polys_findValues_95 ?_
          refine lv_aload_n hx hb d_Polys_findValues_98 rfl (lv_at hl 2 rfl) ?_
          refine q_get (C := "KateDesk$Polynomials") (T := T_Polys) (N := 9) (ci := 7) E ((hk.po hK hpo).1) in_Polys rfl 8 (by decide) w_311 rfl rfl d_Polys_findValues_99 ?_
          refine lv_iload hx hb d_Polys_findValues_102 (lv_at hl 1 rfl) ?_
          refine q_aald (t := 4) E rfl rfl ((hk.po hK hpo).2.2.2.1) i rfl (by omega) (by decide) d_Polys_findValues_104 ?_
          refine lv_aload_n hx hb d_Polys_findValues_105 rfl (lv_at hl 2 rfl) ?_
          refine q_get (C := "KateDesk$Polynomials") (T := T_Polys) (N := 9) (ci := 7) E ((hk.po hK hpo).1) in_Polys rfl 8 (by decide) w_311 rfl rfl d_Polys_findValues_106 ?_
          refine lv_iload hx hb d_Polys_findValues_109 (lv_at hl 1 rfl) ?_
          refine q_aald (t := 4) E rfl rfl ((hk.po hK hpo).2.2.2.1) i rfl (by omega) (by decide) d_Polys_findValues_111 ?_
          refine lv_aload_n hx hb d_Polys_findValues_112 rfl (lv_at hl 3 rfl) ?_
          refine lv_iload hx hb d_Polys_findValues_113 (lv_at hl 0 rfl) ?_
          refine q_aald (t := 4) E rfl rfl ((hk.rs hK hrs).1) (a + k2x) rfl (by omega) (by decide) d_Polys_findValues_115 ?_
          refine q_cV (rest := []) E (V_Field_add l g n0 (b + 162) (kV b i) (kV b i) (kSc b (a + k2x)) (kFr b) mr g1 fr kR ((v1 * (7 ^ eU k9) ^ i) % RI) (A (a + k2x)) RI hw1 hvr kR_rv ((rm_r _).2) hr9 (show b + 168 ≠ kV b i by unfold kV; omega) RI_2) w_157 w_4 w_855 w_155 w_156 hd_Field_add rfl ⟨by decide, by decide⟩ (OB.recv E.2.2.2.2.2 (by rfl) ((hk.po hK hpo).2.1.1)) (⟨(hk.po hK hpo).2.1, (hk.po hK hpo).2.2.2.2 i hi16, hg1, hfr, (hcr.kj hk kW_C).1⟩) hF hl.1 rfl (Nat.le_of_ble_eq_true rfl) d_Polys_findValues_116 ⟨by decide, by decide⟩ (qv (fun H2 locs hq hF => ?_))
          obtain ⟨hq, g2, hg2, hw2⟩ := hq
          rw [add_m (rm_r _) ⟨hvr.nn, hr9⟩, add_e] at hw2
          have hro : ∃ f, AJ g H2 (kY b 3) 14 f ∧ RV f ((7 ^ eU k9 * WR) % RI) := hro.imp (fun f hf => ⟨hq.ajo (show ¬ b + 474 = kV b i by unfold kV; omega) hf.1, hf.2⟩)
          have hpl : ∃ f, AJ g H2 (kY b 4) 14 f ∧ RV f (((7 ^ eU k9) ^ i * WR) % RI) := hpl.imp (fun f hf => ⟨hq.ajo (show ¬ b + 475 = kV b i by unfold kV; omega) hf.1, hf.2⟩)
          have hvs : (∀ j, j < i → ∃ f, AJ g H2 (kV b j) 14 f ∧ RV f (hvS A a ((7 ^ eU k9) ^ j) (2 ^ k9) 0) ∧ hvS A a ((7 ^ eU k9) ^ j) (2 ^ k9) 0 < RI) := fun j hj => (hvs j hj).imp (fun f hf => ⟨hq.ajo (nV j hj) hf.1, hf.2⟩)
          have hk : KJ g (kW b) s.heap _ := hk.tr (hq.mono (fun q h => Or.inr (Or.inr (by rw [h]; unfold kV; omega))))
          refine lv_iinc (k := 0) (v := nI (a + k2x) - 1) (lv' := [(6, .int (nI (a + k2x) - 1)), (5, .int (nI i)), (0, .ref (b + 470)), (1, .ref (b + 1)), (2, .int (nI a)), (4, .int (nI (2 ^ k9)))]) hx hb d_Polys_findValues_119 hl rfl (i_dec _) (by decide) rfl (fun ls hl => ?_)
          refine lv_goto (tgt := 63) hx hb d_Polys_findValues_122 (by decide) ?_
          have hl : lv_has ls 7 [(6, .int (nI (a + k2x) - 1)), (5, .int (nI i)), (0, .ref (b + 470)), (1, .ref (b + 1)), (2, .int (nI a)), (4, .int (nI (2 ^ k9)))] := lv_sub hl [0, 1, 2, 3, 4, 5] rfl
          exact ih2 _ _ ls _ _ _ (by omega) rfl hdv hg2 hw2 (rm_r _).2 hk hro hpl hvs hF hl
      exact inner (2 ^ k9) _ _ ls _ 0 _ (Nat.le_refl _) (by rw [show a + 2 ^ k9 = (a + 2 ^ k9 - 1) + 1 by omega, nI_pred, Nat.add_sub_cancel]) rfl hfv ⟨fun _ _ => dg_0, VL_z14⟩ RI_pos hk hro hpl hvs hF hl
  refine lv_iconst (v := nI 1) hx hb d_Polys_findValues_0 (by decide) ?_
  refine lv_iload_n hx hb d_Polys_findValues_1 rfl (lv_at hl 3 rfl) ?_
  refine lv_ishl hx hb d_Polys_findValues_2 ?_
  refine lv_topi (fun t9 e9 => ?_)
  obtain rfl : t9 = nI (2 ^ k9) := e9.trans (sh1 k9 hk5)
  refine lv_istore (lv' := [(4, .int (nI (2 ^ k9))), (0, .ref (b + 470)), (1, .ref (b + 1)), (2, .int (nI a)), (3, .int (nI k9))]) hx hb d_Polys_findValues_3 hl (by decide) rfl (fun ls hl => ?_)
  refine lv_aload_n hx hb d_Polys_findValues_5 rfl (lv_at hl 1 rfl) ?_
  refine lv_aload_n hx hb d_Polys_findValues_6 rfl (lv_at hl 1 rfl) ?_
  refine q_get (C := "KateDesk$Polynomials") (T := T_Polys) (N := 9) (ci := 7) E ((hk.po hK hpo).1) in_Polys rfl 4 (by decide) w_307 rfl rfl d_Polys_findValues_7 ?_
  refine lv_iload_n hx hb d_Polys_findValues_10 rfl (lv_at hl 4 rfl) ?_
  refine q_cV (rest := []) E (R_Polys_liftedRoot l g n0 b mr hmr (kY b 3) k9 (by omega) (Or.inr rfl)) w_601 w_14 w_879 w_599 w_600 hd_Polys_liftedRoot rfl ⟨by decide, by decide⟩ (OB.recv E.2.2.2.2.2 (by rfl) hpo.1) (⟨hpo, hcr, ((hk.po hK hpo).2.2.1 3 (by decide))⟩) hF hl.1 rfl (Nat.le_of_ble_eq_true rfl) d_Polys_findValues_11 ⟨by decide, by decide⟩ (qv (fun H1 locs hq hF => ?_))
  obtain ⟨hq, f3, hf3, hv3⟩ := hq
  have hk : KJ g (kW b) s.heap _ := hq.mono (re_W (show kW b (b + 474) from Or.inr (Or.inl (by omega))))
  obtain ⟨f1, hf1, hv1⟩ := (hcr.kj hk kW_C).2.1
  refine lv_aload_n hx hb d_Polys_findValues_14 rfl (lv_at hl 1 rfl) ?_
  refine q_get (C := "KateDesk$Polynomials") (T := T_Polys) (N := 9) (ci := 7) E ((hk.po hK hpo).1) in_Polys rfl 5 (by decide) w_308 rfl rfl d_Polys_findValues_15 ?_
  refine lv_aload_n hx hb d_Polys_findValues_18 rfl (lv_at hl 1 rfl) ?_
  refine q_get (C := "KateDesk$Polynomials") (T := T_Polys) (N := 9) (ci := 7) E ((hk.po hK hpo).1) in_Polys rfl 0 (by decide) w_303 rfl rfl d_Polys_findValues_19 ?_
  refine q_get (C := "KateDesk$Field") (T := T_Field) (N := 7) (ci := 1) E ((hk.po hK hpo).2.1.1) in_Field rfl 1 (by decide) w_175 rfl rfl d_Polys_findValues_22 ?_
  refine q_cS (rest := []) E (c_Limbs_copy l g n0 (kY b 4) (kFr b 1) f1) w_146 w_5 w_856 w_145 hd_Limbs_copy rfl ⟨by decide, by decide⟩ (⟨((hk.po hK hpo).2.2.1 4 (by decide)), hf1⟩) hF hl.1 rfl (Nat.le_of_ble_eq_true rfl) d_Polys_findValues_25 ⟨by decide, by decide⟩ (qv (fun H2 locs hq hF => ?_))
  obtain ⟨hq, hf4⟩ := hq
  have hf3 := hq.ajo (show ¬ b + 474 = b + 475 by omega) hf3
  have hk : KJ g (kW b) s.heap _ := hk.tr (hq.mono (fun q h => Or.inr (Or.inl (by have h : q = b + 475 := h; omega))))
  refine lv_iconst (v := nI 0) hx hb d_Polys_findValues_28 (by decide) ?_
  refine lv_istore (lv' := [(5, .int (nI 0)), (4, .int (nI (2 ^ k9))), (0, .ref (b + 470)), (1, .ref (b + 1)), (2, .int (nI a)), (3, .int (nI k9))]) hx hb d_Polys_findValues_29 hl (by decide) rfl (fun ls hl => ?_)
  have hl : lv_has ls 7 [(5, .int (nI 0)), (0, .ref (b + 470)), (1, .ref (b + 1)), (2, .int (nI a)), (4, .int (nI (2 ^ k9)))] := lv_sub hl [0, 2, 3, 4, 1] rfl
  exact loop (2 ^ k9) 0 _ _ ls (by omega) hk ⟨_, hf3, hv3⟩ ⟨_, hf4, by rw [Int.pow_zero, Int.one_mul, Int.emod_eq_of_lt WR_r.1 WR_r.2]; exact hv1⟩ (fun j hj => absurd hj (Nat.not_lt_zero _)) hF hl
