/-! setup -/
def kSU (b q : Nat) : Prop := kPS b q ∨ (b + 84 ≤ q ∧ q ≤ b + 147)
theorem su_pw {b k : Nat} (hk : k < 16) : kSU b (kPW1 b k) ∧ kSU b (kPW2 b k) ∧ kSU b (kPW3 b k) := by unfold kSU kPW1 kPW2 kPW3; omega
theorem CX.kj {g : WG} {H H' : Heap} {b : Nat} {S : Nat → Prop} (h : CX g H b) (hk : KJ g S H H') (hS : ∀ q, S q → kSU b q) : CX g H' b := by
  have nn : ∀ q, (q = b + 168 ∨ (b + 170 ≤ q ∧ q ≤ b + 173) ∨ q = b + 175 ∨ q = b + 466 ∨ (b + 496 ≤ q ∧ q ≤ b + 498)) → ¬ S q := fun q hq h9 => by
    have h8 := hS q h9
    unfold kSU kPS at h8
    omega
  exact ⟨⟨hk.ajo (nn _ (by omega)) h.1.1, hk.ajo (nn _ (by omega)) h.1.2.1, h.1.2.2.1.imp (fun f hf => ⟨hk.ajo (nn _ (by omega)) hf.1, hf.2⟩), h.1.2.2.2.1.imp (fun f hf => ⟨hk.ajo (nn _ (by omega)) hf.1, hf.2⟩), h.1.2.2.2.2.1.imp (fun f hf => ⟨hk.ajo (nn _ (by omega)) hf.1, hf.2⟩), h.1.2.2.2.2.2.imp (fun f hf => ⟨hk.ajo (nn _ (by omega)) hf.1, hf.2⟩)⟩, h.2.1.off hk (nn _ (by omega)) (nn _ (by omega)) (nn _ (by omega)), h.2.2.imp (fun f hf => ⟨hk.ajo (nn _ (by omega)) hf.1, hf.2⟩)⟩
theorem su_n {b q : Nat} (h : (2 ≤ q - b ∧ b ≤ q ∧ q ≤ b + 33) ∨ (b + 163 ≤ q ∧ q ≤ b + 166) ∨ q = b + 168) : ¬ kSU b q := by unfold kSU kPS; omega
theorem tg_S {b i9 q : Nat} (h9 : i9 < 16) (h : (kPS b q ∧ q ≠ b + 160 ∧ q ≠ b + 161) ∨ q = kPW1 b i9 ∨ q = kPW2 b i9 ∨ q = kPW3 b i9) : kSU b q := by
  rcases h with h | h | h | h
  · exact Or.inl h.1
  · exact h ▸ (su_pw h9).1
  · exact h ▸ (su_pw h9).2.1
  · exact h ▸ (su_pw h9).2.2
theorem tg_pw {b i9 k : Nat} (h9 : i9 < 16) (hk : k < 16) (hn : k ≠ i9) : (¬ ((kPS b (kPW1 b k) ∧ kPW1 b k ≠ b + 160 ∧ kPW1 b k ≠ b + 161) ∨ kPW1 b k = kPW1 b i9 ∨ kPW1 b k = kPW2 b i9 ∨ kPW1 b k = kPW3 b i9)) ∧ (¬ ((kPS b (kPW2 b k) ∧ kPW2 b k ≠ b + 160 ∧ kPW2 b k ≠ b + 161) ∨ kPW2 b k = kPW1 b i9 ∨ kPW2 b k = kPW2 b i9 ∨ kPW2 b k = kPW3 b i9)) ∧ ¬ ((kPS b (kPW3 b k) ∧ kPW3 b k ≠ b + 160 ∧ kPW3 b k ≠ b + 161) ∨ kPW3 b k = kPW1 b i9 ∨ kPW3 b k = kPW2 b i9 ∨ kPW3 b k = kPW3 b i9) := by
  have a := pw_ps (b := b) hk
  refine ⟨fun h => h.elim (fun h => a.1 h.1) (fun h => ?_), fun h => h.elim (fun h => a.2.1 h.1) (fun h => ?_), fun h => h.elim (fun h => a.2.2 h.1) (fun h => ?_)⟩ <;> (unfold kPW1 kPW2 kPW3 at h; omega)
/-- the powers so far -/
def PWR (g : WG) (H : Heap) (b : Nat) (x : Int) (n : Nat) : Prop := ∀ k, k < n → ∃ T, RP G9 (x ^ k % RI) T ∧ LPt g H (kPW1 b k) (kPW2 b k) (kPW3 b k) T
theorem pw_nx (x : Int) (i : Nat) : ((x ^ i % RI) * ((x * WR) % RI) * WIR) % RI = x ^ (i + 1) % RI := by
  rw [lz_mul, Int.pow_succ, Int.mul_emod, Int.emod_emod_of_dvd _ (Int.dvd_refl _), ← Int.mul_emod]
theorem su_F {b : Nat} : ∀ q, kSU b q → nF b q := by
  intro q h
  unfold kSU kPS at h
  unfold nF nD kE
  omega
theorem PWR.pz {g : WG} {H H' : Heap} {b n : Nat} {x : Int} {S : Nat → Prop} (h : PWR g H b x n) (hq : KJ g S H H') (hS : ∀ q, S q → kPS b q) (h16 : n ≤ 16 := by omega) : PWR g H' b x n := by
  intro k hk
  obtain ⟨T, a, c⟩ := h k hk
  have n9 := pw_ps (b := b) (k := k) (by omega)
  exact ⟨T, a, c.off hq (fun h => n9.1 (hS _ h)) (fun h => n9.2.1 (hS _ h)) (fun h => n9.2.2 (hS _ h))⟩
theorem PWR.ps {g : WG} {H H' : Heap} {b n : Nat} {x : Int} (h : PWR g H b x n) (hq : KJ g (kPS b) H H') (h16 : n ≤ 16 := by omega) : PWR g H' b x n := h.pz hq (fun _ h => h)
theorem PWR.fr {g : WG} {H H' : Heap} {b n : Nat} {x : Int} {S : Nat → Prop} (h : PWR g H b x n) (hq : FRM S H H') (hS : ∀ k, ¬ S (kPW1 b k) ∧ ¬ S (kPW2 b k) ∧ ¬ S (kPW3 b k)) : PWR g H' b x n := by
  intro k hk
  obtain ⟨T, a, c⟩ := h k hk
  exact ⟨T, a, c.fr hq (hS k).1 (hS k).2.1 (hS k).2.2⟩
set_option maxHeartbeats 4000000 in
set_option maxRecDepth 100000 in
theorem L_Desk_setup (l : Launch) (g : WG) (b pn tn wn : Nat) (mr mq : Int64) (hmq : mq = 268238845) (hmr : mr = 268435455) (A : Nat → Int) (a n : Nat) (ha : a < 32) (h1 : 1 ≤ n) (h16 : n ≤ 16) : Ctr l y_Desk_setup (.code y_Desk_setup prog_1_method_16_code 4 none) 6 236 0 0 (nD b) g [.ref b, .int (nI a), .int (nI n)] (fun H => DS g H H b pn tn wn mr mq ∧ CR g H b ∧ CX g H b ∧ SCA g H b A) (QV (fun H H' => PWR g H' b (A a) n ∧ FRM (fun q => kSU b q ∨ q = b) H H' ∧ DX0 g H' b n mr mq ∧ RW9 g H' (b + 148) (b + 149) tn ∧ RW9 g H' (b + 150) (b + 151) wn ∧ n ≤ 16 ∧ tn ≤ 96 ∧ wn ≤ 96)) := by
  refine ctr_mk l (lv0 := [(0, .ref b), (1, .int (nI a)), (2, .int (nI n))]) (by decide) (Nat.le_of_ble_eq_true rfl) rfl ?_
  intro p e s m below meth c ls E hr hlk hnm hl hP
  have hx := E.1
  have hb := E.2.1
  have hK := E.2.2.2.2.2
  have hF : ∀ q ∈ ([] : List Loc), nD b q.base := fun q hq => absurd hq List.not_mem_nil
  obtain ⟨hd, hcr, hcx0, hsa⟩ := hP
  have hk : KJ g (kSU b) s.heap s.heap := KJ.rf
  obtain ⟨fa0, ja0, va0, ra0⟩ := hsa a ha
  have s34 : ∀ (H : Heap) (locs : List Loc) (ls : Array Slot), DS g s.heap H b pn tn wn mr mq → KJ g (kSU b) s.heap H → (1 < n → TG g H b 4) → PWR g H b (A a) 1 → (∀ q ∈ locs, nD b q.base) → lv_has ls 4 [(0, .ref b), (1, .int (nI a)), (2, .int (nI n))] → W p l e { frames := 6, cells := 0, slots := 0, locals := 236 } s m [.ref b, .int (nI a), .int (nI n)].toArray below meth c H locs 0 0 (MQ below (QcP (QV (fun H H' => PWR g H' b (A a) n ∧ FRM (fun q => kSU b q ∨ q = b) H H' ∧ DX0 g H' b n mr mq ∧ RW9 g H' (b + 148) (b + 149) tn ∧ RW9 g H' (b + 150) (b + 151) wn ∧ n ≤ 16 ∧ tn ≤ 96 ∧ wn ≤ 96))) [.ref b, .int (nI a), .int (nI n)].toArray s 0 0 (fun q => nD b q)) (F0 m 34 ls []) := by
    intro  H   locs   ls hd hk hTG hPR hF hl
    refine lv_aload_n hx hb d_Desk_setup_34 rfl (lv_at hl 0 rfl) ?_
    refine q_get (C := "KateDesk") (T := T_Desk) (N := 16) (ci := 5) E hd.x.ob in_Desk rfl 0 (by decide) w_339 rfl rfl d_Desk_setup_35 ?_
    refine lv_aload_n hx hb d_Desk_setup_38 rfl (lv_at hl 0 rfl) ?_
    refine q_get (C := "KateDesk") (T := T_Desk) (N := 16) (ci := 5) E hd.x.ob in_Desk rfl 15 (by decide) w_354 rfl rfl d_Desk_setup_39 ?_
    refine lv_aload_n hx hb d_Desk_setup_42 rfl (lv_at hl 0 rfl) ?_
    refine q_get (C := "KateDesk") (T := T_Desk) (N := 16) (ci := 5) E hd.x.ob in_Desk rfl 5 (by decide) w_344 rfl rfl d_Desk_setup_43 ?_
    refine lv_iload_n hx hb d_Desk_setup_46 rfl (lv_at hl 1 rfl) ?_
    refine q_aald (t := 4) E rfl rfl hd.x.rs.1 a rfl ha (by decide) d_Desk_setup_47 ?_
    refine q_cV (rest := []) E (R_Field_lift l g (nD b) (b + 162) (b + 161) (kSc b a) (kFr b) mr fa0 (A a) va0 ra0 (show b + 168 ≠ b + 161 by omega) hmr) w_302 w_4 w_336 w_300 w_301 hd_Field_lift rfl ⟨by decide, by decide⟩ (OB.recv E.2.2.2.2.2 (by rfl) hd.x.fr.1) (⟨hd.x.fr.nd, hd.x.fa.nd, hk.ajo (su_n (by unfold kSc; omega)) ja0, (show AJ g _ (b + 168) 14 kR from hk.ajo (su_n (by omega)) hcr.1), hcr.2.2.2.1.imp (fun f hf => ⟨(show AJ g _ (b + 165) 14 f from hk.ajo (su_n (by omega)) hf.1), hf.2⟩)⟩) hF hl.1 rfl (Nat.le_of_ble_eq_true rfl) d_Desk_setup_48 ⟨by decide, by decide⟩ (qv (fun H1 locs hq hF => ?_))
    obtain ⟨hq, ff, jf, vf⟩ := hq
    have hd := hd.kj hK hq (fun q h => h ▸ kc_nJ (by decide))
    have hTG := fun h => (hTG h).kj hq (fun t m9 h8 h7 => by unfold kO1 kO2 kO3; omega)
    have hPR := hPR.pz hq (fun q h => by rw [h]; unfold kPS; omega)
    have hk := hk.tr (hq.mono (fun q h => by rw [h]; unfold kSU kPS; omega))
    refine lv_aload_n hx hb d_Desk_setup_51 rfl (lv_at hl 0 rfl) ?_
    refine q_get (C := "KateDesk") (T := T_Desk) (N := 16) (ci := 5) E hd.x.ob in_Desk rfl 14 (by decide) w_353 rfl rfl d_Desk_setup_52 ?_
    refine lv_aload_n hx hb d_Desk_setup_55 rfl (lv_at hl 0 rfl) ?_
    refine q_get (C := "KateDesk") (T := T_Desk) (N := 16) (ci := 5) E hd.x.ob in_Desk rfl 5 (by decide) w_344 rfl rfl d_Desk_setup_56 ?_
    refine lv_iload_n hx hb d_Desk_setup_59 rfl (lv_at hl 1 rfl) ?_
    refine q_aald (t := 4) E rfl rfl hd.x.rs.1 a rfl ha (by decide) d_Desk_setup_60 ?_
    refine q_cS (rest := []) E ((c_Limbs_copy l g (nJ b) (b + 160) (kSc b a) fa0).up nJ_D) w_146 w_5 w_338 w_145 hd_Limbs_copy rfl ⟨by decide, by decide⟩ (⟨hd.x.hs, hk.ajo (su_n (by unfold kSc; omega)) ja0⟩) hF hl.1 rfl (Nat.le_of_ble_eq_true rfl) d_Desk_setup_61 ⟨by decide, by decide⟩ (qv (fun H2 locs hq hF => ?_))
    obtain ⟨hq, js⟩ := hq
    have jf := hq.ajo (show b + 161 ≠ b + 160 by omega) jf
    have hd := hd.kj hK hq (fun q h => h ▸ kc_nJ (by decide))
    have hTG := fun h => (hTG h).kj hq (fun t m9 h8 h7 => by unfold kO1 kO2 kO3; omega)
    have hPR := hPR.pz hq (fun q h => by rw [h]; unfold kPS; omega)
    have hk := hk.tr (hq.mono (fun q h => by rw [h]; unfold kSU kPS; omega))
    refine lv_iconst (v := nI 1) hx hb d_Desk_setup_64 (by decide) ?_
    refine lv_istore_n (lv' := [(3, .int (nI 1)), (0, .ref b), (1, .int (nI a)), (2, .int (nI n))]) hx hb d_Desk_setup_65 rfl hl (by decide) rfl (fun ls hl => ?_)
    have lp : ∀ (k : Nat) (i : Nat) (H : Heap) (locs : List Loc) (ls : Array Slot) (fs : Nat → Int64), i + k = n → 1 ≤ i → DS g s.heap H b pn tn wn mr mq → KJ g (kSU b) s.heap H → (1 < n → TG g H b 4) → AJ g H (b + 160) 14 fs → RV fs (A a ^ i % RI) → AJ g H (b + 161) 14 ff → PWR g H b (A a) i → (∀ q ∈ locs, nD b q.base) → lv_has ls 4 [(3, .int (nI i)), (0, .ref b), (1, .int (nI a)), (2, .int (nI n))] → W p l e { frames := 6, cells := 0, slots := 0, locals := 236 } s m [.ref b, .int (nI a), .int (nI n)].toArray below meth c H locs 0 0 (MQ below (QcP (QV (fun H H' => PWR g H' b (A a) n ∧ FRM (fun q => kSU b q ∨ q = b) H H' ∧ DX0 g H' b n mr mq ∧ RW9 g H' (b + 148) (b + 149) tn ∧ RW9 g H' (b + 150) (b + 151) wn ∧ n ≤ 16 ∧ tn ≤ 96 ∧ wn ≤ 96))) [.ref b, .int (nI a), .int (nI n)].toArray s 0 0 (fun q => nD b q)) (F0 m 66 ls []) := by
      intro k
      induction k with
      | zero =>
        intro  i   H   locs   ls   fs hi hi1 hd hk hTG js vs jf hPR hF hl
        obtain rfl : i = n := by omega
        refine lv_iload_n hx hb d_Desk_setup_66 rfl (lv_at hl 0 rfl) ?_
        refine lv_iload_n hx hb d_Desk_setup_67 rfl (lv_at hl 3 rfl) ?_
        refine lv_icmp_ge (tgt := 110) hx hb d_Desk_setup_68 (by decide) (fun _ => ?_) (fun h9 => absurd (nI_le (Nat.le_refl _) (by omega)) h9)
        refine lv_aload_n hx hb d_Desk_setup_110 rfl (lv_at hl 1 rfl) ?_
        refine lv_iload_n hx hb d_Desk_setup_111 rfl (lv_at hl 3 rfl) ?_
        refine q_put (C := "KateDesk") (T := T_Desk) (N := 16) (ci := 5) (ty := .int) E hd.x.ob in_Desk ty_Desk tyok_Desk nm_Desk rfl 8 (by decide) w_347 rfl rfl (by decide +kernel) rfl rfl (Nat.le_of_ble_eq_true rfl) (⟨Nat.le_refl _, Nat.le_add_right _ _⟩) hF d_Desk_setup_112 (fun H1 locs hq ho2 hF => ?_)
        have hd2 := hd.pow hq ho2 h16
        have hPR := hPR.fr hq (fun k => by unfold kPW1 kPW2 kPW3; omega)
        exact q_vret E hr hlk (⟨rfl, hPR, ((hk.frm).mono (fun q h => Or.inl h)).tr (hq.mono (fun q h => Or.inr h)), hd2.2⟩) hF d_Desk_setup_115
      | succ k ih =>
        intro  i   H   locs   ls   fs hi hi1 hd hk hTG js vs jf hPR hF hl
        refine lv_iload_n hx hb d_Desk_setup_66 rfl (lv_at hl 0 rfl) ?_
        refine lv_iload_n hx hb d_Desk_setup_67 rfl (lv_at hl 3 rfl) ?_
        refine lv_icmp_ge (tgt := 110) hx hb d_Desk_setup_68 (by decide) (fun h9 => absurd h9 (nI_ge (by omega) (by omega))) (fun _ => ?_)
        refine lv_aload_n hx hb d_Desk_setup_71 rfl (lv_at hl 1 rfl) ?_
        refine lv_aload_n hx hb d_Desk_setup_72 rfl (lv_at hl 1 rfl) ?_
        refine q_get (C := "KateDesk") (T := T_Desk) (N := 16) (ci := 5) E hd.x.ob in_Desk rfl 7 (by decide) w_346 rfl rfl d_Desk_setup_73 ?_
        refine lv_iload_n hx hb d_Desk_setup_76 rfl (lv_at hl 0 rfl) ?_
        refine q_aald (t := 3) E rfl rfl hd.x.pw i rfl (by omega) (by decide) d_Desk_setup_77 ?_
        refine lv_aload_n hx hb d_Desk_setup_78 rfl (lv_at hl 1 rfl) ?_
        refine q_get (C := "KateDesk") (T := T_Desk) (N := 16) (ci := 5) E hd.x.ob in_Desk rfl 14 (by decide) w_353 rfl rfl d_Desk_setup_79 ?_
        have hsN : (((A a ^ i % RI).toNat : Nat) : Int) = A a ^ i % RI := Int.toNat_of_nonneg (rm_r _).1
        have hs256 : (A a ^ i % RI).toNat < 2 ^ 256 := by (have h8 := rm_r (A a ^ i)); (have h7 : RI < 2 ^ 256 := by decide +kernel); omega
        refine q_cV (rest := []) E (L_Desk_timesGenerator l g b pn tn wn mr mq hmq i (A a ^ i % RI).toNat (by omega) hs256) w_832 w_1 w_829 w_831 (bw_s 12 rfl) hd_Desk_timesGenerator rfl ⟨by decide, by decide⟩ (OB.recv E.2.2.2.2.2 (by rfl) hd.x.ob) (⟨⟨FRM.rf, hd.2⟩, (hcx0.kj hk (fun q h => h)), hTG (by omega), _, js, by rw [hsN]; exact vs⟩) hF hl.1 rfl (Nat.le_of_ble_eq_true rfl) d_Desk_setup_82 ⟨by decide, by decide⟩ (qv (fun H1 locs hq hF => ?_))
        obtain ⟨T9, hRP, hT9, hTG9, hq, hdz⟩ := hq
        rw [hsN] at hRP
        have js := hq.ajo (fun h => h.elim (fun h => h.2.1 rfl) (fun h => by unfold kPW1 kPW2 kPW3 at h; omega)) js
        have jf := hq.ajo (fun h => h.elim (fun h => h.2.2 rfl) (fun h => by unfold kPW1 kPW2 kPW3 at h; omega)) jf
        have hPR : PWR g H1 b (A a) (i + 1) := fun k hk1 => by
          by_cases e : k = i
          · rw [e]; exact ⟨T9, hRP, hT9⟩
          · obtain ⟨T, c1, c2⟩ := hPR k (by omega)
            have n9 := tg_pw (b := b) (i9 := i) (k := k) (by omega) (by omega) e
            exact ⟨T, c1, c2.off hq n9.1 n9.2.1 n9.2.2⟩
        have hTG : 1 < n → TG g H1 b 4 := fun _ => hTG9
        have hk := hk.tr (hq.mono (fun q h => tg_S (by omega) h))
        have hd : DS g s.heap H1 b pn tn wn mr mq := ⟨(hk.frq su_F), hdz⟩
        refine lv_aload_n hx hb d_Desk_setup_85 rfl (lv_at hl 1 rfl) ?_
        refine q_get (C := "KateDesk") (T := T_Desk) (N := 16) (ci := 5) E hd.x.ob in_Desk rfl 0 (by decide) w_339 rfl rfl d_Desk_setup_86 ?_
        refine lv_aload_n hx hb d_Desk_setup_89 rfl (lv_at hl 1 rfl) ?_
        refine q_get (C := "KateDesk") (T := T_Desk) (N := 16) (ci := 5) E hd.x.ob in_Desk rfl 14 (by decide) w_353 rfl rfl d_Desk_setup_90 ?_
        refine lv_aload_n hx hb d_Desk_setup_93 rfl (lv_at hl 1 rfl) ?_
        refine q_get (C := "KateDesk") (T := T_Desk) (N := 16) (ci := 5) E hd.x.ob in_Desk rfl 14 (by decide) w_353 rfl rfl d_Desk_setup_94 ?_
        refine lv_aload_n hx hb d_Desk_setup_97 rfl (lv_at hl 1 rfl) ?_
        refine q_get (C := "KateDesk") (T := T_Desk) (N := 16) (ci := 5) E hd.x.ob in_Desk rfl 15 (by decide) w_354 rfl rfl d_Desk_setup_98 ?_
        refine q_cV (rest := []) E (R_Field_multiply l g (nD b) (b + 162) (b + 160) (b + 160) (b + 161) (kFr b) mr _ ff (A a ^ i % RI) ((A a * WR) % RI) vs vf (rm_r _).2 (rm_r _).2 (show b + 168 ≠ b + 160 by omega) hmr) w_165 w_4 w_576 w_163 w_164 hd_Field_multiply rfl ⟨by decide, by decide⟩ (OB.recv E.2.2.2.2.2 (by rfl) hd.x.fr.1) (⟨hd.x.fr.nd, hd.x.hs.nd, js, jf, (show AJ g _ (b + 168) 14 kR from hk.ajo (su_n (by omega)) hcr.1)⟩) hF hl.1 rfl (Nat.le_of_ble_eq_true rfl) d_Desk_setup_101 ⟨by decide, by decide⟩ (qv (fun H2 locs hq hF => ?_))
        obtain ⟨hq, f8, js, vs⟩ := hq
        rw [pw_nx] at vs
        have jf := hq.ajo (show b + 161 ≠ b + 160 by omega) jf
        have hd := hd.kj hK hq (fun q h => h ▸ kc_nJ (by decide))
        have hTG := fun h => (hTG h).kj hq (fun t m9 h8 h7 => by unfold kO1 kO2 kO3; omega)
        have hPR := hPR.pz hq (fun q h => by rw [h]; unfold kPS; omega)
        have hk := hk.tr (hq.mono (fun q h => by rw [h]; unfold kSU kPS; omega))
        refine lv_iinc (k := 0) (v := nI (i + 1)) (lv' := [(3, .int (nI (i + 1))), (0, .ref b), (1, .int (nI a)), (2, .int (nI n))]) hx hb d_Desk_setup_104 hl rfl (i_inc i) (by decide) rfl (fun ls hl => ?_)
        refine lv_goto (tgt := 66) hx hb d_Desk_setup_107 (by decide) ?_
        have hl : lv_has ls 4 [(3, .int (nI (i + 1))), (0, .ref b), (1, .int (nI a)), (2, .int (nI n))] := lv_sub hl [0, 1, 2, 3] rfl
        exact ih (i + 1) _ _ ls _ (by omega) (by omega) hd hk hTG js vs jf hPR hF hl
    have hl : lv_has ls 4 [(3, .int (nI 1)), (0, .ref b), (1, .int (nI a)), (2, .int (nI n))] := lv_sub hl [0, 1, 2, 3] rfl
    exact lp (n - 1) 1 _ _ ls _ (by omega) (by omega) hd hk hTG js (by rw [Int.pow_succ, Int.pow_zero, Int.one_mul, Int.emod_eq_of_lt va0.nn ra0]; exact va0) jf hPR hF hl
  refine lv_iload_n hx hb d_Desk_setup_0 rfl (lv_at hl 1 rfl) ?_
  refine lv_iconst (v := nI 1) hx hb d_Desk_setup_1 (by decide) ?_
  refine q_cS (rest := []) E (c_Desk_needScalars l g (nD b) (nI a) (nI 1) (okS_of (by decide) ha)) w_494 w_1 w_492 w_493 hd_Desk_needScalars rfl ⟨by decide, by decide⟩ trivial hF hl.1 rfl (Nat.le_of_ble_eq_true rfl) d_Desk_setup_2 ⟨by decide, by decide⟩ (qv (fun H1 locs hq hF => ?_))
  have hq := hq.symm
  subst hq
  refine lv_iload_n hx hb d_Desk_setup_5 rfl (lv_at hl 2 rfl) ?_
  refine lv_iconst (v := nI 1) hx hb d_Desk_setup_6 (by decide) ?_
  refine lv_bipush (v := nI 16) hx hb d_Desk_setup_7 (by decide) ?_
  refine q_cS (rest := []) E (c_Desk_needCount l g (nD b) (nI n) (nI 1) (nI 16) (okC_of h1 h16 (by decide))) w_798 w_1 w_796 w_797 hd_Desk_needCount rfl ⟨by decide, by decide⟩ trivial hF hl.1 rfl (Nat.le_of_ble_eq_true rfl) d_Desk_setup_9 ⟨by decide, by decide⟩ (qv (fun H2 locs hq hF => ?_))
  have hq := hq.symm
  subst hq
  refine lv_aload_n hx hb d_Desk_setup_12 rfl (lv_at hl 0 rfl) ?_
  refine q_get (C := "KateDesk") (T := T_Desk) (N := 16) (ci := 5) E hd.x.ob in_Desk rfl 7 (by decide) w_346 rfl rfl d_Desk_setup_13 ?_
  refine lv_iconst (v := nI 0) hx hb d_Desk_setup_16 (by decide) ?_
  refine q_aald (t := 3) E rfl rfl hd.x.pw 0 rfl (by decide) (by decide) d_Desk_setup_17 ?_
  refine lv_aload_n hx hb d_Desk_setup_18 rfl (lv_at hl 0 rfl) ?_
  refine q_get (C := "KateDesk") (T := T_Desk) (N := 16) (ci := 5) E hd.x.ob in_Desk rfl 11 (by decide) w_350 rfl rfl d_Desk_setup_19 ?_
  refine q_cV (rest := []) E ((L_Point_copy l g (nJ b) (kPW b 0) (kPW1 b 0) (kPW2 b 0) (kPW3 b 0) (b + 495) (b + 496) (b + 497) (b + 498) G9 (pw_ne (b := b) (by decide)).1 (by unfold kPW1 kPW2; omega)).up nJ_D) w_697 w_2 w_730 w_695 w_696 hd_Point_copy rfl ⟨by decide, by decide⟩ (OB.recv E.2.2.2.2.2 (by rfl) ((hd.x.pq 0 (by decide)).1)) (⟨hd.x.pq 0 (by decide), hd.x.ge, (hcx0.kj hk (fun q h => h)).2.1⟩) hF hl.1 rfl (Nat.le_of_ble_eq_true rfl) d_Desk_setup_22 ⟨by decide, by decide⟩ (qv (fun H3 locs hq hF => ?_))
  obtain ⟨hq, hp0⟩ := hq
  have hd := hd.kj hK hq (pt_le (hd.x.pq 0 (by decide)))
  have hk := hk.tr (hq.mono (fun q h => by rcases h with h | h | h; exact h ▸ (su_pw (by decide)).1; exact h ▸ (su_pw (by decide)).2.1; exact h ▸ (su_pw (by decide)).2.2))
  have hPR : PWR g H3 b (A a) 1 := fun k hk1 => by (have e : k = 0 := by omega); subst e; exact ⟨G9, by rw [Int.pow_zero, show (1 : Int) % RI = 1 by decide +kernel]; exact RP_1 G9_on, hp0⟩
  refine lv_iload_n hx hb d_Desk_setup_25 rfl (lv_at hl 2 rfl) ?_
  refine lv_iconst (v := nI 1) hx hb d_Desk_setup_26 (by decide) ?_
  refine lv_icmp_le (tgt := 34) hx hb d_Desk_setup_27 (by decide) (fun hc => ?_) (fun hc => ?_)
  · skip
    have hc : n ≤ 1 := (nI_leI (by omega) (by decide)).mp hc
    have hl : lv_has ls 4 [(0, .ref b), (1, .int (nI a)), (2, .int (nI n))] := lv_sub hl [0, 1, 2] rfl
    exact s34 _ _ ls hd hk (fun h => absurd h (by omega)) hPR hF hl
  · skip
    refine lv_aload_n hx hb d_Desk_setup_30 rfl (lv_at hl 0 rfl) ?_
    refine q_cV (rest := []) E (L_Desk_spreadGenerator l g b pn tn wn mr mq hmq) w_826 w_1 w_823 w_825 (bw_s 11 rfl) hd_Desk_spreadGenerator rfl ⟨by decide, by decide⟩ (OB.recv E.2.2.2.2.2 (by rfl) hd.x.ob) (⟨⟨FRM.rf, hd.2⟩, (hcx0.kj hk (fun q h => h))⟩) hF hl.1 rfl (Nat.le_of_ble_eq_true rfl) d_Desk_setup_31 ⟨by decide, by decide⟩ (qv (fun H4 locs hq hF => ?_))
    obtain ⟨hTG, hq, hdz⟩ := hq
    have hPR := hPR.ps hq
    have hk := hk.tr (hq.mono (fun q h => Or.inl h))
    have hd : DS g s.heap H4 b pn tn wn mr mq := ⟨(hk.frq su_F), hdz⟩
    have hl : lv_has ls 4 [(0, .ref b), (1, .int (nI a)), (2, .int (nI n))] := lv_sub hl [0, 1, 2] rfl
    exact s34 _ _ ls hd hk (fun _ => hTG) hPR hF hl
