theorem pt_of {g : WG} {n0 : Nat → Prop} {H : Heap} {o o' x y z : Nat} (h : PZ g H o) (hn : ∀ q, o ≤ q → n0 q) (e0 : o' = o) (e1 : x = o + 1) (e2 : y = o + 2) (e3 : z = o + 3) : PT g n0 H o' x y z := by
  subst e0 e1 e2 e3
  exact ⟨h.1, ⟨hn _ (by omega), _, h.2.1⟩, ⟨hn _ (by omega), _, h.2.2.1⟩, ⟨hn _ (by omega), _, h.2.2.2⟩⟩
theorem z_of {g : WG} {H : Heap} {o z : Nat} (h : PZ g H o) (e3 : z = o + 3) : AJ g H z 14 (fun _ => 0) := by
  subst e3
  exact h.2.2.2
theorem tn_k1 (b k : Nat) : b ≤ b + 187 + 1 + 4 * k := by omega
theorem tn_k2 (b k : Nat) : kO1 b k = b + 187 + 1 + 4 * k + 1 := by unfold kO1; omega
theorem tn_k3 (b k : Nat) : kO2 b k = b + 187 + 1 + 4 * k + 2 := by unfold kO2; omega
theorem tn_k4 (b k : Nat) : kO3 b k = b + 187 + 1 + 4 * k + 3 := by unfold kO3; omega
theorem tn_k5 (b k : Nat) : b ≤ b + 444 + 1 + k := by omega
theorem tn_k6 (b k : Nat) : b ≤ b + 1 + 1 + k := by omega
theorem tn_k7 (b k : Nat) : b ≤ b + 34 + 1 + 4 * k := by omega
theorem tn_k8 (b k : Nat) : kPA1 b k = b + 34 + 1 + 4 * k + 1 := by unfold kPA1; omega
theorem tn_k9 (b k : Nat) : kPA2 b k = b + 34 + 1 + 4 * k + 2 := by unfold kPA2; omega
theorem tn_k10 (b k : Nat) : kPA3 b k = b + 34 + 1 + 4 * k + 3 := by unfold kPA3; omega
theorem tn_k11 (b k : Nat) : b ≤ b + 83 + 1 + 4 * k := by omega
theorem tn_k12 (b k : Nat) : kPW1 b k = b + 83 + 1 + 4 * k + 1 := by unfold kPW1; omega
theorem tn_k13 (b k : Nat) : kPW2 b k = b + 83 + 1 + 4 * k + 2 := by unfold kPW2; omega
theorem tn_k14 (b k : Nat) : kPW3 b k = b + 83 + 1 + 4 * k + 3 := by unfold kPW3; omega
set_option maxHeartbeats 1000000 in
theorem dk_mk {g : WG} {n0 : Nat → Prop} {H : Heap} {b : Nat} {mr mq : Int64} (hna : ∀ q, b ≤ q → n0 q) (ho : OB g H b 5 [.ref (b + 162), .ref (b + 176), .ref (b + 186), .ref (b + 465), .ref (b + 470), .ref (b + 1), .ref (b + 34), .ref (b + 83), .int 0, .ref (b + 148), .ref (b + 150), .ref (b + 495), .ref (b + 152), .ref (b + 156), .ref (b + 160), .ref (b + 161)]) (hso : AR g.2.2.2.2.2.1 H (b + 1) 32 (fun j => b + 1 + 1 + j)) (hsi : ∀ j, j < 32 → AJ g H (b + 1 + 1 + j) 14 (fun _ => 0)) (hpo : AR g.2.2.2.2.1 H (b + 34) 12 (fun k => b + 34 + 1 + 4 * k)) (hpi : ∀ k, k < 12 → PZ g H (b + 34 + 1 + 4 * k)) (hwo : AR g.2.2.2.2.1 H (b + 83) 16 (fun k => b + 83 + 1 + 4 * k)) (hwi : ∀ k, k < 16 → PZ g H (b + 83 + 1 + 4 * k)) (htp : OB g H (b + 148) 3 [.ref (b + 149), .int 0]) (htc : AB g H (b + 149) 96 (fun _ => 0)) (hwr : OB g H (b + 150) 3 [.ref (b + 151), .int 0]) (hwc : AB g H (b + 151) 96 (fun _ => 0)) (hhp : PZ g H (b + 152)) (hmu : PZ g H (b + 156)) (hhs : AJ g H (b + 160) 14 (fun _ => 0)) (hfa : AJ g H (b + 161) 14 (fun _ => 0)) (hfr : FD g n0 H (b + 162) (kF (b + 162)) mr) (hmr : AJ g H (b + 168) 14 (hxF hb60 64 64)) (hfq : FD g n0 H (b + 169) (kF (b + 169)) mq) (hmq : AJ g H (b + 175) 14 (hxF hb65 96 96)) (hcv : OB g H (b + 176) 0 [.ref (b + 169), .ref (b + 177), .ref (b + 178), .ref (b + 179), .ref (b + 180), .ref (b + 181), .ref (b + 182), .ref (b + 183), .ref (b + 184), .ref (b + 185)]) (hc1 : AJ g H (b + 177) 14 (fun _ => 0)) (hc2 : AJ g H (b + 178) 14 (fun _ => 0)) (hc3 : AJ g H (b + 179) 14 (fun _ => 0)) (hc4 : AJ g H (b + 180) 14 (fun _ => 0)) (hc5 : AJ g H (b + 181) 14 (fun _ => 0)) (hc6 : AJ g H (b + 182) 14 (fun _ => 0)) (hc7 : AJ g H (b + 183) 14 (fun _ => 0)) (hc8 : AJ g H (b + 184) 14 (fun _ => 0)) (hc9 : AJ g H (b + 185) 14 (fun _ => 0)) (hsu : OB g H (b + 186) 4 [.ref (b + 176), .ref (b + 187), .ref (b + 444), .ref (b + 461)]) (hod : AR g.2.2.2.2.1 H (b + 187) 64 (fun k => b + 187 + 1 + 4 * k)) (hop : ∀ k, k < 64 → PZ g H (b + 187 + 1 + 4 * k)) (hdo : AR g.2.2.2.2.2.2 H (b + 444) 16 (fun j => b + 444 + 1 + j)) (hdi : ∀ j, j < 16 → AB g H (b + 444 + 1 + j) 257 (fun _ => 0)) (hsm : PZ g H (b + 461)) (hfm : OB g H (b + 465) 6 [.ref (b + 169), .ref (b + 176), .ref (b + 466), .ref (b + 467), .ref (b + 468), .ref (b + 469)]) (hpl : OB g H (b + 470) 7 [.ref (b + 162), .ref (b + 471), .ref (b + 472), .ref (b + 473), .ref (b + 474), .ref (b + 475), .ref (b + 476), .ref (b + 477), .ref (b + 478)]) (hpy : ∀ k, k < 7 → J14 g n0 H (b + 470 + 1 + k)) (hpv : AR g.2.2.2.2.2.1 H (b + 478) 16 (fun j => b + 478 + 1 + j)) (hpw : ∀ j, j < 16 → J14 g n0 H (b + 478 + 1 + j)) (hge : PT g n0 H (b + 495) (b + 496) (b + 497) (b + 498)) : DK g n0 H b 0 0 0 mr mq ∧ FRESH g H b := by
  have up : ∀ {c : Nat} q, b + c ≤ q → n0 q := fun q h => hna q (Nat.le_trans (Nat.le_add_right _ _) h)
  have hpt : ∀ (o : Nat), b ≤ o → ∀ q, o ≤ q → n0 q := fun o h q h2 => hna q (Nat.le_trans h h2)
  have kcv : CV g n0 H (b + 176) (b + 169) (kFq b) mq (kX b) := by
    refine ⟨hcv, hfq, fun k hk => ?_⟩
    match k, hk with
    | 0, _ => exact ⟨hna (b + 177) (Nat.le_add_right _ _), _, hc1⟩
    | 1, _ => exact ⟨hna (b + 178) (Nat.le_add_right _ _), _, hc2⟩
    | 2, _ => exact ⟨hna (b + 179) (Nat.le_add_right _ _), _, hc3⟩
    | 3, _ => exact ⟨hna (b + 180) (Nat.le_add_right _ _), _, hc4⟩
    | 4, _ => exact ⟨hna (b + 181) (Nat.le_add_right _ _), _, hc5⟩
    | 5, _ => exact ⟨hna (b + 182) (Nat.le_add_right _ _), _, hc6⟩
    | 6, _ => exact ⟨hna (b + 183) (Nat.le_add_right _ _), _, hc7⟩
    | 7, _ => exact ⟨hna (b + 184) (Nat.le_add_right _ _), _, hc8⟩
    | 8, _ => exact ⟨hna (b + 185) (Nat.le_add_right _ _), _, hc9⟩
  have ksu : SU g n0 H (b + 186) (b + 176) (b + 187) (b + 444) (b + 461) (b + 462) (b + 463) (b + 464) (b + 169) (kFq b) mq (kX b) (kO b) (kO1 b) (kO2 b) (kO3 b) (kDG b) := by
    refine ⟨hsu, kcv, pt_of hsm (hpt _ (Nat.le_add_right _ _)) rfl rfl rfl rfl, hod, fun k hk => pt_of (hop k hk) (hpt _ (tn_k1 b k)) rfl (tn_k2 b k) (tn_k3 b k) (tn_k4 b k), hdo, fun k hk => ⟨hna _ (tn_k5 b k), _, hdi k hk⟩⟩
  refine ⟨⟨ho, hfr, ksu, ⟨hpl, hfr, hpy, hpv, hpw⟩, ⟨hso, fun k hk => ⟨hna _ (tn_k6 b k), _, hsi k hk⟩⟩, hpo, fun k hk => pt_of (hpi k hk) (hpt _ (tn_k7 b k)) rfl (tn_k8 b k) (tn_k9 b k) (tn_k10 b k), hwo, fun k hk => pt_of (hwi k hk) (hpt _ (tn_k11 b k)) rfl (tn_k12 b k) (tn_k13 b k) (tn_k14 b k), htp, ⟨_, htc⟩, hwr, ⟨_, hwc⟩, pt_of hhp (hpt _ (Nat.le_add_right _ _)) rfl rfl rfl rfl, pt_of hmu (hpt _ (Nat.le_add_right _ _)) rfl rfl rfl rfl, ⟨hna _ (Nat.le_add_right _ _), _, hhs⟩, ⟨hna _ (Nat.le_add_right _ _), _, hfa⟩, hfm, hge, hna _ (Nat.le_refl _), hna _ (Nat.le_add_right _ _), hna _ (Nat.le_add_right _ _), hna _ (Nat.le_add_right _ _), hna _ (Nat.le_add_right _ _)⟩, hsi, fun k hk => z_of (hpi k hk) (tn_k10 b k), ⟨_, hmr, hx60⟩, ⟨_, hmq, hx65⟩⟩
theorem fq_ne162 (b : Nat) : ∀ k, k < 6 → kF (b + 162) k ≠ b := by
  intro k hk
  unfold kF
  split <;> omega
theorem fq_lt162 (b : Nat) : ∀ k, k < 6 → kF (b + 162) k < b + 470 := by
  intro k hk
  unfold kF
  split <;> omega
theorem fq_ne169 (b : Nat) : ∀ k, k < 6 → kF (b + 169) k ≠ b := by
  intro k hk
  unfold kF
  split <;> omega
theorem fq_lt169 (b : Nat) : ∀ k, k < 6 → kF (b + 169) k < b + 465 := by
  intro k hk
  unfold kF
  split <;> omega
theorem tn_d_0 (b k : Nat) : b + 1 + 1 + k ≠ b := by omega
theorem tn_d_1 (b k : Nat) : b < b + 34 + 1 + 4 * k := by omega
theorem tn_d_2 (b k : Nat) : b < b + 83 + 1 + 4 * k := by omega
theorem tn_d_3 (b k : Nat) : b < b + 152 := by omega
theorem tn_d_4 (b k : Nat) : b < b + 156 := by omega
theorem tn_d_5 (b k : Nat) : b < b + 186 + 1 + 1 + 4 * k := by omega
theorem tn_d_6 (b k : Nat) : b + 186 + 258 + 1 + k ≠ b := by omega
theorem tn_d_7 (b k : Nat) : b < b + 461 := by omega
theorem tn_d_8 (b k : Nat) : b + 169 < b + 465 := by omega
theorem tn_d_9 (b k : Nat) : b + 162 < b + 470 := by omega
theorem tn_d_10 (b k : Nat) : b + 470 + 1 + k ≠ b := by omega
theorem tn_d_11 (b k : Nat) : b + 470 + 8 + 1 + k ≠ b := by omega
theorem tn_d_12 (b k : Nat) : b + 169 < b + 465 := by omega
theorem tn_d_13 (b k : Nat) : b + 162 < b + 470 := by omega
abbrev y_Desk_init : MethodName := ⟨"KateDesk", "<init>", "()V"⟩
theorem hd_Desk_init : y_Desk_init.cls ≠ "java/lang/invoke/MethodHandle" ∧ y_Desk_init.cls ≠ "java/lang/invoke/VarHandle" ∧ (parseMethodDescriptor y_Desk_init.desc).map (fun d => d.parameters.length) = some 0 := by decide +kernel
theorem d_Desk_init_0 : decode prog_1_method_1_code 0 = .ok (.aload_n 0, 1) := by decide +kernel
theorem d_Desk_init_1 : decode prog_1_method_1_code 1 = .ok (.invokespecial 1, 3) := by decide +kernel
theorem d_Desk_init_4 : decode prog_1_method_1_code 4 = .ok (.aload_n 0, 1) := by decide +kernel
theorem d_Desk_init_5 : decode prog_1_method_1_code 5 = .ok (.bipush 32, 2) := by decide +kernel
theorem d_Desk_init_7 : decode prog_1_method_1_code 7 = .ok (.bipush 14, 2) := by decide +kernel
theorem d_Desk_init_9 : decode prog_1_method_1_code 9 = .ok (.multianewarray 11 2, 4) := by decide +kernel
theorem d_Desk_init_13 : decode prog_1_method_1_code 13 = .ok (.putfield 13, 3) := by decide +kernel
theorem d_Desk_init_16 : decode prog_1_method_1_code 16 = .ok (.aload_n 0, 1) := by decide +kernel
theorem d_Desk_init_17 : decode prog_1_method_1_code 17 = .ok (.bipush 12, 2) := by decide +kernel
theorem d_Desk_init_19 : decode prog_1_method_1_code 19 = .ok (.invokestatic 16, 3) := by decide +kernel
theorem d_Desk_init_22 : decode prog_1_method_1_code 22 = .ok (.putfield 20, 3) := by decide +kernel
theorem d_Desk_init_25 : decode prog_1_method_1_code 25 = .ok (.aload_n 0, 1) := by decide +kernel
theorem d_Desk_init_26 : decode prog_1_method_1_code 26 = .ok (.bipush 16, 2) := by decide +kernel
theorem d_Desk_init_28 : decode prog_1_method_1_code 28 = .ok (.invokestatic 16, 3) := by decide +kernel
theorem d_Desk_init_31 : decode prog_1_method_1_code 31 = .ok (.putfield 24, 3) := by decide +kernel
theorem d_Desk_init_34 : decode prog_1_method_1_code 34 = .ok (.aload_n 0, 1) := by decide +kernel
theorem d_Desk_init_35 : decode prog_1_method_1_code 35 = .ok (.iconst 0, 1) := by decide +kernel
theorem d_Desk_init_36 : decode prog_1_method_1_code 36 = .ok (.putfield 27, 3) := by decide +kernel
theorem d_Desk_init_39 : decode prog_1_method_1_code 39 = .ok (.aload_n 0, 1) := by decide +kernel
theorem d_Desk_init_40 : decode prog_1_method_1_code 40 = .ok (.new 31, 3) := by decide +kernel
theorem d_Desk_init_43 : decode prog_1_method_1_code 43 = .ok (.dup, 1) := by decide +kernel
theorem d_Desk_init_44 : decode prog_1_method_1_code 44 = .ok (.invokespecial 33, 3) := by decide +kernel
theorem d_Desk_init_47 : decode prog_1_method_1_code 47 = .ok (.putfield 34, 3) := by decide +kernel
theorem d_Desk_init_50 : decode prog_1_method_1_code 50 = .ok (.aload_n 0, 1) := by decide +kernel
theorem d_Desk_init_51 : decode prog_1_method_1_code 51 = .ok (.new 31, 3) := by decide +kernel
theorem d_Desk_init_54 : decode prog_1_method_1_code 54 = .ok (.dup, 1) := by decide +kernel
theorem d_Desk_init_55 : decode prog_1_method_1_code 55 = .ok (.invokespecial 33, 3) := by decide +kernel
theorem d_Desk_init_58 : decode prog_1_method_1_code 58 = .ok (.putfield 38, 3) := by decide +kernel
theorem d_Desk_init_61 : decode prog_1_method_1_code 61 = .ok (.aload_n 0, 1) := by decide +kernel
theorem d_Desk_init_62 : decode prog_1_method_1_code 62 = .ok (.new 41, 3) := by decide +kernel
theorem d_Desk_init_65 : decode prog_1_method_1_code 65 = .ok (.dup, 1) := by decide +kernel
theorem d_Desk_init_66 : decode prog_1_method_1_code 66 = .ok (.invokespecial 43, 3) := by decide +kernel
theorem d_Desk_init_69 : decode prog_1_method_1_code 69 = .ok (.putfield 44, 3) := by decide +kernel
theorem d_Desk_init_72 : decode prog_1_method_1_code 72 = .ok (.aload_n 0, 1) := by decide +kernel
theorem d_Desk_init_73 : decode prog_1_method_1_code 73 = .ok (.new 41, 3) := by decide +kernel
theorem d_Desk_init_76 : decode prog_1_method_1_code 76 = .ok (.dup, 1) := by decide +kernel
theorem d_Desk_init_77 : decode prog_1_method_1_code 77 = .ok (.invokespecial 43, 3) := by decide +kernel
theorem d_Desk_init_80 : decode prog_1_method_1_code 80 = .ok (.putfield 48, 3) := by decide +kernel
theorem d_Desk_init_83 : decode prog_1_method_1_code 83 = .ok (.aload_n 0, 1) := by decide +kernel
theorem d_Desk_init_84 : decode prog_1_method_1_code 84 = .ok (.bipush 14, 2) := by decide +kernel
theorem d_Desk_init_86 : decode prog_1_method_1_code 86 = .ok (.newarray .long, 2) := by decide +kernel
theorem d_Desk_init_88 : decode prog_1_method_1_code 88 = .ok (.putfield 51, 3) := by decide +kernel
theorem d_Desk_init_91 : decode prog_1_method_1_code 91 = .ok (.aload_n 0, 1) := by decide +kernel
theorem d_Desk_init_92 : decode prog_1_method_1_code 92 = .ok (.bipush 14, 2) := by decide +kernel
theorem d_Desk_init_94 : decode prog_1_method_1_code 94 = .ok (.newarray .long, 2) := by decide +kernel
theorem d_Desk_init_96 : decode prog_1_method_1_code 96 = .ok (.putfield 55, 3) := by decide +kernel
theorem d_Desk_init_99 : decode prog_1_method_1_code 99 = .ok (.new 58, 3) := by decide +kernel
theorem d_Desk_init_102 : decode prog_1_method_1_code 102 = .ok (.dup, 1) := by decide +kernel
theorem d_Desk_init_103 : decode prog_1_method_1_code 103 = .ok (.ldc 60, 2) := by decide +kernel
theorem d_Desk_init_105 : decode prog_1_method_1_code 105 = .ok (.invokespecial 62, 3) := by decide +kernel
theorem d_Desk_init_108 : decode prog_1_method_1_code 108 = .ok (.astore_n 1, 1) := by decide +kernel
theorem d_Desk_init_109 : decode prog_1_method_1_code 109 = .ok (.new 58, 3) := by decide +kernel
theorem d_Desk_init_112 : decode prog_1_method_1_code 112 = .ok (.dup, 1) := by decide +kernel
theorem d_Desk_init_113 : decode prog_1_method_1_code 113 = .ok (.ldc 65, 2) := by decide +kernel
theorem d_Desk_init_115 : decode prog_1_method_1_code 115 = .ok (.invokespecial 62, 3) := by decide +kernel
theorem d_Desk_init_118 : decode prog_1_method_1_code 118 = .ok (.astore_n 2, 1) := by decide +kernel
theorem d_Desk_init_119 : decode prog_1_method_1_code 119 = .ok (.new 67, 3) := by decide +kernel
theorem d_Desk_init_122 : decode prog_1_method_1_code 122 = .ok (.dup, 1) := by decide +kernel
theorem d_Desk_init_123 : decode prog_1_method_1_code 123 = .ok (.aload_n 2, 1) := by decide +kernel
theorem d_Desk_init_124 : decode prog_1_method_1_code 124 = .ok (.invokespecial 69, 3) := by decide +kernel
theorem d_Desk_init_127 : decode prog_1_method_1_code 127 = .ok (.astore_n 3, 1) := by decide +kernel
theorem d_Desk_init_128 : decode prog_1_method_1_code 128 = .ok (.aload_n 0, 1) := by decide +kernel
theorem d_Desk_init_129 : decode prog_1_method_1_code 129 = .ok (.aload_n 1, 1) := by decide +kernel
theorem d_Desk_init_130 : decode prog_1_method_1_code 130 = .ok (.putfield 72, 3) := by decide +kernel
theorem d_Desk_init_133 : decode prog_1_method_1_code 133 = .ok (.aload_n 0, 1) := by decide +kernel
theorem d_Desk_init_134 : decode prog_1_method_1_code 134 = .ok (.aload_n 3, 1) := by decide +kernel
theorem d_Desk_init_135 : decode prog_1_method_1_code 135 = .ok (.putfield 76, 3) := by decide +kernel
theorem d_Desk_init_138 : decode prog_1_method_1_code 138 = .ok (.aload_n 0, 1) := by decide +kernel
theorem d_Desk_init_139 : decode prog_1_method_1_code 139 = .ok (.new 80, 3) := by decide +kernel
theorem d_Desk_init_142 : decode prog_1_method_1_code 142 = .ok (.dup, 1) := by decide +kernel
theorem d_Desk_init_143 : decode prog_1_method_1_code 143 = .ok (.aload_n 3, 1) := by decide +kernel
theorem d_Desk_init_144 : decode prog_1_method_1_code 144 = .ok (.invokespecial 82, 3) := by decide +kernel
theorem d_Desk_init_147 : decode prog_1_method_1_code 147 = .ok (.putfield 85, 3) := by decide +kernel
theorem d_Desk_init_150 : decode prog_1_method_1_code 150 = .ok (.aload_n 0, 1) := by decide +kernel
theorem d_Desk_init_151 : decode prog_1_method_1_code 151 = .ok (.new 89, 3) := by decide +kernel
theorem d_Desk_init_154 : decode prog_1_method_1_code 154 = .ok (.dup, 1) := by decide +kernel
theorem d_Desk_init_155 : decode prog_1_method_1_code 155 = .ok (.aload_n 2, 1) := by decide +kernel
theorem d_Desk_init_156 : decode prog_1_method_1_code 156 = .ok (.aload_n 3, 1) := by decide +kernel
theorem d_Desk_init_157 : decode prog_1_method_1_code 157 = .ok (.invokespecial 91, 3) := by decide +kernel
theorem d_Desk_init_160 : decode prog_1_method_1_code 160 = .ok (.putfield 94, 3) := by decide +kernel
theorem d_Desk_init_163 : decode prog_1_method_1_code 163 = .ok (.aload_n 0, 1) := by decide +kernel
theorem d_Desk_init_164 : decode prog_1_method_1_code 164 = .ok (.new 98, 3) := by decide +kernel
theorem d_Desk_init_167 : decode prog_1_method_1_code 167 = .ok (.dup, 1) := by decide +kernel
theorem d_Desk_init_168 : decode prog_1_method_1_code 168 = .ok (.aload_n 1, 1) := by decide +kernel
theorem d_Desk_init_169 : decode prog_1_method_1_code 169 = .ok (.invokespecial 100, 3) := by decide +kernel
theorem d_Desk_init_172 : decode prog_1_method_1_code 172 = .ok (.putfield 101, 3) := by decide +kernel
theorem d_Desk_init_175 : decode prog_1_method_1_code 175 = .ok (.aload_n 0, 1) := by decide +kernel
theorem d_Desk_init_176 : decode prog_1_method_1_code 176 = .ok (.aload_n 2, 1) := by decide +kernel
theorem d_Desk_init_177 : decode prog_1_method_1_code 177 = .ok (.invokestatic 105, 3) := by decide +kernel
theorem d_Desk_init_180 : decode prog_1_method_1_code 180 = .ok (.putfield 109, 3) := by decide +kernel
theorem d_Desk_init_183 : decode prog_1_method_1_code 183 = .ok (.return_, 1) := by decide +kernel
