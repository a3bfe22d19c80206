set_option maxHeartbeats 4000000 in
set_option maxRecDepth 100000 in
/-- 0 times -/
theorem y_Field_multiply0 (l : Launch) (g : WG) (n0 : Nat → Prop) (o t a b : Nat) (F : Nat → Nat) (mi : Int64) (f : Nat → Int64) (h0 : ∀ i, i < 14 → ¬ f i < 0) (h1 : f 0 ≠ 0) (htm : F 0 ≠ t) : Ctr l y_Field_multiply (.code y_Field_multiply prog_3_method_8_code 92 none) 1 24 0 0 n0 g [.ref o, .ref t, .ref a, .ref b] (fun H => FD g n0 H o F mi ∧ J14 g n0 H t ∧ AJ g H a 14 (fun _ => 0) ∧ J14 g n0 H b ∧ AJ g H (F 0) 14 f) (QV (fun H H' => KJ g (fun q => q = t) H H' ∧ AJ g H' t 14 (fun _ => 0))) := by
  refine ctr_mk l (lv0 := [(0, .ref o), (1, .ref t), (2, .ref a), (3, .ref b)]) (by decide) (Nat.le_of_ble_eq_true rfl) rfl ?_
  intro p e s m below meth c ls E hr hlk hnm hl hP
  have hx := E.1
  have hb := E.2.1
  have hK := E.2.2.2.2.2
  have hF : ∀ q ∈ ([] : List Loc), n0 q.base := fun q hq => absurd hq List.not_mem_nil
  obtain ⟨hfd, ht, ha, hb0, hfm⟩ := hP
  have hk : KJ g (fun q => q = t) s.heap s.heap := KJ.rf
  refine lv_aload_n hx hb d_Field_multiply_0 rfl (lv_at hl 2 rfl) ?_
  refine lv_iconst (v := nI 0) hx hb d_Field_multiply_1 (by decide) ?_
  refine q_lald (N := 14) (f := (fun _ => 0)) E ha 0 rfl (by decide) (by decide) d_Field_multiply_2 ?_
  refine lv_lstore (lv' := [(4, .long 0), (0, .ref o), (1, .ref t), (2, .ref a), (3, .ref b)]) hx hb d_Field_multiply_3 hl (by decide) rfl (fun ls hl => ?_)
  refine lv_aload_n hx hb d_Field_multiply_5 rfl (lv_at hl 3 rfl) ?_
  refine lv_iconst (v := nI 1) hx hb d_Field_multiply_6 (by decide) ?_
  refine q_lald (N := 14) (f := (fun _ => 0)) E ha 1 rfl (by decide) (by decide) d_Field_multiply_7 ?_
  refine lv_lstore (lv' := [(6, .long 0), (4, .long 0), (0, .ref o), (1, .ref t), (2, .ref a), (3, .ref b)]) hx hb d_Field_multiply_8 hl (by decide) rfl (fun ls hl => ?_)
  refine lv_aload_n hx hb d_Field_multiply_10 rfl (lv_at hl 4 rfl) ?_
  refine lv_iconst (v := nI 2) hx hb d_Field_multiply_11 (by decide) ?_
  refine q_lald (N := 14) (f := (fun _ => 0)) E ha 2 rfl (by decide) (by decide) d_Field_multiply_12 ?_
  refine lv_lstore (lv' := [(8, .long 0), (6, .long 0), (4, .long 0), (0, .ref o), (1, .ref t), (2, .ref a), (3, .ref b)]) hx hb d_Field_multiply_13 hl (by decide) rfl (fun ls hl => ?_)
  refine lv_aload_n hx hb d_Field_multiply_15 rfl (lv_at hl 5 rfl) ?_
  refine lv_iconst (v := nI 3) hx hb d_Field_multiply_16 (by decide) ?_
  refine q_lald (N := 14) (f := (fun _ => 0)) E ha 3 rfl (by decide) (by decide) d_Field_multiply_17 ?_
  refine lv_lstore (lv' := [(10, .long 0), (8, .long 0), (6, .long 0), (4, .long 0), (0, .ref o), (1, .ref t), (2, .ref a), (3, .ref b)]) hx hb d_Field_multiply_18 hl (by decide) rfl (fun ls hl => ?_)
  refine lv_aload_n hx hb d_Field_multiply_20 rfl (lv_at hl 6 rfl) ?_
  refine lv_iconst (v := nI 4) hx hb d_Field_multiply_21 (by decide) ?_
  refine q_lald (N := 14) (f := (fun _ => 0)) E ha 4 rfl (by decide) (by decide) d_Field_multiply_22 ?_
  refine lv_lstore (lv' := [(12, .long 0), (10, .long 0), (8, .long 0), (6, .long 0), (4, .long 0), (0, .ref o), (1, .ref t), (2, .ref a), (3, .ref b)]) hx hb d_Field_multiply_23 hl (by decide) rfl (fun ls hl => ?_)
  refine lv_aload_n hx hb d_Field_multiply_25 rfl (lv_at hl 7 rfl) ?_
  refine lv_iconst (v := nI 5) hx hb d_Field_multiply_26 (by decide) ?_
  refine q_lald (N := 14) (f := (fun _ => 0)) E ha 5 rfl (by decide) (by decide) d_Field_multiply_27 ?_
  refine lv_lstore (lv' := [(14, .long 0), (12, .long 0), (10, .long 0), (8, .long 0), (6, .long 0), (4, .long 0), (0, .ref o), (1, .ref t), (2, .ref a), (3, .ref b)]) hx hb d_Field_multiply_28 hl (by decide) rfl (fun ls hl => ?_)
  refine lv_aload_n hx hb d_Field_multiply_30 rfl (lv_at hl 8 rfl) ?_
  refine lv_bipush (v := nI 6) hx hb d_Field_multiply_31 (by decide) ?_
  refine q_lald (N := 14) (f := (fun _ => 0)) E ha 6 rfl (by decide) (by decide) d_Field_multiply_33 ?_
  refine lv_lstore (lv' := [(16, .long 0), (14, .long 0), (12, .long 0), (10, .long 0), (8, .long 0), (6, .long 0), (4, .long 0), (0, .ref o), (1, .ref t), (2, .ref a), (3, .ref b)]) hx hb d_Field_multiply_34 hl (by decide) rfl (fun ls hl => ?_)
  refine lv_aload_n hx hb d_Field_multiply_36 rfl (lv_at hl 9 rfl) ?_
  refine lv_bipush (v := nI 7) hx hb d_Field_multiply_37 (by decide) ?_
  refine q_lald (N := 14) (f := (fun _ => 0)) E ha 7 rfl (by decide) (by decide) d_Field_multiply_39 ?_
  refine lv_lstore (lv' := [(18, .long 0), (16, .long 0), (14, .long 0), (12, .long 0), (10, .long 0), (8, .long 0), (6, .long 0), (4, .long 0), (0, .ref o), (1, .ref t), (2, .ref a), (3, .ref b)]) hx hb d_Field_multiply_40 hl (by decide) rfl (fun ls hl => ?_)
  refine lv_aload_n hx hb d_Field_multiply_42 rfl (lv_at hl 10 rfl) ?_
  refine lv_bipush (v := nI 8) hx hb d_Field_multiply_43 (by decide) ?_
  refine q_lald (N := 14) (f := (fun _ => 0)) E ha 8 rfl (by decide) (by decide) d_Field_multiply_45 ?_
  refine lv_lstore (lv' := [(20, .long 0), (18, .long 0), (16, .long 0), (14, .long 0), (12, .long 0), (10, .long 0), (8, .long 0), (6, .long 0), (4, .long 0), (0, .ref o), (1, .ref t), (2, .ref a), (3, .ref b)]) hx hb d_Field_multiply_46 hl (by decide) rfl (fun ls hl => ?_)
  refine lv_aload_n hx hb d_Field_multiply_48 rfl (lv_at hl 11 rfl) ?_
  refine lv_bipush (v := nI 9) hx hb d_Field_multiply_49 (by decide) ?_
  refine q_lald (N := 14) (f := (fun _ => 0)) E ha 9 rfl (by decide) (by decide) d_Field_multiply_51 ?_
  refine lv_lstore (lv' := [(22, .long 0), (20, .long 0), (18, .long 0), (16, .long 0), (14, .long 0), (12, .long 0), (10, .long 0), (8, .long 0), (6, .long 0), (4, .long 0), (0, .ref o), (1, .ref t), (2, .ref a), (3, .ref b)]) hx hb d_Field_multiply_52 hl (by decide) rfl (fun ls hl => ?_)
  refine lv_aload_n hx hb d_Field_multiply_54 rfl (lv_at hl 12 rfl) ?_
  refine lv_bipush (v := nI 10) hx hb d_Field_multiply_55 (by decide) ?_
  refine q_lald (N := 14) (f := (fun _ => 0)) E ha 10 rfl (by decide) (by decide) d_Field_multiply_57 ?_
  refine lv_lstore (lv' := [(24, .long 0), (22, .long 0), (20, .long 0), (18, .long 0), (16, .long 0), (14, .long 0), (12, .long 0), (10, .long 0), (8, .long 0), (6, .long 0), (4, .long 0), (0, .ref o), (1, .ref t), (2, .ref a), (3, .ref b)]) hx hb d_Field_multiply_58 hl (by decide) rfl (fun ls hl => ?_)
  refine lv_aload_n hx hb d_Field_multiply_60 rfl (lv_at hl 13 rfl) ?_
  refine lv_bipush (v := nI 11) hx hb d_Field_multiply_61 (by decide) ?_
  refine q_lald (N := 14) (f := (fun _ => 0)) E ha 11 rfl (by decide) (by decide) d_Field_multiply_63 ?_
  refine lv_lstore (lv' := [(26, .long 0), (24, .long 0), (22, .long 0), (20, .long 0), (18, .long 0), (16, .long 0), (14, .long 0), (12, .long 0), (10, .long 0), (8, .long 0), (6, .long 0), (4, .long 0), (0, .ref o), (1, .ref t), (2, .ref a), (3, .ref b)]) hx hb d_Field_multiply_64 hl (by decide) rfl (fun ls hl => ?_)
  refine lv_aload_n hx hb d_Field_multiply_66 rfl (lv_at hl 14 rfl) ?_
  refine lv_bipush (v := nI 12) hx hb d_Field_multiply_67 (by decide) ?_
  refine q_lald (N := 14) (f := (fun _ => 0)) E ha 12 rfl (by decide) (by decide) d_Field_multiply_69 ?_
  refine lv_lstore (lv' := [(28, .long 0), (26, .long 0), (24, .long 0), (22, .long 0), (20, .long 0), (18, .long 0), (16, .long 0), (14, .long 0), (12, .long 0), (10, .long 0), (8, .long 0), (6, .long 0), (4, .long 0), (0, .ref o), (1, .ref t), (2, .ref a), (3, .ref b)]) hx hb d_Field_multiply_70 hl (by decide) rfl (fun ls hl => ?_)
  refine lv_aload_n hx hb d_Field_multiply_72 rfl (lv_at hl 15 rfl) ?_
  refine lv_bipush (v := nI 13) hx hb d_Field_multiply_73 (by decide) ?_
  refine q_lald (N := 14) (f := (fun _ => 0)) E ha 13 rfl (by decide) (by decide) d_Field_multiply_75 ?_
  refine lv_lstore (lv' := [(30, .long 0), (28, .long 0), (26, .long 0), (24, .long 0), (22, .long 0), (20, .long 0), (18, .long 0), (16, .long 0), (14, .long 0), (12, .long 0), (10, .long 0), (8, .long 0), (6, .long 0), (4, .long 0), (0, .ref o), (1, .ref t), (2, .ref a), (3, .ref b)]) hx hb d_Field_multiply_76 hl (by decide) rfl (fun ls hl => ?_)
  refine lv_aload_n hx hb d_Field_multiply_78 rfl (lv_at hl 14 rfl) ?_
  refine q_get (C := "KateDesk$Field") (T := T_Field) (N := 7) (ci := 1) E ((hk.fd hK hfd).1) in_Field rfl 0 (by decide) w_170 rfl rfl d_Field_multiply_79 ?_
  refine lv_astore (lv' := [(32, .ref (F 0)), (30, .long 0), (28, .long 0), (26, .long 0), (24, .long 0), (22, .long 0), (20, .long 0), (18, .long 0), (16, .long 0), (14, .long 0), (12, .long 0), (10, .long 0), (8, .long 0), (6, .long 0), (4, .long 0), (0, .ref o), (1, .ref t), (2, .ref a), (3, .ref b)]) hx hb d_Field_multiply_82 hl (by decide) rfl (fun ls hl => ?_)
  refine lv_aload hx hb d_Field_multiply_84 (lv_at hl 0 rfl) ?_
  refine lv_iconst (v := nI 0) hx hb d_Field_multiply_86 (by decide) ?_
  refine q_laldS E ((hk.fd hK hfd).2 0 (by decide)) 0 rfl (by decide) d_Field_multiply_87 (fun q33 => ?_)
  refine lv_lstore (lv' := [(33, .long q33), (32, .ref (F 0)), (30, .long 0), (28, .long 0), (26, .long 0), (24, .long 0), (22, .long 0), (20, .long 0), (18, .long 0), (16, .long 0), (14, .long 0), (12, .long 0), (10, .long 0), (8, .long 0), (6, .long 0), (4, .long 0), (0, .ref o), (1, .ref t), (2, .ref a), (3, .ref b)]) hx hb d_Field_multiply_88 hl (by decide) rfl (fun ls hl => ?_)
  refine lv_aload hx hb d_Field_multiply_90 (lv_at hl 1 rfl) ?_
  refine lv_iconst (v := nI 1) hx hb d_Field_multiply_92 (by decide) ?_
  refine q_laldS E ((hk.fd hK hfd).2 0 (by decide)) 1 rfl (by decide) d_Field_multiply_93 (fun q35 => ?_)
  refine lv_lstore (lv' := [(35, .long q35), (33, .long q33), (32, .ref (F 0)), (30, .long 0), (28, .long 0), (26, .long 0), (24, .long 0), (22, .long 0), (20, .long 0), (18, .long 0), (16, .long 0), (14, .long 0), (12, .long 0), (10, .long 0), (8, .long 0), (6, .long 0), (4, .long 0), (0, .ref o), (1, .ref t), (2, .ref a), (3, .ref b)]) hx hb d_Field_multiply_94 hl (by decide) rfl (fun ls hl => ?_)
  refine lv_aload hx hb d_Field_multiply_96 (lv_at hl 2 rfl) ?_
  refine lv_iconst (v := nI 2) hx hb d_Field_multiply_98 (by decide) ?_
  refine q_laldS E ((hk.fd hK hfd).2 0 (by decide)) 2 rfl (by decide) d_Field_multiply_99 (fun q37 => ?_)
  refine lv_lstore (lv' := [(37, .long q37), (35, .long q35), (33, .long q33), (32, .ref (F 0)), (30, .long 0), (28, .long 0), (26, .long 0), (24, .long 0), (22, .long 0), (20, .long 0), (18, .long 0), (16, .long 0), (14, .long 0), (12, .long 0), (10, .long 0), (8, .long 0), (6, .long 0), (4, .long 0), (0, .ref o), (1, .ref t), (2, .ref a), (3, .ref b)]) hx hb d_Field_multiply_100 hl (by decide) rfl (fun ls hl => ?_)
  refine lv_aload hx hb d_Field_multiply_102 (lv_at hl 3 rfl) ?_
  refine lv_iconst (v := nI 3) hx hb d_Field_multiply_104 (by decide) ?_
  refine q_laldS E ((hk.fd hK hfd).2 0 (by decide)) 3 rfl (by decide) d_Field_multiply_105 (fun q39 => ?_)
  refine lv_lstore (lv' := [(39, .long q39), (37, .long q37), (35, .long q35), (33, .long q33), (32, .ref (F 0)), (30, .long 0), (28, .long 0), (26, .long 0), (24, .long 0), (22, .long 0), (20, .long 0), (18, .long 0), (16, .long 0), (14, .long 0), (12, .long 0), (10, .long 0), (8, .long 0), (6, .long 0), (4, .long 0), (0, .ref o), (1, .ref t), (2, .ref a), (3, .ref b)]) hx hb d_Field_multiply_106 hl (by decide) rfl (fun ls hl => ?_)
  refine lv_aload hx hb d_Field_multiply_108 (lv_at hl 4 rfl) ?_
  refine lv_iconst (v := nI 4) hx hb d_Field_multiply_110 (by decide) ?_
  refine q_laldS E ((hk.fd hK hfd).2 0 (by decide)) 4 rfl (by decide) d_Field_multiply_111 (fun q41 => ?_)
  refine lv_lstore (lv' := [(41, .long q41), (39, .long q39), (37, .long q37), (35, .long q35), (33, .long q33), (32, .ref (F 0)), (30, .long 0), (28, .long 0), (26, .long 0), (24, .long 0), (22, .long 0), (20, .long 0), (18, .long 0), (16, .long 0), (14, .long 0), (12, .long 0), (10, .long 0), (8, .long 0), (6, .long 0), (4, .long 0), (0, .ref o), (1, .ref t), (2, .ref a), (3, .ref b)]) hx hb d_Field_multiply_112 hl (by decide) rfl (fun ls hl => ?_)
  refine lv_aload hx hb d_Field_multiply_114 (lv_at hl 5 rfl) ?_
  refine lv_iconst (v := nI 5) hx hb d_Field_multiply_116 (by decide) ?_
  refine q_laldS E ((hk.fd hK hfd).2 0 (by decide)) 5 rfl (by decide) d_Field_multiply_117 (fun q43 => ?_)
  refine lv_lstore (lv' := [(43, .long q43), (41, .long q41), (39, .long q39), (37, .long q37), (35, .long q35), (33, .long q33), (32, .ref (F 0)), (30, .long 0), (28, .long 0), (26, .long 0), (24, .long 0), (22, .long 0), (20, .long 0), (18, .long 0), (16, .long 0), (14, .long 0), (12, .long 0), (10, .long 0), (8, .long 0), (6, .long 0), (4, .long 0), (0, .ref o), (1, .ref t), (2, .ref a), (3, .ref b)]) hx hb d_Field_multiply_118 hl (by decide) rfl (fun ls hl => ?_)
  refine lv_aload hx hb d_Field_multiply_120 (lv_at hl 6 rfl) ?_
  refine lv_bipush (v := nI 6) hx hb d_Field_multiply_122 (by decide) ?_
  refine q_laldS E ((hk.fd hK hfd).2 0 (by decide)) 6 rfl (by decide) d_Field_multiply_124 (fun q45 => ?_)
  refine lv_lstore (lv' := [(45, .long q45), (43, .long q43), (41, .long q41), (39, .long q39), (37, .long q37), (35, .long q35), (33, .long q33), (32, .ref (F 0)), (30, .long 0), (28, .long 0), (26, .long 0), (24, .long 0), (22, .long 0), (20, .long 0), (18, .long 0), (16, .long 0), (14, .long 0), (12, .long 0), (10, .long 0), (8, .long 0), (6, .long 0), (4, .long 0), (0, .ref o), (1, .ref t), (2, .ref a), (3, .ref b)]) hx hb d_Field_multiply_125 hl (by decide) rfl (fun ls hl => ?_)
  refine lv_aload hx hb d_Field_multiply_127 (lv_at hl 7 rfl) ?_
  refine lv_bipush (v := nI 7) hx hb d_Field_multiply_129 (by decide) ?_
  refine q_laldS E ((hk.fd hK hfd).2 0 (by decide)) 7 rfl (by decide) d_Field_multiply_131 (fun q47 => ?_)
  refine lv_lstore (lv' := [(47, .long q47), (45, .long q45), (43, .long q43), (41, .long q41), (39, .long q39), (37, .long q37), (35, .long q35), (33, .long q33), (32, .ref (F 0)), (30, .long 0), (28, .long 0), (26, .long 0), (24, .long 0), (22, .long 0), (20, .long 0), (18, .long 0), (16, .long 0), (14, .long 0), (12, .long 0), (10, .long 0), (8, .long 0), (6, .long 0), (4, .long 0), (0, .ref o), (1, .ref t), (2, .ref a), (3, .ref b)]) hx hb d_Field_multiply_132 hl (by decide) rfl (fun ls hl => ?_)
  refine lv_aload hx hb d_Field_multiply_134 (lv_at hl 8 rfl) ?_
  refine lv_bipush (v := nI 8) hx hb d_Field_multiply_136 (by decide) ?_
  refine q_laldS E ((hk.fd hK hfd).2 0 (by decide)) 8 rfl (by decide) d_Field_multiply_138 (fun q49 => ?_)
  refine lv_lstore (lv' := [(49, .long q49), (47, .long q47), (45, .long q45), (43, .long q43), (41, .long q41), (39, .long q39), (37, .long q37), (35, .long q35), (33, .long q33), (32, .ref (F 0)), (30, .long 0), (28, .long 0), (26, .long 0), (24, .long 0), (22, .long 0), (20, .long 0), (18, .long 0), (16, .long 0), (14, .long 0), (12, .long 0), (10, .long 0), (8, .long 0), (6, .long 0), (4, .long 0), (0, .ref o), (1, .ref t), (2, .ref a), (3, .ref b)]) hx hb d_Field_multiply_139 hl (by decide) rfl (fun ls hl => ?_)
  refine lv_aload hx hb d_Field_multiply_141 (lv_at hl 9 rfl) ?_
  refine lv_bipush (v := nI 9) hx hb d_Field_multiply_143 (by decide) ?_
  refine q_laldS E ((hk.fd hK hfd).2 0 (by decide)) 9 rfl (by decide) d_Field_multiply_145 (fun q51 => ?_)
  refine lv_lstore (lv' := [(51, .long q51), (49, .long q49), (47, .long q47), (45, .long q45), (43, .long q43), (41, .long q41), (39, .long q39), (37, .long q37), (35, .long q35), (33, .long q33), (32, .ref (F 0)), (30, .long 0), (28, .long 0), (26, .long 0), (24, .long 0), (22, .long 0), (20, .long 0), (18, .long 0), (16, .long 0), (14, .long 0), (12, .long 0), (10, .long 0), (8, .long 0), (6, .long 0), (4, .long 0), (0, .ref o), (1, .ref t), (2, .ref a), (3, .ref b)]) hx hb d_Field_multiply_146 hl (by decide) rfl (fun ls hl => ?_)
  refine lv_aload hx hb d_Field_multiply_148 (lv_at hl 10 rfl) ?_
  refine lv_bipush (v := nI 10) hx hb d_Field_multiply_150 (by decide) ?_
  refine q_laldS E ((hk.fd hK hfd).2 0 (by decide)) 10 rfl (by decide) d_Field_multiply_152 (fun q53 => ?_)
  refine lv_lstore (lv' := [(53, .long q53), (51, .long q51), (49, .long q49), (47, .long q47), (45, .long q45), (43, .long q43), (41, .long q41), (39, .long q39), (37, .long q37), (35, .long q35), (33, .long q33), (32, .ref (F 0)), (30, .long 0), (28, .long 0), (26, .long 0), (24, .long 0), (22, .long 0), (20, .long 0), (18, .long 0), (16, .long 0), (14, .long 0), (12, .long 0), (10, .long 0), (8, .long 0), (6, .long 0), (4, .long 0), (0, .ref o), (1, .ref t), (2, .ref a), (3, .ref b)]) hx hb d_Field_multiply_153 hl (by decide) rfl (fun ls hl => ?_)
  refine lv_aload hx hb d_Field_multiply_155 (lv_at hl 11 rfl) ?_
  refine lv_bipush (v := nI 11) hx hb d_Field_multiply_157 (by decide) ?_
  refine q_laldS E ((hk.fd hK hfd).2 0 (by decide)) 11 rfl (by decide) d_Field_multiply_159 (fun q55 => ?_)
  refine lv_lstore (lv' := [(55, .long q55), (53, .long q53), (51, .long q51), (49, .long q49), (47, .long q47), (45, .long q45), (43, .long q43), (41, .long q41), (39, .long q39), (37, .long q37), (35, .long q35), (33, .long q33), (32, .ref (F 0)), (30, .long 0), (28, .long 0), (26, .long 0), (24, .long 0), (22, .long 0), (20, .long 0), (18, .long 0), (16, .long 0), (14, .long 0), (12, .long 0), (10, .long 0), (8, .long 0), (6, .long 0), (4, .long 0), (0, .ref o), (1, .ref t), (2, .ref a), (3, .ref b)]) hx hb d_Field_multiply_160 hl (by decide) rfl (fun ls hl => ?_)
  refine lv_aload hx hb d_Field_multiply_162 (lv_at hl 12 rfl) ?_
  refine lv_bipush (v := nI 12) hx hb d_Field_multiply_164 (by decide) ?_
  refine q_laldS E ((hk.fd hK hfd).2 0 (by decide)) 12 rfl (by decide) d_Field_multiply_166 (fun q57 => ?_)
  refine lv_lstore (lv' := [(57, .long q57), (55, .long q55), (53, .long q53), (51, .long q51), (49, .long q49), (47, .long q47), (45, .long q45), (43, .long q43), (41, .long q41), (39, .long q39), (37, .long q37), (35, .long q35), (33, .long q33), (32, .ref (F 0)), (30, .long 0), (28, .long 0), (26, .long 0), (24, .long 0), (22, .long 0), (20, .long 0), (18, .long 0), (16, .long 0), (14, .long 0), (12, .long 0), (10, .long 0), (8, .long 0), (6, .long 0), (4, .long 0), (0, .ref o), (1, .ref t), (2, .ref a), (3, .ref b)]) hx hb d_Field_multiply_167 hl (by decide) rfl (fun ls hl => ?_)
  refine lv_aload hx hb d_Field_multiply_169 (lv_at hl 13 rfl) ?_
  refine lv_bipush (v := nI 13) hx hb d_Field_multiply_171 (by decide) ?_
  refine q_laldS E ((hk.fd hK hfd).2 0 (by decide)) 13 rfl (by decide) d_Field_multiply_173 (fun q59 => ?_)
  refine lv_lstore (lv' := [(59, .long q59), (57, .long q57), (55, .long q55), (53, .long q53), (51, .long q51), (49, .long q49), (47, .long q47), (45, .long q45), (43, .long q43), (41, .long q41), (39, .long q39), (37, .long q37), (35, .long q35), (33, .long q33), (32, .ref (F 0)), (30, .long 0), (28, .long 0), (26, .long 0), (24, .long 0), (22, .long 0), (20, .long 0), (18, .long 0), (16, .long 0), (14, .long 0), (12, .long 0), (10, .long 0), (8, .long 0), (6, .long 0), (4, .long 0), (0, .ref o), (1, .ref t), (2, .ref a), (3, .ref b)]) hx hb d_Field_multiply_174 hl (by decide) rfl (fun ls hl => ?_)
  refine lv_lconst (v := 0) hx hb d_Field_multiply_176 (by decide) ?_
  refine lv_lstore (lv' := [(61, .long 0), (59, .long q59), (57, .long q57), (55, .long q55), (53, .long q53), (51, .long q51), (49, .long q49), (47, .long q47), (45, .long q45), (43, .long q43), (41, .long q41), (39, .long q39), (37, .long q37), (35, .long q35), (33, .long q33), (32, .ref (F 0)), (30, .long 0), (28, .long 0), (26, .long 0), (24, .long 0), (22, .long 0), (20, .long 0), (18, .long 0), (16, .long 0), (14, .long 0), (12, .long 0), (10, .long 0), (8, .long 0), (6, .long 0), (4, .long 0), (0, .ref o), (1, .ref t), (2, .ref a), (3, .ref b)]) hx hb d_Field_multiply_177 hl (by decide) rfl (fun ls hl => ?_)
  refine lv_lconst (v := 0) hx hb d_Field_multiply_179 (by decide) ?_
  refine lv_lstore (lv' := [(63, .long 0), (61, .long 0), (59, .long q59), (57, .long q57), (55, .long q55), (53, .long q53), (51, .long q51), (49, .long q49), (47, .long q47), (45, .long q45), (43, .long q43), (41, .long q41), (39, .long q39), (37, .long q37), (35, .long q35), (33, .long q33), (32, .ref (F 0)), (30, .long 0), (28, .long 0), (26, .long 0), (24, .long 0), (22, .long 0), (20, .long 0), (18, .long 0), (16, .long 0), (14, .long 0), (12, .long 0), (10, .long 0), (8, .long 0), (6, .long 0), (4, .long 0), (0, .ref o), (1, .ref t), (2, .ref a), (3, .ref b)]) hx hb d_Field_multiply_180 hl (by decide) rfl (fun ls hl => ?_)
  refine lv_lconst (v := 0) hx hb d_Field_multiply_182 (by decide) ?_
  refine lv_lstore (lv' := [(65, .long 0), (63, .long 0), (61, .long 0), (59, .long q59), (57, .long q57), (55, .long q55), (53, .long q53), (51, .long q51), (49, .long q49), (47, .long q47), (45, .long q45), (43, .long q43), (41, .long q41), (39, .long q39), (37, .long q37), (35, .long q35), (33, .long q33), (32, .ref (F 0)), (30, .long 0), (28, .long 0), (26, .long 0), (24, .long 0), (22, .long 0), (20, .long 0), (18, .long 0), (16, .long 0), (14, .long 0), (12, .long 0), (10, .long 0), (8, .long 0), (6, .long 0), (4, .long 0), (0, .ref o), (1, .ref t), (2, .ref a), (3, .ref b)]) hx hb d_Field_multiply_183 hl (by decide) rfl (fun ls hl => ?_)
  refine lv_lconst (v := 0) hx hb d_Field_multiply_185 (by decide) ?_
  refine lv_lstore (lv' := [(67, .long 0), (65, .long 0), (63, .long 0), (61, .long 0), (59, .long q59), (57, .long q57), (55, .long q55), (53, .long q53), (51, .long q51), (49, .long q49), (47, .long q47), (45, .long q45), (43, .long q43), (41, .long q41), (39, .long q39), (37, .long q37), (35, .long q35), (33, .long q33), (32, .ref (F 0)), (30, .long 0), (28, .long 0), (26, .long 0), (24, .long 0), (22, .long 0), (20, .long 0), (18, .long 0), (16, .long 0), (14, .long 0), (12, .long 0), (10, .long 0), (8, .long 0), (6, .long 0), (4, .long 0), (0, .ref o), (1, .ref t), (2, .ref a), (3, .ref b)]) hx hb d_Field_multiply_186 hl (by decide) rfl (fun ls hl => ?_)
  refine lv_lconst (v := 0) hx hb d_Field_multiply_188 (by decide) ?_
  refine lv_lstore (lv' := [(69, .long 0), (67, .long 0), (65, .long 0), (63, .long 0), (61, .long 0), (59, .long q59), (57, .long q57), (55, .long q55), (53, .long q53), (51, .long q51), (49, .long q49), (47, .long q47), (45, .long q45), (43, .long q43), (41, .long q41), (39, .long q39), (37, .long q37), (35, .long q35), (33, .long q33), (32, .ref (F 0)), (30, .long 0), (28, .long 0), (26, .long 0), (24, .long 0), (22, .long 0), (20, .long 0), (18, .long 0), (16, .long 0), (14, .long 0), (12, .long 0), (10, .long 0), (8, .long 0), (6, .long 0), (4, .long 0), (0, .ref o), (1, .ref t), (2, .ref a), (3, .ref b)]) hx hb d_Field_multiply_189 hl (by decide) rfl (fun ls hl => ?_)
  refine lv_lconst (v := 0) hx hb d_Field_multiply_191 (by decide) ?_
  refine lv_lstore (lv' := [(71, .long 0), (69, .long 0), (67, .long 0), (65, .long 0), (63, .long 0), (61, .long 0), (59, .long q59), (57, .long q57), (55, .long q55), (53, .long q53), (51, .long q51), (49, .long q49), (47, .long q47), (45, .long q45), (43, .long q43), (41, .long q41), (39, .long q39), (37, .long q37), (35, .long q35), (33, .long q33), (32, .ref (F 0)), (30, .long 0), (28, .long 0), (26, .long 0), (24, .long 0), (22, .long 0), (20, .long 0), (18, .long 0), (16, .long 0), (14, .long 0), (12, .long 0), (10, .long 0), (8, .long 0), (6, .long 0), (4, .long 0), (0, .ref o), (1, .ref t), (2, .ref a), (3, .ref b)]) hx hb d_Field_multiply_192 hl (by decide) rfl (fun ls hl => ?_)
  refine lv_lconst (v := 0) hx hb d_Field_multiply_194 (by decide) ?_
  refine lv_lstore (lv' := [(73, .long 0), (71, .long 0), (69, .long 0), (67, .long 0), (65, .long 0), (63, .long 0), (61, .long 0), (59, .long q59), (57, .long q57), (55, .long q55), (53, .long q53), (51, .long q51), (49, .long q49), (47, .long q47), (45, .long q45), (43, .long q43), (41, .long q41), (39, .long q39), (37, .long q37), (35, .long q35), (33, .long q33), (32, .ref (F 0)), (30, .long 0), (28, .long 0), (26, .long 0), (24, .long 0), (22, .long 0), (20, .long 0), (18, .long 0), (16, .long 0), (14, .long 0), (12, .long 0), (10, .long 0), (8, .long 0), (6, .long 0), (4, .long 0), (0, .ref o), (1, .ref t), (2, .ref a), (3, .ref b)]) hx hb d_Field_multiply_195 hl (by decide) rfl (fun ls hl => ?_)
  refine lv_lconst (v := 0) hx hb d_Field_multiply_197 (by decide) ?_
  refine lv_lstore (lv' := [(75, .long 0), (73, .long 0), (71, .long 0), (69, .long 0), (67, .long 0), (65, .long 0), (63, .long 0), (61, .long 0), (59, .long q59), (57, .long q57), (55, .long q55), (53, .long q53), (51, .long q51), (49, .long q49), (47, .long q47), (45, .long q45), (43, .long q43), (41, .long q41), (39, .long q39), (37, .long q37), (35, .long q35), (33, .long q33), (32, .ref (F 0)), (30, .long 0), (28, .long 0), (26, .long 0), (24, .long 0), (22, .long 0), (20, .long 0), (18, .long 0), (16, .long 0), (14, .long 0), (12, .long 0), (10, .long 0), (8, .long 0), (6, .long 0), (4, .long 0), (0, .ref o), (1, .ref t), (2, .ref a), (3, .ref b)]) hx hb d_Field_multiply_198 hl (by decide) rfl (fun ls hl => ?_)
  refine lv_lconst (v := 0) hx hb d_Field_multiply_200 (by decide) ?_
  refine lv_lstore (lv' := [(77, .long 0), (75, .long 0), (73, .long 0), (71, .long 0), (69, .long 0), (67, .long 0), (65, .long 0), (63, .long 0), (61, .long 0), (59, .long q59), (57, .long q57), (55, .long q55), (53, .long q53), (51, .long q51), (49, .long q49), (47, .long q47), (45, .long q45), (43, .long q43), (41, .long q41), (39, .long q39), (37, .long q37), (35, .long q35), (33, .long q33), (32, .ref (F 0)), (30, .long 0), (28, .long 0), (26, .long 0), (24, .long 0), (22, .long 0), (20, .long 0), (18, .long 0), (16, .long 0), (14, .long 0), (12, .long 0), (10, .long 0), (8, .long 0), (6, .long 0), (4, .long 0), (0, .ref o), (1, .ref t), (2, .ref a), (3, .ref b)]) hx hb d_Field_multiply_201 hl (by decide) rfl (fun ls hl => ?_)
  refine lv_lconst (v := 0) hx hb d_Field_multiply_203 (by decide) ?_
  refine lv_lstore (lv' := [(79, .long 0), (77, .long 0), (75, .long 0), (73, .long 0), (71, .long 0), (69, .long 0), (67, .long 0), (65, .long 0), (63, .long 0), (61, .long 0), (59, .long q59), (57, .long q57), (55, .long q55), (53, .long q53), (51, .long q51), (49, .long q49), (47, .long q47), (45, .long q45), (43, .long q43), (41, .long q41), (39, .long q39), (37, .long q37), (35, .long q35), (33, .long q33), (32, .ref (F 0)), (30, .long 0), (28, .long 0), (26, .long 0), (24, .long 0), (22, .long 0), (20, .long 0), (18, .long 0), (16, .long 0), (14, .long 0), (12, .long 0), (10, .long 0), (8, .long 0), (6, .long 0), (4, .long 0), (0, .ref o), (1, .ref t), (2, .ref a), (3, .ref b)]) hx hb d_Field_multiply_204 hl (by decide) rfl (fun ls hl => ?_)
  refine lv_lconst (v := 0) hx hb d_Field_multiply_206 (by decide) ?_
  refine lv_lstore (lv' := [(81, .long 0), (79, .long 0), (77, .long 0), (75, .long 0), (73, .long 0), (71, .long 0), (69, .long 0), (67, .long 0), (65, .long 0), (63, .long 0), (61, .long 0), (59, .long q59), (57, .long q57), (55, .long q55), (53, .long q53), (51, .long q51), (49, .long q49), (47, .long q47), (45, .long q45), (43, .long q43), (41, .long q41), (39, .long q39), (37, .long q37), (35, .long q35), (33, .long q33), (32, .ref (F 0)), (30, .long 0), (28, .long 0), (26, .long 0), (24, .long 0), (22, .long 0), (20, .long 0), (18, .long 0), (16, .long 0), (14, .long 0), (12, .long 0), (10, .long 0), (8, .long 0), (6, .long 0), (4, .long 0), (0, .ref o), (1, .ref t), (2, .ref a), (3, .ref b)]) hx hb d_Field_multiply_207 hl (by decide) rfl (fun ls hl => ?_)
  refine lv_lconst (v := 0) hx hb d_Field_multiply_209 (by decide) ?_
  refine lv_lstore (lv' := [(83, .long 0), (81, .long 0), (79, .long 0), (77, .long 0), (75, .long 0), (73, .long 0), (71, .long 0), (69, .long 0), (67, .long 0), (65, .long 0), (63, .long 0), (61, .long 0), (59, .long q59), (57, .long q57), (55, .long q55), (53, .long q53), (51, .long q51), (49, .long q49), (47, .long q47), (45, .long q45), (43, .long q43), (41, .long q41), (39, .long q39), (37, .long q37), (35, .long q35), (33, .long q33), (32, .ref (F 0)), (30, .long 0), (28, .long 0), (26, .long 0), (24, .long 0), (22, .long 0), (20, .long 0), (18, .long 0), (16, .long 0), (14, .long 0), (12, .long 0), (10, .long 0), (8, .long 0), (6, .long 0), (4, .long 0), (0, .ref o), (1, .ref t), (2, .ref a), (3, .ref b)]) hx hb d_Field_multiply_210 hl (by decide) rfl (fun ls hl => ?_)
  refine lv_lconst (v := 0) hx hb d_Field_multiply_212 (by decide) ?_
  refine lv_lstore (lv' := [(85, .long 0), (83, .long 0), (81, .long 0), (79, .long 0), (77, .long 0), (75, .long 0), (73, .long 0), (71, .long 0), (69, .long 0), (67, .long 0), (65, .long 0), (63, .long 0), (61, .long 0), (59, .long q59), (57, .long q57), (55, .long q55), (53, .long q53), (51, .long q51), (49, .long q49), (47, .long q47), (45, .long q45), (43, .long q43), (41, .long q41), (39, .long q39), (37, .long q37), (35, .long q35), (33, .long q33), (32, .ref (F 0)), (30, .long 0), (28, .long 0), (26, .long 0), (24, .long 0), (22, .long 0), (20, .long 0), (18, .long 0), (16, .long 0), (14, .long 0), (12, .long 0), (10, .long 0), (8, .long 0), (6, .long 0), (4, .long 0), (0, .ref o), (1, .ref t), (2, .ref a), (3, .ref b)]) hx hb d_Field_multiply_213 hl (by decide) rfl (fun ls hl => ?_)
  refine lv_iconst (v := nI 0) hx hb d_Field_multiply_215 (by decide) ?_
  refine lv_istore (lv' := [(87, .int (nI 0)), (85, .long 0), (83, .long 0), (81, .long 0), (79, .long 0), (77, .long 0), (75, .long 0), (73, .long 0), (71, .long 0), (69, .long 0), (67, .long 0), (65, .long 0), (63, .long 0), (61, .long 0), (59, .long q59), (57, .long q57), (55, .long q55), (53, .long q53), (51, .long q51), (49, .long q49), (47, .long q47), (45, .long q45), (43, .long q43), (41, .long q41), (39, .long q39), (37, .long q37), (35, .long q35), (33, .long q33), (32, .ref (F 0)), (30, .long 0), (28, .long 0), (26, .long 0), (24, .long 0), (22, .long 0), (20, .long 0), (18, .long 0), (16, .long 0), (14, .long 0), (12, .long 0), (10, .long 0), (8, .long 0), (6, .long 0), (4, .long 0), (0, .ref o), (1, .ref t), (2, .ref a), (3, .ref b)]) hx hb d_Field_multiply_216 hl (by decide) rfl (fun ls hl => ?_)
  have loop : ∀ (k : Nat) (i : Nat) (ls : Array Slot), i + k = 14 → lv_has ls 92 [(87, .int (nI i)), (61, .long 0), (63, .long 0), (65, .long 0), (67, .long 0), (69, .long 0), (71, .long 0), (73, .long 0), (75, .long 0), (77, .long 0), (79, .long 0), (81, .long 0), (83, .long 0), (85, .long 0), (0, .ref o), (1, .ref t), (3, .ref b), (4, .long 0), (6, .long 0), (8, .long 0), (10, .long 0), (12, .long 0), (14, .long 0), (16, .long 0), (18, .long 0), (20, .long 0), (22, .long 0), (24, .long 0), (26, .long 0), (28, .long 0), (30, .long 0), (33, .long q33), (35, .long q35), (37, .long q37), (39, .long q39), (41, .long q41), (43, .long q43), (45, .long q45), (47, .long q47), (49, .long q49), (51, .long q51), (53, .long q53), (55, .long q55), (57, .long q57), (59, .long q59)] → W p l e { frames := 1, cells := 0, slots := 0, locals := 24 } s m [.ref o, .ref t, .ref a, .ref b].toArray below meth c s.heap [] 0 0 (MQ below (QcP (QV (fun H H' => KJ g (fun q => q = t) H H' ∧ AJ g H' t 14 (fun _ => 0)))) [.ref o, .ref t, .ref a, .ref b].toArray s 0 0 (fun q => n0 q)) (F0 m 218 ls []) := by
    intro k
    induction k with
    | zero =>
      intro  i   ls hi hl
      obtain rfl : i = 14 := by omega
      refine lv_iload hx hb d_Field_multiply_218 (lv_at hl 0 rfl) ?_
      refine lv_bipush (v := nI 14) hx hb d_Field_multiply_220 (by decide) ?_
      refine lv_icmp_ge (tgt := 477) hx hb d_Field_multiply_222 (by decide) (fun _ => ?_) (fun h9 => absurd (by decide) h9)
      obtain ⟨ht0, f9, hf9⟩ := ht
      have hv9 : ∀ j, j < 0 → f9 j = 0 := fun j hj => absurd hj (Nat.not_lt_zero _)
      refine lv_aload_n hx hb d_Field_multiply_477 rfl (lv_at hl 15 rfl) ?_
      refine lv_iconst (v := nI 0) hx hb d_Field_multiply_478 (by decide) ?_
      refine lv_lload hx hb d_Field_multiply_479 (lv_at hl 1 rfl) ?_
      refine lv_ldc2 (v := 268435455) hx hb E.2.2.2.1 (E.2.2.2.2.1 _ w_143) d_Field_multiply_481 ?_
      refine lv_land hx hb d_Field_multiply_484 ?_
      refine lv_topl (fun t9 e9 => ?_)
      obtain rfl : t9 = 0 := e9.trans (by decide)
      refine q_last E hf9 ht0 hF 0 rfl (by decide) (by decide) d_Field_multiply_485 (fun H1 locs hq hf9 hF => ?_)
      have hk := hk.tr hq
      have hv9 := updL_z hv9
      refine lv_aload_n hx hb d_Field_multiply_486 rfl (lv_at hl 15 rfl) ?_
      refine lv_iconst (v := nI 1) hx hb d_Field_multiply_487 (by decide) ?_
      refine lv_lload hx hb d_Field_multiply_488 (lv_at hl 2 rfl) ?_
      refine lv_lload hx hb d_Field_multiply_490 (lv_at hl 1 rfl) ?_
      refine lv_bipush (v := nI 28) hx hb d_Field_multiply_492 (by decide) ?_
      refine lv_lshr (v := 0 >>> ((nI 28).toInt64 &&& 63)) hx hb d_Field_multiply_494 rfl ?_
      refine lv_ladd hx hb d_Field_multiply_495 ?_
      refine lv_topl (fun t9 e9 => ?_)
      obtain rfl : t9 = 0 := e9.trans (by decide)
      refine lv_dup2_2 hx hb d_Field_multiply_496 rfl ?_
      refine lv_lstore (lv' := [(63, .long 0), (87, .int (nI 14)), (61, .long 0), (65, .long 0), (67, .long 0), (69, .long 0), (71, .long 0), (73, .long 0), (75, .long 0), (77, .long 0), (79, .long 0), (81, .long 0), (83, .long 0), (85, .long 0), (0, .ref o), (1, .ref t), (3, .ref b), (4, .long 0), (6, .long 0), (8, .long 0), (10, .long 0), (12, .long 0), (14, .long 0), (16, .long 0), (18, .long 0), (20, .long 0), (22, .long 0), (24, .long 0), (26, .long 0), (28, .long 0), (30, .long 0), (33, .long q33), (35, .long q35), (37, .long q37), (39, .long q39), (41, .long q41), (43, .long q43), (45, .long q45), (47, .long q47), (49, .long q49), (51, .long q51), (53, .long q53), (55, .long q55), (57, .long q57), (59, .long q59)]) hx hb d_Field_multiply_497 hl (by decide) rfl (fun ls hl => ?_)
      refine lv_ldc2 (v := 268435455) hx hb E.2.2.2.1 (E.2.2.2.2.1 _ w_143) d_Field_multiply_499 ?_
      refine lv_land hx hb d_Field_multiply_502 ?_
      refine lv_topl (fun t9 e9 => ?_)
      obtain rfl : t9 = 0 := e9.trans (by decide)
      refine q_last E hf9 ht0 hF 1 rfl (by decide) (by decide) d_Field_multiply_503 (fun H2 locs hq hf9 hF => ?_)
      have hk := hk.tr hq
      have hv9 := updL_z hv9
      refine lv_aload_n hx hb d_Field_multiply_504 rfl (lv_at hl 15 rfl) ?_
      refine lv_iconst (v := nI 2) hx hb d_Field_multiply_505 (by decide) ?_
      refine lv_lload hx hb d_Field_multiply_506 (lv_at hl 3 rfl) ?_
      refine lv_lload hx hb d_Field_multiply_508 (lv_at hl 0 rfl) ?_
      refine lv_bipush (v := nI 28) hx hb d_Field_multiply_510 (by decide) ?_
      refine lv_lshr (v := 0 >>> ((nI 28).toInt64 &&& 63)) hx hb d_Field_multiply_512 rfl ?_
      refine lv_ladd hx hb d_Field_multiply_513 ?_
      refine lv_topl (fun t9 e9 => ?_)
      obtain rfl : t9 = 0 := e9.trans (by decide)
      refine lv_dup2_2 hx hb d_Field_multiply_514 rfl ?_
      refine lv_lstore (lv' := [(65, .long 0), (63, .long 0), (87, .int (nI 14)), (61, .long 0), (67, .long 0), (69, .long 0), (71, .long 0), (73, .long 0), (75, .long 0), (77, .long 0), (79, .long 0), (81, .long 0), (83, .long 0), (85, .long 0), (0, .ref o), (1, .ref t), (3, .ref b), (4, .long 0), (6, .long 0), (8, .long 0), (10, .long 0), (12, .long 0), (14, .long 0), (16, .long 0), (18, .long 0), (20, .long 0), (22, .long 0), (24, .long 0), (26, .long 0), (28, .long 0), (30, .long 0), (33, .long q33), (35, .long q35), (37, .long q37), (39, .long q39), (41, .long q41), (43, .long q43), (45, .long q45), (47, .long q47), (49, .long q49), (51, .long q51), (53, .long q53), (55, .long q55), (57, .long q57), (59, .long q59)]) hx hb d_Field_multiply_515 hl (by decide) rfl (fun ls hl => ?_)
      refine lv_ldc2 (v := 268435455) hx hb E.2.2.2.1 (E.2.2.2.2.1 _ w_143) d_Field_multiply_517 ?_
      refine lv_land hx hb d_Field_multiply_520 ?_
      refine lv_topl (fun t9 e9 => ?_)
      obtain rfl : t9 = 0 := e9.trans (by decide)
      refine q_last E hf9 ht0 hF 2 rfl (by decide) (by decide) d_Field_multiply_521 (fun H3 locs hq hf9 hF => ?_)
      have hk := hk.tr hq
      have hv9 := updL_z hv9
      refine lv_aload_n hx hb d_Field_multiply_522 rfl (lv_at hl 15 rfl) ?_
      refine lv_iconst (v := nI 3) hx hb d_Field_multiply_523 (by decide) ?_
      refine lv_lload hx hb d_Field_multiply_524 (lv_at hl 4 rfl) ?_
      refine lv_lload hx hb d_Field_multiply_526 (lv_at hl 0 rfl) ?_
      refine lv_bipush (v := nI 28) hx hb d_Field_multiply_528 (by decide) ?_
      refine lv_lshr (v := 0 >>> ((nI 28).toInt64 &&& 63)) hx hb d_Field_multiply_530 rfl ?_
      refine lv_ladd hx hb d_Field_multiply_531 ?_
      refine lv_topl (fun t9 e9 => ?_)
      obtain rfl : t9 = 0 := e9.trans (by decide)
      refine lv_dup2_2 hx hb d_Field_multiply_532 rfl ?_
      refine lv_lstore (lv' := [(67, .long 0), (65, .long 0), (63, .long 0), (87, .int (nI 14)), (61, .long 0), (69, .long 0), (71, .long 0), (73, .long 0), (75, .long 0), (77, .long 0), (79, .long 0), (81, .long 0), (83, .long 0), (85, .long 0), (0, .ref o), (1, .ref t), (3, .ref b), (4, .long 0), (6, .long 0), (8, .long 0), (10, .long 0), (12, .long 0), (14, .long 0), (16, .long 0), (18, .long 0), (20, .long 0), (22, .long 0), (24, .long 0), (26, .long 0), (28, .long 0), (30, .long 0), (33, .long q33), (35, .long q35), (37, .long q37), (39, .long q39), (41, .long q41), (43, .long q43), (45, .long q45), (47, .long q47), (49, .long q49), (51, .long q51), (53, .long q53), (55, .long q55), (57, .long q57), (59, .long q59)]) hx hb d_Field_multiply_533 hl (by decide) rfl (fun ls hl => ?_)
      refine lv_ldc2 (v := 268435455) hx hb E.2.2.2.1 (E.2.2.2.2.1 _ w_143) d_Field_multiply_535 ?_
      refine lv_land hx hb d_Field_multiply_538 ?_
      refine lv_topl (fun t9 e9 => ?_)
      obtain rfl : t9 = 0 := e9.trans (by decide)
      refine q_last E hf9 ht0 hF 3 rfl (by decide) (by decide) d_Field_multiply_539 (fun H4 locs hq hf9 hF => ?_)
      have hk := hk.tr hq
      have hv9 := updL_z hv9
      refine lv_aload_n hx hb d_Field_multiply_540 rfl (lv_at hl 15 rfl) ?_
      refine lv_iconst (v := nI 4) hx hb d_Field_multiply_541 (by decide) ?_
      refine lv_lload hx hb d_Field_multiply_542 (lv_at hl 5 rfl) ?_
      refine lv_lload hx hb d_Field_multiply_544 (lv_at hl 0 rfl) ?_
      refine lv_bipush (v := nI 28) hx hb d_Field_multiply_546 (by decide) ?_
      refine lv_lshr (v := 0 >>> ((nI 28).toInt64 &&& 63)) hx hb d_Field_multiply_548 rfl ?_
      refine lv_ladd hx hb d_Field_multiply_549 ?_
      refine lv_topl (fun t9 e9 => ?_)
      obtain rfl : t9 = 0 := e9.trans (by decide)
      refine lv_dup2_2 hx hb d_Field_multiply_550 rfl ?_
      refine lv_lstore (lv' := [(69, .long 0), (67, .long 0), (65, .long 0), (63, .long 0), (87, .int (nI 14)), (61, .long 0), (71, .long 0), (73, .long 0), (75, .long 0), (77, .long 0), (79, .long 0), (81, .long 0), (83, .long 0), (85, .long 0), (0, .ref o), (1, .ref t), (3, .ref b), (4, .long 0), (6, .long 0), (8, .long 0), (10, .long 0), (12, .long 0), (14, .long 0), (16, .long 0), (18, .long 0), (20, .long 0), (22, .long 0), (24, .long 0), (26, .long 0), (28, .long 0), (30, .long 0), (33, .long q33), (35, .long q35), (37, .long q37), (39, .long q39), (41, .long q41), (43, .long q43), (45, .long q45), (47, .long q47), (49, .long q49), (51, .long q51), (53, .long q53), (55, .long q55), (57, .long q57), (59, .long q59)]) hx hb d_Field_multiply_551 hl (by decide) rfl (fun ls hl => ?_)
      refine lv_ldc2 (v := 268435455) hx hb E.2.2.2.1 (E.2.2.2.2.1 _ w_143) d_Field_multiply_553 ?_
      refine lv_land hx hb d_Field_multiply_556 ?_
      refine lv_topl (fun t9 e9 => ?_)
      obtain rfl : t9 = 0 := e9.trans (by decide)
      refine q_last E hf9 ht0 hF 4 rfl (by decide) (by decide) d_Field_multiply_557 (fun H5 locs hq hf9 hF => ?_)
      have hk := hk.tr hq
      have hv9 := updL_z hv9
      refine lv_aload_n hx hb d_Field_multiply_558 rfl (lv_at hl 15 rfl) ?_
      refine lv_iconst (v := nI 5) hx hb d_Field_multiply_559 (by decide) ?_
      refine lv_lload hx hb d_Field_multiply_560 (lv_at hl 6 rfl) ?_
      refine lv_lload hx hb d_Field_multiply_562 (lv_at hl 0 rfl) ?_
      refine lv_bipush (v := nI 28) hx hb d_Field_multiply_564 (by decide) ?_
      refine lv_lshr (v := 0 >>> ((nI 28).toInt64 &&& 63)) hx hb d_Field_multiply_566 rfl ?_
      refine lv_ladd hx hb d_Field_multiply_567 ?_
      refine lv_topl (fun t9 e9 => ?_)
      obtain rfl : t9 = 0 := e9.trans (by decide)
      refine lv_dup2_2 hx hb d_Field_multiply_568 rfl ?_
      refine lv_lstore (lv' := [(71, .long 0), (69, .long 0), (67, .long 0), (65, .long 0), (63, .long 0), (87, .int (nI 14)), (61, .long 0), (73, .long 0), (75, .long 0), (77, .long 0), (79, .long 0), (81, .long 0), (83, .long 0), (85, .long 0), (0, .ref o), (1, .ref t), (3, .ref b), (4, .long 0), (6, .long 0), (8, .long 0), (10, .long 0), (12, .long 0), (14, .long 0), (16, .long 0), (18, .long 0), (20, .long 0), (22, .long 0), (24, .long 0), (26, .long 0), (28, .long 0), (30, .long 0), (33, .long q33), (35, .long q35), (37, .long q37), (39, .long q39), (41, .long q41), (43, .long q43), (45, .long q45), (47, .long q47), (49, .long q49), (51, .long q51), (53, .long q53), (55, .long q55), (57, .long q57), (59, .long q59)]) hx hb d_Field_multiply_569 hl (by decide) rfl (fun ls hl => ?_)
      refine lv_ldc2 (v := 268435455) hx hb E.2.2.2.1 (E.2.2.2.2.1 _ w_143) d_Field_multiply_571 ?_
      refine lv_land hx hb d_Field_multiply_574 ?_
      refine lv_topl (fun t9 e9 => ?_)
      obtain rfl : t9 = 0 := e9.trans (by decide)
      refine q_last E hf9 ht0 hF 5 rfl (by decide) (by decide) d_Field_multiply_575 (fun H6 locs hq hf9 hF => ?_)
      have hk := hk.tr hq
      have hv9 := updL_z hv9
      refine lv_aload_n hx hb d_Field_multiply_576 rfl (lv_at hl 15 rfl) ?_
      refine lv_bipush (v := nI 6) hx hb d_Field_multiply_577 (by decide) ?_
      refine lv_lload hx hb d_Field_multiply_579 (lv_at hl 7 rfl) ?_
      refine lv_lload hx hb d_Field_multiply_581 (lv_at hl 0 rfl) ?_
      refine lv_bipush (v := nI 28) hx hb d_Field_multiply_583 (by decide) ?_
      refine lv_lshr (v := 0 >>> ((nI 28).toInt64 &&& 63)) hx hb d_Field_multiply_585 rfl ?_
      refine lv_ladd hx hb d_Field_multiply_586 ?_
      refine lv_topl (fun t9 e9 => ?_)
      obtain rfl : t9 = 0 := e9.trans (by decide)
      refine lv_dup2_2 hx hb d_Field_multiply_587 rfl ?_
      refine lv_lstore (lv' := [(73, .long 0), (71, .long 0), (69, .long 0), (67, .long 0), (65, .long 0), (63, .long 0), (87, .int (nI 14)), (61, .long 0), (75, .long 0), (77, .long 0), (79, .long 0), (81, .long 0), (83, .long 0), (85, .long 0), (0, .ref o), (1, .ref t), (3, .ref b), (4, .long 0), (6, .long 0), (8, .long 0), (10, .long 0), (12, .long 0), (14, .long 0), (16, .long 0), (18, .long 0), (20, .long 0), (22, .long 0), (24, .long 0), (26, .long 0), (28, .long 0), (30, .long 0), (33, .long q33), (35, .long q35), (37, .long q37), (39, .long q39), (41, .long q41), (43, .long q43), (45, .long q45), (47, .long q47), (49, .long q49), (51, .long q51), (53, .long q53), (55, .long q55), (57, .long q57), (59, .long q59)]) hx hb d_Field_multiply_588 hl (by decide) rfl (fun ls hl => ?_)
      refine lv_ldc2 (v := 268435455) hx hb E.2.2.2.1 (E.2.2.2.2.1 _ w_143) d_Field_multiply_590 ?_
      refine lv_land hx hb d_Field_multiply_593 ?_
      refine lv_topl (fun t9 e9 => ?_)
      obtain rfl : t9 = 0 := e9.trans (by decide)
      refine q_last E hf9 ht0 hF 6 rfl (by decide) (by decide) d_Field_multiply_594 (fun H7 locs hq hf9 hF => ?_)
      have hk := hk.tr hq
      have hv9 := updL_z hv9
      refine lv_aload_n hx hb d_Field_multiply_595 rfl (lv_at hl 15 rfl) ?_
      refine lv_bipush (v := nI 7) hx hb d_Field_multiply_596 (by decide) ?_
      refine lv_lload hx hb d_Field_multiply_598 (lv_at hl 8 rfl) ?_
      refine lv_lload hx hb d_Field_multiply_600 (lv_at hl 0 rfl) ?_
      refine lv_bipush (v := nI 28) hx hb d_Field_multiply_602 (by decide) ?_
      refine lv_lshr (v := 0 >>> ((nI 28).toInt64 &&& 63)) hx hb d_Field_multiply_604 rfl ?_
      refine lv_ladd hx hb d_Field_multiply_605 ?_
      refine lv_topl (fun t9 e9 => ?_)
      obtain rfl : t9 = 0 := e9.trans (by decide)
      refine lv_dup2_2 hx hb d_Field_multiply_606 rfl ?_
      refine lv_lstore (lv' := [(75, .long 0), (73, .long 0), (71, .long 0), (69, .long 0), (67, .long 0), (65, .long 0), (63, .long 0), (87, .int (nI 14)), (61, .long 0), (77, .long 0), (79, .long 0), (81, .long 0), (83, .long 0), (85, .long 0), (0, .ref o), (1, .ref t), (3, .ref b), (4, .long 0), (6, .long 0), (8, .long 0), (10, .long 0), (12, .long 0), (14, .long 0), (16, .long 0), (18, .long 0), (20, .long 0), (22, .long 0), (24, .long 0), (26, .long 0), (28, .long 0), (30, .long 0), (33, .long q33), (35, .long q35), (37, .long q37), (39, .long q39), (41, .long q41), (43, .long q43), (45, .long q45), (47, .long q47), (49, .long q49), (51, .long q51), (53, .long q53), (55, .long q55), (57, .long q57), (59, .long q59)]) hx hb d_Field_multiply_607 hl (by decide) rfl (fun ls hl => ?_)
      refine lv_ldc2 (v := 268435455) hx hb E.2.2.2.1 (E.2.2.2.2.1 _ w_143) d_Field_multiply_609 ?_
      refine lv_land hx hb d_Field_multiply_612 ?_
      refine lv_topl (fun t9 e9 => ?_)
      obtain rfl : t9 = 0 := e9.trans (by decide)
      refine q_last E hf9 ht0 hF 7 rfl (by decide) (by decide) d_Field_multiply_613 (fun H8 locs hq hf9 hF => ?_)
      have hk := hk.tr hq
      have hv9 := updL_z hv9
      refine lv_aload_n hx hb d_Field_multiply_614 rfl (lv_at hl 15 rfl) ?_
      refine lv_bipush (v := nI 8) hx hb d_Field_multiply_615 (by decide) ?_
      refine lv_lload hx hb d_Field_multiply_617 (lv_at hl 9 rfl) ?_
      refine lv_lload hx hb d_Field_multiply_619 (lv_at hl 0 rfl) ?_
      refine lv_bipush (v := nI 28) hx hb d_Field_multiply_621 (by decide) ?_
      refine lv_lshr (v := 0 >>> ((nI 28).toInt64 &&& 63)) hx hb d_Field_multiply_623 rfl ?_
      refine lv_ladd hx hb d_Field_multiply_624 ?_
      refine lv_topl (fun t9 e9 => ?_)
      obtain rfl : t9 = 0 := e9.trans (by decide)
      refine lv_dup2_2 hx hb d_Field_multiply_625 rfl ?_
      refine lv_lstore (lv' := [(77, .long 0), (75, .long 0), (73, .long 0), (71, .long 0), (69, .long 0), (67, .long 0), (65, .long 0), (63, .long 0), (87, .int (nI 14)), (61, .long 0), (79, .long 0), (81, .long 0), (83, .long 0), (85, .long 0), (0, .ref o), (1, .ref t), (3, .ref b), (4, .long 0), (6, .long 0), (8, .long 0), (10, .long 0), (12, .long 0), (14, .long 0), (16, .long 0), (18, .long 0), (20, .long 0), (22, .long 0), (24, .long 0), (26, .long 0), (28, .long 0), (30, .long 0), (33, .long q33), (35, .long q35), (37, .long q37), (39, .long q39), (41, .long q41), (43, .long q43), (45, .long q45), (47, .long q47), (49, .long q49), (51, .long q51), (53, .long q53), (55, .long q55), (57, .long q57), (59, .long q59)]) hx hb d_Field_multiply_626 hl (by decide) rfl (fun ls hl => ?_)
      refine lv_ldc2 (v := 268435455) hx hb E.2.2.2.1 (E.2.2.2.2.1 _ w_143) d_Field_multiply_628 ?_
      refine lv_land hx hb d_Field_multiply_631 ?_
      refine lv_topl (fun t9 e9 => ?_)
      obtain rfl : t9 = 0 := e9.trans (by decide)
      refine q_last E hf9 ht0 hF 8 rfl (by decide) (by decide) d_Field_multiply_632 (fun H9 locs hq hf9 hF => ?_)
      have hk := hk.tr hq
      have hv9 := updL_z hv9
      refine lv_aload_n hx hb d_Field_multiply_633 rfl (lv_at hl 15 rfl) ?_
      refine lv_bipush (v := nI 9) hx hb d_Field_multiply_634 (by decide) ?_
      refine lv_lload hx hb d_Field_multiply_636 (lv_at hl 10 rfl) ?_
      refine lv_lload hx hb d_Field_multiply_638 (lv_at hl 0 rfl) ?_
      refine lv_bipush (v := nI 28) hx hb d_Field_multiply_640 (by decide) ?_
      refine lv_lshr (v := 0 >>> ((nI 28).toInt64 &&& 63)) hx hb d_Field_multiply_642 rfl ?_
      refine lv_ladd hx hb d_Field_multiply_643 ?_
      refine lv_topl (fun t9 e9 => ?_)
      obtain rfl : t9 = 0 := e9.trans (by decide)
      refine lv_dup2_2 hx hb d_Field_multiply_644 rfl ?_
      refine lv_lstore (lv' := [(79, .long 0), (77, .long 0), (75, .long 0), (73, .long 0), (71, .long 0), (69, .long 0), (67, .long 0), (65, .long 0), (63, .long 0), (87, .int (nI 14)), (61, .long 0), (81, .long 0), (83, .long 0), (85, .long 0), (0, .ref o), (1, .ref t), (3, .ref b), (4, .long 0), (6, .long 0), (8, .long 0), (10, .long 0), (12, .long 0), (14, .long 0), (16, .long 0), (18, .long 0), (20, .long 0), (22, .long 0), (24, .long 0), (26, .long 0), (28, .long 0), (30, .long 0), (33, .long q33), (35, .long q35), (37, .long q37), (39, .long q39), (41, .long q41), (43, .long q43), (45, .long q45), (47, .long q47), (49, .long q49), (51, .long q51), (53, .long q53), (55, .long q55), (57, .long q57), (59, .long q59)]) hx hb d_Field_multiply_645 hl (by decide) rfl (fun ls hl => ?_)
      refine lv_ldc2 (v := 268435455) hx hb E.2.2.2.1 (E.2.2.2.2.1 _ w_143) d_Field_multiply_647 ?_
      refine lv_land hx hb d_Field_multiply_650 ?_
      refine lv_topl (fun t9 e9 => ?_)
      obtain rfl : t9 = 0 := e9.trans (by decide)
      refine q_last E hf9 ht0 hF 9 rfl (by decide) (by decide) d_Field_multiply_651 (fun H10 locs hq hf9 hF => ?_)
      have hk := hk.tr hq
      have hv9 := updL_z hv9
      refine lv_aload_n hx hb d_Field_multiply_652 rfl (lv_at hl 15 rfl) ?_
      refine lv_bipush (v := nI 10) hx hb d_Field_multiply_653 (by decide) ?_
      refine lv_lload hx hb d_Field_multiply_655 (lv_at hl 11 rfl) ?_
      refine lv_lload hx hb d_Field_multiply_657 (lv_at hl 0 rfl) ?_
      refine lv_bipush (v := nI 28) hx hb d_Field_multiply_659 (by decide) ?_
      refine lv_lshr (v := 0 >>> ((nI 28).toInt64 &&& 63)) hx hb d_Field_multiply_661 rfl ?_
      refine lv_ladd hx hb d_Field_multiply_662 ?_
      refine lv_topl (fun t9 e9 => ?_)
      obtain rfl : t9 = 0 := e9.trans (by decide)
      refine lv_dup2_2 hx hb d_Field_multiply_663 rfl ?_
      refine lv_lstore (lv' := [(81, .long 0), (79, .long 0), (77, .long 0), (75, .long 0), (73, .long 0), (71, .long 0), (69, .long 0), (67, .long 0), (65, .long 0), (63, .long 0), (87, .int (nI 14)), (61, .long 0), (83, .long 0), (85, .long 0), (0, .ref o), (1, .ref t), (3, .ref b), (4, .long 0), (6, .long 0), (8, .long 0), (10, .long 0), (12, .long 0), (14, .long 0), (16, .long 0), (18, .long 0), (20, .long 0), (22, .long 0), (24, .long 0), (26, .long 0), (28, .long 0), (30, .long 0), (33, .long q33), (35, .long q35), (37, .long q37), (39, .long q39), (41, .long q41), (43, .long q43), (45, .long q45), (47, .long q47), (49, .long q49), (51, .long q51), (53, .long q53), (55, .long q55), (57, .long q57), (59, .long q59)]) hx hb d_Field_multiply_664 hl (by decide) rfl (fun ls hl => ?_)
      refine lv_ldc2 (v := 268435455) hx hb E.2.2.2.1 (E.2.2.2.2.1 _ w_143) d_Field_multiply_666 ?_
      refine lv_land hx hb d_Field_multiply_669 ?_
      refine lv_topl (fun t9 e9 => ?_)
      obtain rfl : t9 = 0 := e9.trans (by decide)
      refine q_last E hf9 ht0 hF 10 rfl (by decide) (by decide) d_Field_multiply_670 (fun H11 locs hq hf9 hF => ?_)
      have hk := hk.tr hq
      have hv9 := updL_z hv9
      refine lv_aload_n hx hb d_Field_multiply_671 rfl (lv_at hl 15 rfl) ?_
      refine lv_bipush (v := nI 11) hx hb d_Field_multiply_672 (by decide) ?_
      refine lv_lload hx hb d_Field_multiply_674 (lv_at hl 12 rfl) ?_
      refine lv_lload hx hb d_Field_multiply_676 (lv_at hl 0 rfl) ?_
      refine lv_bipush (v := nI 28) hx hb d_Field_multiply_678 (by decide) ?_
      refine lv_lshr (v := 0 >>> ((nI 28).toInt64 &&& 63)) hx hb d_Field_multiply_680 rfl ?_
      refine lv_ladd hx hb d_Field_multiply_681 ?_
      refine lv_topl (fun t9 e9 => ?_)
      obtain rfl : t9 = 0 := e9.trans (by decide)
      refine lv_dup2_2 hx hb d_Field_multiply_682 rfl ?_
      refine lv_lstore (lv' := [(83, .long 0), (81, .long 0), (79, .long 0), (77, .long 0), (75, .long 0), (73, .long 0), (71, .long 0), (69, .long 0), (67, .long 0), (65, .long 0), (63, .long 0), (87, .int (nI 14)), (61, .long 0), (85, .long 0), (0, .ref o), (1, .ref t), (3, .ref b), (4, .long 0), (6, .long 0), (8, .long 0), (10, .long 0), (12, .long 0), (14, .long 0), (16, .long 0), (18, .long 0), (20, .long 0), (22, .long 0), (24, .long 0), (26, .long 0), (28, .long 0), (30, .long 0), (33, .long q33), (35, .long q35), (37, .long q37), (39, .long q39), (41, .long q41), (43, .long q43), (45, .long q45), (47, .long q47), (49, .long q49), (51, .long q51), (53, .long q53), (55, .long q55), (57, .long q57), (59, .long q59)]) hx hb d_Field_multiply_683 hl (by decide) rfl (fun ls hl => ?_)
      refine lv_ldc2 (v := 268435455) hx hb E.2.2.2.1 (E.2.2.2.2.1 _ w_143) d_Field_multiply_685 ?_
      refine lv_land hx hb d_Field_multiply_688 ?_
      refine lv_topl (fun t9 e9 => ?_)
      obtain rfl : t9 = 0 := e9.trans (by decide)
      refine q_last E hf9 ht0 hF 11 rfl (by decide) (by decide) d_Field_multiply_689 (fun H12 locs hq hf9 hF => ?_)
      have hk := hk.tr hq
      have hv9 := updL_z hv9
      refine lv_aload_n hx hb d_Field_multiply_690 rfl (lv_at hl 15 rfl) ?_
      refine lv_bipush (v := nI 12) hx hb d_Field_multiply_691 (by decide) ?_
      refine lv_lload hx hb d_Field_multiply_693 (lv_at hl 13 rfl) ?_
      refine lv_lload hx hb d_Field_multiply_695 (lv_at hl 0 rfl) ?_
      refine lv_bipush (v := nI 28) hx hb d_Field_multiply_697 (by decide) ?_
      refine lv_lshr (v := 0 >>> ((nI 28).toInt64 &&& 63)) hx hb d_Field_multiply_699 rfl ?_
      refine lv_ladd hx hb d_Field_multiply_700 ?_
      refine lv_topl (fun t9 e9 => ?_)
      obtain rfl : t9 = 0 := e9.trans (by decide)
      refine lv_dup2_2 hx hb d_Field_multiply_701 rfl ?_
      refine lv_lstore (lv' := [(85, .long 0), (83, .long 0), (81, .long 0), (79, .long 0), (77, .long 0), (75, .long 0), (73, .long 0), (71, .long 0), (69, .long 0), (67, .long 0), (65, .long 0), (63, .long 0), (87, .int (nI 14)), (61, .long 0), (0, .ref o), (1, .ref t), (3, .ref b), (4, .long 0), (6, .long 0), (8, .long 0), (10, .long 0), (12, .long 0), (14, .long 0), (16, .long 0), (18, .long 0), (20, .long 0), (22, .long 0), (24, .long 0), (26, .long 0), (28, .long 0), (30, .long 0), (33, .long q33), (35, .long q35), (37, .long q37), (39, .long q39), (41, .long q41), (43, .long q43), (45, .long q45), (47, .long q47), (49, .long q49), (51, .long q51), (53, .long q53), (55, .long q55), (57, .long q57), (59, .long q59)]) hx hb d_Field_multiply_702 hl (by decide) rfl (fun ls hl => ?_)
      refine lv_ldc2 (v := 268435455) hx hb E.2.2.2.1 (E.2.2.2.2.1 _ w_143) d_Field_multiply_704 ?_
      refine lv_land hx hb d_Field_multiply_707 ?_
      refine lv_topl (fun t9 e9 => ?_)
      obtain rfl : t9 = 0 := e9.trans (by decide)
      refine q_last E hf9 ht0 hF 12 rfl (by decide) (by decide) d_Field_multiply_708 (fun H13 locs hq hf9 hF => ?_)
      have hk := hk.tr hq
      have hv9 := updL_z hv9
      refine lv_aload_n hx hb d_Field_multiply_709 rfl (lv_at hl 15 rfl) ?_
      refine lv_bipush (v := nI 13) hx hb d_Field_multiply_710 (by decide) ?_
      refine lv_lload hx hb d_Field_multiply_712 (lv_at hl 0 rfl) ?_
      refine lv_bipush (v := nI 28) hx hb d_Field_multiply_714 (by decide) ?_
      refine lv_lshr (v := 0 >>> ((nI 28).toInt64 &&& 63)) hx hb d_Field_multiply_716 rfl ?_
      refine lv_topl (fun t9 e9 => ?_)
      obtain rfl : t9 = 0 := e9.trans (by decide)
      refine q_last E hf9 ht0 hF 13 rfl (by decide) (by decide) d_Field_multiply_717 (fun H14 locs hq hf9 hF => ?_)
      have hk := hk.tr hq
      have hv9 := updL_z hv9
      refine lv_aload_n hx hb d_Field_multiply_718 rfl (lv_at hl 14 rfl) ?_
      refine lv_aload_n hx hb d_Field_multiply_719 rfl (lv_at hl 15 rfl) ?_
      have hf9 := hf9.ext hv9
      refine q_cV (rest := []) E (z_Field_reduce l g n0 o t F mi f h0 h1) w_161 w_4 w_158 w_160 (bw_s 1 rfl) hd_Field_reduce rfl ⟨by decide, by decide⟩ (OB.recv E.2.2.2.2.2 (by rfl) ((hk.fd hK hfd).1)) (⟨hk.fd hK hfd, hf9, hk.ajo htm hfm⟩) hF hl.1 rfl (Nat.le_of_ble_eq_true rfl) d_Field_multiply_720 ⟨by decide, by decide⟩ (qv (fun H15 locs hq hF => ?_))
      subst hq
      exact q_vret E hr hlk (⟨rfl, hk, hf9⟩) hF d_Field_multiply_723
    | succ k ih =>
      intro  i   ls hi hl
      have hi14 : i < 14 := by omega
      refine lv_iload hx hb d_Field_multiply_218 (lv_at hl 0 rfl) ?_
      refine lv_bipush (v := nI 14) hx hb d_Field_multiply_220 (by decide) ?_
      refine lv_icmp_ge (tgt := 477) hx hb d_Field_multiply_222 (by decide) (fun h9 => absurd h9 (nI_ge hi14 (by decide))) (fun _ => ?_)
      refine lv_aload_n hx hb d_Field_multiply_225 rfl (lv_at hl 16 rfl) ?_
      refine lv_iload hx hb d_Field_multiply_226 (lv_at hl 0 rfl) ?_
      refine q_laldS E hb0 i rfl hi14 d_Field_multiply_228 (fun xx => ?_)
      refine lv_lstore (lv' := [(88, .long xx), (87, .int (nI i)), (61, .long 0), (63, .long 0), (65, .long 0), (67, .long 0), (69, .long 0), (71, .long 0), (73, .long 0), (75, .long 0), (77, .long 0), (79, .long 0), (81, .long 0), (83, .long 0), (85, .long 0), (0, .ref o), (1, .ref t), (3, .ref b), (4, .long 0), (6, .long 0), (8, .long 0), (10, .long 0), (12, .long 0), (14, .long 0), (16, .long 0), (18, .long 0), (20, .long 0), (22, .long 0), (24, .long 0), (26, .long 0), (28, .long 0), (30, .long 0), (33, .long q33), (35, .long q35), (37, .long q37), (39, .long q39), (41, .long q41), (43, .long q43), (45, .long q45), (47, .long q47), (49, .long q49), (51, .long q51), (53, .long q53), (55, .long q55), (57, .long q57), (59, .long q59)]) hx hb d_Field_multiply_229 hl (by decide) rfl (fun ls hl => ?_)
      refine lv_lload hx hb d_Field_multiply_231 (lv_at hl 2 rfl) ?_
      refine lv_lload hx hb d_Field_multiply_233 (lv_at hl 0 rfl) ?_
      refine lv_lload hx hb d_Field_multiply_235 (lv_at hl 18 rfl) ?_
      refine lv_lmul hx hb d_Field_multiply_237 ?_
      refine lv_ladd hx hb d_Field_multiply_238 ?_
      refine lv_topl (fun t9 e9 => ?_)
      obtain rfl : t9 = 0 := e9.trans (by simp)
      refine lv_lstore (lv' := [(61, .long 0), (88, .long xx), (87, .int (nI i)), (63, .long 0), (65, .long 0), (67, .long 0), (69, .long 0), (71, .long 0), (73, .long 0), (75, .long 0), (77, .long 0), (79, .long 0), (81, .long 0), (83, .long 0), (85, .long 0), (0, .ref o), (1, .ref t), (3, .ref b), (4, .long 0), (6, .long 0), (8, .long 0), (10, .long 0), (12, .long 0), (14, .long 0), (16, .long 0), (18, .long 0), (20, .long 0), (22, .long 0), (24, .long 0), (26, .long 0), (28, .long 0), (30, .long 0), (33, .long q33), (35, .long q35), (37, .long q37), (39, .long q39), (41, .long q41), (43, .long q43), (45, .long q45), (47, .long q47), (49, .long q49), (51, .long q51), (53, .long q53), (55, .long q55), (57, .long q57), (59, .long q59)]) hx hb d_Field_multiply_239 hl (by decide) rfl (fun ls hl => ?_)
      refine lv_lload hx hb d_Field_multiply_241 (lv_at hl 0 rfl) ?_
      refine lv_aload_n hx hb d_Field_multiply_243 rfl (lv_at hl 15 rfl) ?_
      refine q_get (C := "KateDesk$Field") (T := T_Field) (N := 7) (ci := 1) E ((hk.fd hK hfd).1) in_Field rfl 6 (by decide) w_182 rfl rfl d_Field_multiply_244 ?_
      refine lv_lmul hx hb d_Field_multiply_247 ?_
      refine lv_ldc2 (v := 268435455) hx hb E.2.2.2.1 (E.2.2.2.2.1 _ w_143) d_Field_multiply_248 ?_
      refine lv_land hx hb d_Field_multiply_251 ?_
      refine lv_topl (fun t9 e9 => ?_)
      obtain rfl : t9 = 0 := e9.trans (by simp)
      refine lv_lstore (lv' := [(90, .long 0), (61, .long 0), (88, .long xx), (87, .int (nI i)), (63, .long 0), (65, .long 0), (67, .long 0), (69, .long 0), (71, .long 0), (73, .long 0), (75, .long 0), (77, .long 0), (79, .long 0), (81, .long 0), (83, .long 0), (85, .long 0), (0, .ref o), (1, .ref t), (3, .ref b), (4, .long 0), (6, .long 0), (8, .long 0), (10, .long 0), (12, .long 0), (14, .long 0), (16, .long 0), (18, .long 0), (20, .long 0), (22, .long 0), (24, .long 0), (26, .long 0), (28, .long 0), (30, .long 0), (33, .long q33), (35, .long q35), (37, .long q37), (39, .long q39), (41, .long q41), (43, .long q43), (45, .long q45), (47, .long q47), (49, .long q49), (51, .long q51), (53, .long q53), (55, .long q55), (57, .long q57), (59, .long q59)]) hx hb d_Field_multiply_252 hl (by decide) rfl (fun ls hl => ?_)
      refine lv_lload hx hb d_Field_multiply_254 (lv_at hl 1 rfl) ?_
      refine lv_lload hx hb d_Field_multiply_256 (lv_at hl 0 rfl) ?_
      refine lv_lload hx hb d_Field_multiply_258 (lv_at hl 33 rfl) ?_
      refine lv_lmul hx hb d_Field_multiply_260 ?_
      refine lv_ladd hx hb d_Field_multiply_261 ?_
      refine lv_bipush (v := nI 28) hx hb d_Field_multiply_262 (by decide) ?_
      refine lv_lshr (v := (0 + (0 * q33)) >>> ((nI 28).toInt64 &&& 63)) hx hb d_Field_multiply_264 rfl ?_
      refine lv_lload hx hb d_Field_multiply_265 (lv_at hl 4 rfl) ?_
      refine lv_ladd hx hb d_Field_multiply_267 ?_
      refine lv_lload hx hb d_Field_multiply_268 (lv_at hl 2 rfl) ?_
      refine lv_lload hx hb d_Field_multiply_270 (lv_at hl 20 rfl) ?_
      refine lv_lmul hx hb d_Field_multiply_272 ?_
      refine lv_ladd hx hb d_Field_multiply_273 ?_
      refine lv_lload hx hb d_Field_multiply_274 (lv_at hl 0 rfl) ?_
      refine lv_lload hx hb d_Field_multiply_276 (lv_at hl 34 rfl) ?_
      refine lv_lmul hx hb d_Field_multiply_278 ?_
      refine lv_ladd hx hb d_Field_multiply_279 ?_
      refine lv_topl (fun t9 e9 => ?_)
      obtain rfl : t9 = 0 := e9.trans (by simp)
      refine lv_lstore (lv' := [(61, .long 0), (90, .long 0), (88, .long xx), (87, .int (nI i)), (63, .long 0), (65, .long 0), (67, .long 0), (69, .long 0), (71, .long 0), (73, .long 0), (75, .long 0), (77, .long 0), (79, .long 0), (81, .long 0), (83, .long 0), (85, .long 0), (0, .ref o), (1, .ref t), (3, .ref b), (4, .long 0), (6, .long 0), (8, .long 0), (10, .long 0), (12, .long 0), (14, .long 0), (16, .long 0), (18, .long 0), (20, .long 0), (22, .long 0), (24, .long 0), (26, .long 0), (28, .long 0), (30, .long 0), (33, .long q33), (35, .long q35), (37, .long q37), (39, .long q39), (41, .long q41), (43, .long q43), (45, .long q45), (47, .long q47), (49, .long q49), (51, .long q51), (53, .long q53), (55, .long q55), (57, .long q57), (59, .long q59)]) hx hb d_Field_multiply_280 hl (by decide) rfl (fun ls hl => ?_)
      refine lv_lload hx hb d_Field_multiply_282 (lv_at hl 5 rfl) ?_
      refine lv_lload hx hb d_Field_multiply_284 (lv_at hl 2 rfl) ?_
      refine lv_lload hx hb d_Field_multiply_286 (lv_at hl 21 rfl) ?_
      refine lv_lmul hx hb d_Field_multiply_288 ?_
      refine lv_ladd hx hb d_Field_multiply_289 ?_
      refine lv_lload hx hb d_Field_multiply_290 (lv_at hl 1 rfl) ?_
      refine lv_lload hx hb d_Field_multiply_292 (lv_at hl 35 rfl) ?_
      refine lv_lmul hx hb d_Field_multiply_294 ?_
      refine lv_ladd hx hb d_Field_multiply_295 ?_
      refine lv_topl (fun t9 e9 => ?_)
      obtain rfl : t9 = 0 := e9.trans (by simp)
      refine lv_lstore (lv' := [(63, .long 0), (61, .long 0), (90, .long 0), (88, .long xx), (87, .int (nI i)), (65, .long 0), (67, .long 0), (69, .long 0), (71, .long 0), (73, .long 0), (75, .long 0), (77, .long 0), (79, .long 0), (81, .long 0), (83, .long 0), (85, .long 0), (0, .ref o), (1, .ref t), (3, .ref b), (4, .long 0), (6, .long 0), (8, .long 0), (10, .long 0), (12, .long 0), (14, .long 0), (16, .long 0), (18, .long 0), (20, .long 0), (22, .long 0), (24, .long 0), (26, .long 0), (28, .long 0), (30, .long 0), (33, .long q33), (35, .long q35), (37, .long q37), (39, .long q39), (41, .long q41), (43, .long q43), (45, .long q45), (47, .long q47), (49, .long q49), (51, .long q51), (53, .long q53), (55, .long q55), (57, .long q57), (59, .long q59)]) hx hb d_Field_multiply_296 hl (by decide) rfl (fun ls hl => ?_)
      refine lv_lload hx hb d_Field_multiply_298 (lv_at hl 6 rfl) ?_
      refine lv_lload hx hb d_Field_multiply_300 (lv_at hl 3 rfl) ?_
      refine lv_lload hx hb d_Field_multiply_302 (lv_at hl 22 rfl) ?_
      refine lv_lmul hx hb d_Field_multiply_304 ?_
      refine lv_ladd hx hb d_Field_multiply_305 ?_
      refine lv_lload hx hb d_Field_multiply_306 (lv_at hl 2 rfl) ?_
      refine lv_lload hx hb d_Field_multiply_308 (lv_at hl 36 rfl) ?_
      refine lv_lmul hx hb d_Field_multiply_310 ?_
      refine lv_ladd hx hb d_Field_multiply_311 ?_
      refine lv_topl (fun t9 e9 => ?_)
      obtain rfl : t9 = 0 := e9.trans (by simp)
      refine lv_lstore (lv' := [(65, .long 0), (63, .long 0), (61, .long 0), (90, .long 0), (88, .long xx), (87, .int (nI i)), (67, .long 0), (69, .long 0), (71, .long 0), (73, .long 0), (75, .long 0), (77, .long 0), (79, .long 0), (81, .long 0), (83, .long 0), (85, .long 0), (0, .ref o), (1, .ref t), (3, .ref b), (4, .long 0), (6, .long 0), (8, .long 0), (10, .long 0), (12, .long 0), (14, .long 0), (16, .long 0), (18, .long 0), (20, .long 0), (22, .long 0), (24, .long 0), (26, .long 0), (28, .long 0), (30, .long 0), (33, .long q33), (35, .long q35), (37, .long q37), (39, .long q39), (41, .long q41), (43, .long q43), (45, .long q45), (47, .long q47), (49, .long q49), (51, .long q51), (53, .long q53), (55, .long q55), (57, .long q57), (59, .long q59)]) hx hb d_Field_multiply_312 hl (by decide) rfl (fun ls hl => ?_)
      refine lv_lload hx hb d_Field_multiply_314 (lv_at hl 7 rfl) ?_
      refine lv_lload hx hb d_Field_multiply_316 (lv_at hl 4 rfl) ?_
      refine lv_lload hx hb d_Field_multiply_318 (lv_at hl 23 rfl) ?_
      refine lv_lmul hx hb d_Field_multiply_320 ?_
      refine lv_ladd hx hb d_Field_multiply_321 ?_
      refine lv_lload hx hb d_Field_multiply_322 (lv_at hl 3 rfl) ?_
      refine lv_lload hx hb d_Field_multiply_324 (lv_at hl 37 rfl) ?_
      refine lv_lmul hx hb d_Field_multiply_326 ?_
      refine lv_ladd hx hb d_Field_multiply_327 ?_
      refine lv_topl (fun t9 e9 => ?_)
      obtain rfl : t9 = 0 := e9.trans (by simp)
      refine lv_lstore (lv' := [(67, .long 0), (65, .long 0), (63, .long 0), (61, .long 0), (90, .long 0), (88, .long xx), (87, .int (nI i)), (69, .long 0), (71, .long 0), (73, .long 0), (75, .long 0), (77, .long 0), (79, .long 0), (81, .long 0), (83, .long 0), (85, .long 0), (0, .ref o), (1, .ref t), (3, .ref b), (4, .long 0), (6, .long 0), (8, .long 0), (10, .long 0), (12, .long 0), (14, .long 0), (16, .long 0), (18, .long 0), (20, .long 0), (22, .long 0), (24, .long 0), (26, .long 0), (28, .long 0), (30, .long 0), (33, .long q33), (35, .long q35), (37, .long q37), (39, .long q39), (41, .long q41), (43, .long q43), (45, .long q45), (47, .long q47), (49, .long q49), (51, .long q51), (53, .long q53), (55, .long q55), (57, .long q57), (59, .long q59)]) hx hb d_Field_multiply_328 hl (by decide) rfl (fun ls hl => ?_)
      refine lv_lload hx hb d_Field_multiply_330 (lv_at hl 8 rfl) ?_
      refine lv_lload hx hb d_Field_multiply_332 (lv_at hl 5 rfl) ?_
      refine lv_lload hx hb d_Field_multiply_334 (lv_at hl 24 rfl) ?_
      refine lv_lmul hx hb d_Field_multiply_336 ?_
      refine lv_ladd hx hb d_Field_multiply_337 ?_
      refine lv_lload hx hb d_Field_multiply_338 (lv_at hl 4 rfl) ?_
      refine lv_lload hx hb d_Field_multiply_340 (lv_at hl 38 rfl) ?_
      refine lv_lmul hx hb d_Field_multiply_342 ?_
      refine lv_ladd hx hb d_Field_multiply_343 ?_
      refine lv_topl (fun t9 e9 => ?_)
      obtain rfl : t9 = 0 := e9.trans (by simp)
      refine lv_lstore (lv' := [(69, .long 0), (67, .long 0), (65, .long 0), (63, .long 0), (61, .long 0), (90, .long 0), (88, .long xx), (87, .int (nI i)), (71, .long 0), (73, .long 0), (75, .long 0), (77, .long 0), (79, .long 0), (81, .long 0), (83, .long 0), (85, .long 0), (0, .ref o), (1, .ref t), (3, .ref b), (4, .long 0), (6, .long 0), (8, .long 0), (10, .long 0), (12, .long 0), (14, .long 0), (16, .long 0), (18, .long 0), (20, .long 0), (22, .long 0), (24, .long 0), (26, .long 0), (28, .long 0), (30, .long 0), (33, .long q33), (35, .long q35), (37, .long q37), (39, .long q39), (41, .long q41), (43, .long q43), (45, .long q45), (47, .long q47), (49, .long q49), (51, .long q51), (53, .long q53), (55, .long q55), (57, .long q57), (59, .long q59)]) hx hb d_Field_multiply_344 hl (by decide) rfl (fun ls hl => ?_)
      refine lv_lload hx hb d_Field_multiply_346 (lv_at hl 9 rfl) ?_
      refine lv_lload hx hb d_Field_multiply_348 (lv_at hl 6 rfl) ?_
      refine lv_lload hx hb d_Field_multiply_350 (lv_at hl 25 rfl) ?_
      refine lv_lmul hx hb d_Field_multiply_352 ?_
      refine lv_ladd hx hb d_Field_multiply_353 ?_
      refine lv_lload hx hb d_Field_multiply_354 (lv_at hl 5 rfl) ?_
      refine lv_lload hx hb d_Field_multiply_356 (lv_at hl 39 rfl) ?_
      refine lv_lmul hx hb d_Field_multiply_358 ?_
      refine lv_ladd hx hb d_Field_multiply_359 ?_
      refine lv_topl (fun t9 e9 => ?_)
      obtain rfl : t9 = 0 := e9.trans (by simp)
      refine lv_lstore (lv' := [(71, .long 0), (69, .long 0), (67, .long 0), (65, .long 0), (63, .long 0), (61, .long 0), (90, .long 0), (88, .long xx), (87, .int (nI i)), (73, .long 0), (75, .long 0), (77, .long 0), (79, .long 0), (81, .long 0), (83, .long 0), (85, .long 0), (0, .ref o), (1, .ref t), (3, .ref b), (4, .long 0), (6, .long 0), (8, .long 0), (10, .long 0), (12, .long 0), (14, .long 0), (16, .long 0), (18, .long 0), (20, .long 0), (22, .long 0), (24, .long 0), (26, .long 0), (28, .long 0), (30, .long 0), (33, .long q33), (35, .long q35), (37, .long q37), (39, .long q39), (41, .long q41), (43, .long q43), (45, .long q45), (47, .long q47), (49, .long q49), (51, .long q51), (53, .long q53), (55, .long q55), (57, .long q57), (59, .long q59)]) hx hb d_Field_multiply_360 hl (by decide) rfl (fun ls hl => ?_)
      refine lv_lload hx hb d_Field_multiply_362 (lv_at hl 10 rfl) ?_
      refine lv_lload hx hb d_Field_multiply_364 (lv_at hl 7 rfl) ?_
      refine lv_lload hx hb d_Field_multiply_366 (lv_at hl 26 rfl) ?_
      refine lv_lmul hx hb d_Field_multiply_368 ?_
      refine lv_ladd hx hb d_Field_multiply_369 ?_
      refine lv_lload hx hb d_Field_multiply_370 (lv_at hl 6 rfl) ?_
      refine lv_lload hx hb d_Field_multiply_372 (lv_at hl 40 rfl) ?_
      refine lv_lmul hx hb d_Field_multiply_374 ?_
      refine lv_ladd hx hb d_Field_multiply_375 ?_
      refine lv_topl (fun t9 e9 => ?_)
      obtain rfl : t9 = 0 := e9.trans (by simp)
      refine lv_lstore (lv' := [(73, .long 0), (71, .long 0), (69, .long 0), (67, .long 0), (65, .long 0), (63, .long 0), (61, .long 0), (90, .long 0), (88, .long xx), (87, .int (nI i)), (75, .long 0), (77, .long 0), (79, .long 0), (81, .long 0), (83, .long 0), (85, .long 0), (0, .ref o), (1, .ref t), (3, .ref b), (4, .long 0), (6, .long 0), (8, .long 0), (10, .long 0), (12, .long 0), (14, .long 0), (16, .long 0), (18, .long 0), (20, .long 0), (22, .long 0), (24, .long 0), (26, .long 0), (28, .long 0), (30, .long 0), (33, .long q33), (35, .long q35), (37, .long q37), (39, .long q39), (41, .long q41), (43, .long q43), (45, .long q45), (47, .long q47), (49, .long q49), (51, .long q51), (53, .long q53), (55, .long q55), (57, .long q57), (59, .long q59)]) hx hb d_Field_multiply_376 hl (by decide) rfl (fun ls hl => ?_)
      refine lv_lload hx hb d_Field_multiply_378 (lv_at hl 11 rfl) ?_
      refine lv_lload hx hb d_Field_multiply_380 (lv_at hl 8 rfl) ?_
      refine lv_lload hx hb d_Field_multiply_382 (lv_at hl 27 rfl) ?_
      refine lv_lmul hx hb d_Field_multiply_384 ?_
      refine lv_ladd hx hb d_Field_multiply_385 ?_
      refine lv_lload hx hb d_Field_multiply_386 (lv_at hl 7 rfl) ?_
      refine lv_lload hx hb d_Field_multiply_388 (lv_at hl 41 rfl) ?_
      refine lv_lmul hx hb d_Field_multiply_390 ?_
      refine lv_ladd hx hb d_Field_multiply_391 ?_
      refine lv_topl (fun t9 e9 => ?_)
      obtain rfl : t9 = 0 := e9.trans (by simp)
      refine lv_lstore (lv' := [(75, .long 0), (73, .long 0), (71, .long 0), (69, .long 0), (67, .long 0), (65, .long 0), (63, .long 0), (61, .long 0), (90, .long 0), (88, .long xx), (87, .int (nI i)), (77, .long 0), (79, .long 0), (81, .long 0), (83, .long 0), (85, .long 0), (0, .ref o), (1, .ref t), (3, .ref b), (4, .long 0), (6, .long 0), (8, .long 0), (10, .long 0), (12, .long 0), (14, .long 0), (16, .long 0), (18, .long 0), (20, .long 0), (22, .long 0), (24, .long 0), (26, .long 0), (28, .long 0), (30, .long 0), (33, .long q33), (35, .long q35), (37, .long q37), (39, .long q39), (41, .long q41), (43, .long q43), (45, .long q45), (47, .long q47), (49, .long q49), (51, .long q51), (53, .long q53), (55, .long q55), (57, .long q57), (59, .long q59)]) hx hb d_Field_multiply_392 hl (by decide) rfl (fun ls hl => ?_)
      refine lv_lload hx hb d_Field_multiply_394 (lv_at hl 12 rfl) ?_
      refine lv_lload hx hb d_Field_multiply_396 (lv_at hl 9 rfl) ?_
      refine lv_lload hx hb d_Field_multiply_398 (lv_at hl 28 rfl) ?_
      refine lv_lmul hx hb d_Field_multiply_400 ?_
      refine lv_ladd hx hb d_Field_multiply_401 ?_
      refine lv_lload hx hb d_Field_multiply_402 (lv_at hl 8 rfl) ?_
      refine lv_lload hx hb d_Field_multiply_404 (lv_at hl 42 rfl) ?_
      refine lv_lmul hx hb d_Field_multiply_406 ?_
      refine lv_ladd hx hb d_Field_multiply_407 ?_
      refine lv_topl (fun t9 e9 => ?_)
      obtain rfl : t9 = 0 := e9.trans (by simp)
      refine lv_lstore (lv' := [(77, .long 0), (75, .long 0), (73, .long 0), (71, .long 0), (69, .long 0), (67, .long 0), (65, .long 0), (63, .long 0), (61, .long 0), (90, .long 0), (88, .long xx), (87, .int (nI i)), (79, .long 0), (81, .long 0), (83, .long 0), (85, .long 0), (0, .ref o), (1, .ref t), (3, .ref b), (4, .long 0), (6, .long 0), (8, .long 0), (10, .long 0), (12, .long 0), (14, .long 0), (16, .long 0), (18, .long 0), (20, .long 0), (22, .long 0), (24, .long 0), (26, .long 0), (28, .long 0), (30, .long 0), (33, .long q33), (35, .long q35), (37, .long q37), (39, .long q39), (41, .long q41), (43, .long q43), (45, .long q45), (47, .long q47), (49, .long q49), (51, .long q51), (53, .long q53), (55, .long q55), (57, .long q57), (59, .long q59)]) hx hb d_Field_multiply_408 hl (by decide) rfl (fun ls hl => ?_)
      refine lv_lload hx hb d_Field_multiply_410 (lv_at hl 13 rfl) ?_
      refine lv_lload hx hb d_Field_multiply_412 (lv_at hl 10 rfl) ?_
      refine lv_lload hx hb d_Field_multiply_414 (lv_at hl 29 rfl) ?_
      refine lv_lmul hx hb d_Field_multiply_416 ?_
      refine lv_ladd hx hb d_Field_multiply_417 ?_
      refine lv_lload hx hb d_Field_multiply_418 (lv_at hl 9 rfl) ?_
      refine lv_lload hx hb d_Field_multiply_420 (lv_at hl 43 rfl) ?_
      refine lv_lmul hx hb d_Field_multiply_422 ?_
      refine lv_ladd hx hb d_Field_multiply_423 ?_
      refine lv_topl (fun t9 e9 => ?_)
      obtain rfl : t9 = 0 := e9.trans (by simp)
      refine lv_lstore (lv' := [(79, .long 0), (77, .long 0), (75, .long 0), (73, .long 0), (71, .long 0), (69, .long 0), (67, .long 0), (65, .long 0), (63, .long 0), (61, .long 0), (90, .long 0), (88, .long xx), (87, .int (nI i)), (81, .long 0), (83, .long 0), (85, .long 0), (0, .ref o), (1, .ref t), (3, .ref b), (4, .long 0), (6, .long 0), (8, .long 0), (10, .long 0), (12, .long 0), (14, .long 0), (16, .long 0), (18, .long 0), (20, .long 0), (22, .long 0), (24, .long 0), (26, .long 0), (28, .long 0), (30, .long 0), (33, .long q33), (35, .long q35), (37, .long q37), (39, .long q39), (41, .long q41), (43, .long q43), (45, .long q45), (47, .long q47), (49, .long q49), (51, .long q51), (53, .long q53), (55, .long q55), (57, .long q57), (59, .long q59)]) hx hb d_Field_multiply_424 hl (by decide) rfl (fun ls hl => ?_)
      refine lv_lload hx hb d_Field_multiply_426 (lv_at hl 14 rfl) ?_
      refine lv_lload hx hb d_Field_multiply_428 (lv_at hl 11 rfl) ?_
      refine lv_lload hx hb d_Field_multiply_430 (lv_at hl 30 rfl) ?_
      refine lv_lmul hx hb d_Field_multiply_432 ?_
      refine lv_ladd hx hb d_Field_multiply_433 ?_
      refine lv_lload hx hb d_Field_multiply_434 (lv_at hl 10 rfl) ?_
      refine lv_lload hx hb d_Field_multiply_436 (lv_at hl 44 rfl) ?_
      refine lv_lmul hx hb d_Field_multiply_438 ?_
      refine lv_ladd hx hb d_Field_multiply_439 ?_
      refine lv_topl (fun t9 e9 => ?_)
      obtain rfl : t9 = 0 := e9.trans (by simp)
      refine lv_lstore (lv' := [(81, .long 0), (79, .long 0), (77, .long 0), (75, .long 0), (73, .long 0), (71, .long 0), (69, .long 0), (67, .long 0), (65, .long 0), (63, .long 0), (61, .long 0), (90, .long 0), (88, .long xx), (87, .int (nI i)), (83, .long 0), (85, .long 0), (0, .ref o), (1, .ref t), (3, .ref b), (4, .long 0), (6, .long 0), (8, .long 0), (10, .long 0), (12, .long 0), (14, .long 0), (16, .long 0), (18, .long 0), (20, .long 0), (22, .long 0), (24, .long 0), (26, .long 0), (28, .long 0), (30, .long 0), (33, .long q33), (35, .long q35), (37, .long q37), (39, .long q39), (41, .long q41), (43, .long q43), (45, .long q45), (47, .long q47), (49, .long q49), (51, .long q51), (53, .long q53), (55, .long q55), (57, .long q57), (59, .long q59)]) hx hb d_Field_multiply_440 hl (by decide) rfl (fun ls hl => ?_)
      refine lv_lload hx hb d_Field_multiply_442 (lv_at hl 15 rfl) ?_
      refine lv_lload hx hb d_Field_multiply_444 (lv_at hl 12 rfl) ?_
      refine lv_lload hx hb d_Field_multiply_446 (lv_at hl 31 rfl) ?_
      refine lv_lmul hx hb d_Field_multiply_448 ?_
      refine lv_ladd hx hb d_Field_multiply_449 ?_
      refine lv_lload hx hb d_Field_multiply_450 (lv_at hl 11 rfl) ?_
      refine lv_lload hx hb d_Field_multiply_452 (lv_at hl 45 rfl) ?_
      refine lv_lmul hx hb d_Field_multiply_454 ?_
      refine lv_ladd hx hb d_Field_multiply_455 ?_
      refine lv_topl (fun t9 e9 => ?_)
      obtain rfl : t9 = 0 := e9.trans (by simp)
      refine lv_lstore (lv' := [(83, .long 0), (81, .long 0), (79, .long 0), (77, .long 0), (75, .long 0), (73, .long 0), (71, .long 0), (69, .long 0), (67, .long 0), (65, .long 0), (63, .long 0), (61, .long 0), (90, .long 0), (88, .long xx), (87, .int (nI i)), (85, .long 0), (0, .ref o), (1, .ref t), (3, .ref b), (4, .long 0), (6, .long 0), (8, .long 0), (10, .long 0), (12, .long 0), (14, .long 0), (16, .long 0), (18, .long 0), (20, .long 0), (22, .long 0), (24, .long 0), (26, .long 0), (28, .long 0), (30, .long 0), (33, .long q33), (35, .long q35), (37, .long q37), (39, .long q39), (41, .long q41), (43, .long q43), (45, .long q45), (47, .long q47), (49, .long q49), (51, .long q51), (53, .long q53), (55, .long q55), (57, .long q57), (59, .long q59)]) hx hb d_Field_multiply_456 hl (by decide) rfl (fun ls hl => ?_)
      refine lv_lload hx hb d_Field_multiply_458 (lv_at hl 13 rfl) ?_
      refine lv_lload hx hb d_Field_multiply_460 (lv_at hl 32 rfl) ?_
      refine lv_lmul hx hb d_Field_multiply_462 ?_
      refine lv_lload hx hb d_Field_multiply_463 (lv_at hl 12 rfl) ?_
      refine lv_lload hx hb d_Field_multiply_465 (lv_at hl 46 rfl) ?_
      refine lv_lmul hx hb d_Field_multiply_467 ?_
      refine lv_ladd hx hb d_Field_multiply_468 ?_
      refine lv_topl (fun t9 e9 => ?_)
      obtain rfl : t9 = 0 := e9.trans (by simp)
      refine lv_lstore (lv' := [(85, .long 0), (83, .long 0), (81, .long 0), (79, .long 0), (77, .long 0), (75, .long 0), (73, .long 0), (71, .long 0), (69, .long 0), (67, .long 0), (65, .long 0), (63, .long 0), (61, .long 0), (90, .long 0), (88, .long xx), (87, .int (nI i)), (0, .ref o), (1, .ref t), (3, .ref b), (4, .long 0), (6, .long 0), (8, .long 0), (10, .long 0), (12, .long 0), (14, .long 0), (16, .long 0), (18, .long 0), (20, .long 0), (22, .long 0), (24, .long 0), (26, .long 0), (28, .long 0), (30, .long 0), (33, .long q33), (35, .long q35), (37, .long q37), (39, .long q39), (41, .long q41), (43, .long q43), (45, .long q45), (47, .long q47), (49, .long q49), (51, .long q51), (53, .long q53), (55, .long q55), (57, .long q57), (59, .long q59)]) hx hb d_Field_multiply_469 hl (by decide) rfl (fun ls hl => ?_)
      refine lv_iinc (k := 15) (v := nI (i + 1)) (lv' := [(87, .int (nI (i + 1))), (85, .long 0), (83, .long 0), (81, .long 0), (79, .long 0), (77, .long 0), (75, .long 0), (73, .long 0), (71, .long 0), (69, .long 0), (67, .long 0), (65, .long 0), (63, .long 0), (61, .long 0), (90, .long 0), (88, .long xx), (0, .ref o), (1, .ref t), (3, .ref b), (4, .long 0), (6, .long 0), (8, .long 0), (10, .long 0), (12, .long 0), (14, .long 0), (16, .long 0), (18, .long 0), (20, .long 0), (22, .long 0), (24, .long 0), (26, .long 0), (28, .long 0), (30, .long 0), (33, .long q33), (35, .long q35), (37, .long q37), (39, .long q39), (41, .long q41), (43, .long q43), (45, .long q45), (47, .long q47), (49, .long q49), (51, .long q51), (53, .long q53), (55, .long q55), (57, .long q57), (59, .long q59)]) hx hb d_Field_multiply_471 hl rfl (i_inc i) (by decide) rfl (fun ls hl => ?_)
      refine lv_goto (tgt := 218) hx hb d_Field_multiply_474 (by decide) ?_
      have hl : lv_has ls 92 [(87, .int (nI (i + 1))), (61, .long 0), (63, .long 0), (65, .long 0), (67, .long 0), (69, .long 0), (71, .long 0), (73, .long 0), (75, .long 0), (77, .long 0), (79, .long 0), (81, .long 0), (83, .long 0), (85, .long 0), (0, .ref o), (1, .ref t), (3, .ref b), (4, .long 0), (6, .long 0), (8, .long 0), (10, .long 0), (12, .long 0), (14, .long 0), (16, .long 0), (18, .long 0), (20, .long 0), (22, .long 0), (24, .long 0), (26, .long 0), (28, .long 0), (30, .long 0), (33, .long q33), (35, .long q35), (37, .long q37), (39, .long q39), (41, .long q41), (43, .long q43), (45, .long q45), (47, .long q47), (49, .long q49), (51, .long q51), (53, .long q53), (55, .long q55), (57, .long q57), (59, .long q59)] := lv_sub hl [0, 13, 12, 11, 10, 9, 8, 7, 6, 5, 4, 3, 2, 1, 16, 17, 18, 19, 20, 21, 22, 23, 24, 25, 26, 27, 28, 29, 30, 31, 32, 33, 34, 35, 36, 37, 38, 39, 40, 41, 42, 43, 44, 45, 46] rfl
      exact ih (i + 1) ls (by omega) hl
  have hl : lv_has ls 92 [(87, .int (nI 0)), (61, .long 0), (63, .long 0), (65, .long 0), (67, .long 0), (69, .long 0), (71, .long 0), (73, .long 0), (75, .long 0), (77, .long 0), (79, .long 0), (81, .long 0), (83, .long 0), (85, .long 0), (0, .ref o), (1, .ref t), (3, .ref b), (4, .long 0), (6, .long 0), (8, .long 0), (10, .long 0), (12, .long 0), (14, .long 0), (16, .long 0), (18, .long 0), (20, .long 0), (22, .long 0), (24, .long 0), (26, .long 0), (28, .long 0), (30, .long 0), (33, .long q33), (35, .long q35), (37, .long q37), (39, .long q39), (41, .long q41), (43, .long q43), (45, .long q45), (47, .long q47), (49, .long q49), (51, .long q51), (53, .long q53), (55, .long q55), (57, .long q57), (59, .long q59)] := lv_sub hl [0, 13, 12, 11, 10, 9, 8, 7, 6, 5, 4, 3, 2, 1, 43, 44, 46, 42, 41, 40, 39, 38, 37, 36, 35, 34, 33, 32, 31, 30, 29, 27, 26, 25, 24, 23, 22, 21, 20, 19, 18, 17, 16, 15, 14] rfl
  exact loop 14 0 ls rfl hl
