set_option maxHeartbeats 4000000 in
set_option maxRecDepth 100000 in
theorem V_Field_multiply (l : Launch) (g : WG) (n0 : Nat → Prop) (o t a b : Nat) (F : Nat → Nat) (mi : Int64) (fa fb fq : Nat → Int64) (x y Q : Int) (hfa : RV fa x) (hfb : RV fb y) (hfq : RV fq Q) (hxQ : x < Q) (hyQ : y < Q) (htm : F 0 ≠ t) (hmi : ((fq 0).toInt * mi.toInt + 1) % 268435456 = 0) (hQ2 : 2 * Q < 268435456 ^ 14) : Ctr l y_Field_multiply (.code y_Field_multiply prog_3_method_8_code 92 none) 1 24 0 0 n0 g [.ref o, .ref t, .ref a, .ref b] (fun H => FD g n0 H o F mi ∧ (n0 t ∧ ∃ ft, AJ g H t 14 ft) ∧ AJ g H a 14 fa ∧ AJ g H b 14 fb ∧ AJ g H (F 0) 14 fq) (QV (fun H H' => KJ g (fun q => q = t) H H' ∧ ∃ f' v M, AJ g H' t 14 f' ∧ RV f' v ∧ 0 ≤ v ∧ v < Q ∧ 268435456 ^ 14 * v = x * y + M * Q)) := by
  refine ctr_mk l (lv0 := [(0, .ref o), (1, .ref t), (2, .ref a), (3, .ref b)]) (by decide) (Nat.le_of_ble_eq_true rfl) rfl ?_
  intro p e s m below meth c ls E hr hlk hnm hl hP
  have hx := E.1
  have hb := E.2.1
  have hK := E.2.2.2.2.2
  have hF : ∀ q ∈ ([] : List Loc), n0 q.base := fun q hq => absurd hq List.not_mem_nil
  obtain ⟨hfd, ⟨hnt, ft0, hft0⟩, hA, hB, hM⟩ := hP
  have ra := VL_range hfa.1
  have rb := VL_range hfb.1
  have rq := VL_range hfq.1
  rw [hfa.2] at ra
  rw [hfb.2] at rb
  rw [hfq.2] at rq
  refine lv_aload_n hx hb d_Field_multiply_0 rfl (lv_at hl 2 rfl) ?_
  refine lv_iconst (v := nI 0) hx hb d_Field_multiply_1 (by decide) ?_
  refine q_lald (N := 14) (f := fa) E hA 0 rfl (by decide) (by decide) d_Field_multiply_2 ?_
  refine lv_lstore (lv' := [(4, .long (fa 0)), (0, .ref o), (1, .ref t), (2, .ref a), (3, .ref b)]) hx hb d_Field_multiply_3 hl (by decide) rfl (fun ls hl => ?_)
  refine lv_aload_n hx hb d_Field_multiply_5 rfl (lv_at hl 3 rfl) ?_
  refine lv_iconst (v := nI 1) hx hb d_Field_multiply_6 (by decide) ?_
  refine q_lald (N := 14) (f := fa) E hA 1 rfl (by decide) (by decide) d_Field_multiply_7 ?_
  refine lv_lstore (lv' := [(6, .long (fa 1)), (4, .long (fa 0)), (0, .ref o), (1, .ref t), (2, .ref a), (3, .ref b)]) hx hb d_Field_multiply_8 hl (by decide) rfl (fun ls hl => ?_)
  refine lv_aload_n hx hb d_Field_multiply_10 rfl (lv_at hl 4 rfl) ?_
  refine lv_iconst (v := nI 2) hx hb d_Field_multiply_11 (by decide) ?_
  refine q_lald (N := 14) (f := fa) E hA 2 rfl (by decide) (by decide) d_Field_multiply_12 ?_
  refine lv_lstore (lv' := [(8, .long (fa 2)), (6, .long (fa 1)), (4, .long (fa 0)), (0, .ref o), (1, .ref t), (2, .ref a), (3, .ref b)]) hx hb d_Field_multiply_13 hl (by decide) rfl (fun ls hl => ?_)
  refine lv_aload_n hx hb d_Field_multiply_15 rfl (lv_at hl 5 rfl) ?_
  refine lv_iconst (v := nI 3) hx hb d_Field_multiply_16 (by decide) ?_
  refine q_lald (N := 14) (f := fa) E hA 3 rfl (by decide) (by decide) d_Field_multiply_17 ?_
  refine lv_lstore (lv' := [(10, .long (fa 3)), (8, .long (fa 2)), (6, .long (fa 1)), (4, .long (fa 0)), (0, .ref o), (1, .ref t), (2, .ref a), (3, .ref b)]) hx hb d_Field_multiply_18 hl (by decide) rfl (fun ls hl => ?_)
  refine lv_aload_n hx hb d_Field_multiply_20 rfl (lv_at hl 6 rfl) ?_
  refine lv_iconst (v := nI 4) hx hb d_Field_multiply_21 (by decide) ?_
  refine q_lald (N := 14) (f := fa) E hA 4 rfl (by decide) (by decide) d_Field_multiply_22 ?_
  refine lv_lstore (lv' := [(12, .long (fa 4)), (10, .long (fa 3)), (8, .long (fa 2)), (6, .long (fa 1)), (4, .long (fa 0)), (0, .ref o), (1, .ref t), (2, .ref a), (3, .ref b)]) hx hb d_Field_multiply_23 hl (by decide) rfl (fun ls hl => ?_)
  refine lv_aload_n hx hb d_Field_multiply_25 rfl (lv_at hl 7 rfl) ?_
  refine lv_iconst (v := nI 5) hx hb d_Field_multiply_26 (by decide) ?_
  refine q_lald (N := 14) (f := fa) E hA 5 rfl (by decide) (by decide) d_Field_multiply_27 ?_
  refine lv_lstore (lv' := [(14, .long (fa 5)), (12, .long (fa 4)), (10, .long (fa 3)), (8, .long (fa 2)), (6, .long (fa 1)), (4, .long (fa 0)), (0, .ref o), (1, .ref t), (2, .ref a), (3, .ref b)]) hx hb d_Field_multiply_28 hl (by decide) rfl (fun ls hl => ?_)
  refine lv_aload_n hx hb d_Field_multiply_30 rfl (lv_at hl 8 rfl) ?_
  refine lv_bipush (v := nI 6) hx hb d_Field_multiply_31 (by decide) ?_
  refine q_lald (N := 14) (f := fa) E hA 6 rfl (by decide) (by decide) d_Field_multiply_33 ?_
  refine lv_lstore (lv' := [(16, .long (fa 6)), (14, .long (fa 5)), (12, .long (fa 4)), (10, .long (fa 3)), (8, .long (fa 2)), (6, .long (fa 1)), (4, .long (fa 0)), (0, .ref o), (1, .ref t), (2, .ref a), (3, .ref b)]) hx hb d_Field_multiply_34 hl (by decide) rfl (fun ls hl => ?_)
  refine lv_aload_n hx hb d_Field_multiply_36 rfl (lv_at hl 9 rfl) ?_
  refine lv_bipush (v := nI 7) hx hb d_Field_multiply_37 (by decide) ?_
  refine q_lald (N := 14) (f := fa) E hA 7 rfl (by decide) (by decide) d_Field_multiply_39 ?_
  refine lv_lstore (lv' := [(18, .long (fa 7)), (16, .long (fa 6)), (14, .long (fa 5)), (12, .long (fa 4)), (10, .long (fa 3)), (8, .long (fa 2)), (6, .long (fa 1)), (4, .long (fa 0)), (0, .ref o), (1, .ref t), (2, .ref a), (3, .ref b)]) hx hb d_Field_multiply_40 hl (by decide) rfl (fun ls hl => ?_)
  refine lv_aload_n hx hb d_Field_multiply_42 rfl (lv_at hl 10 rfl) ?_
  refine lv_bipush (v := nI 8) hx hb d_Field_multiply_43 (by decide) ?_
  refine q_lald (N := 14) (f := fa) E hA 8 rfl (by decide) (by decide) d_Field_multiply_45 ?_
  refine lv_lstore (lv' := [(20, .long (fa 8)), (18, .long (fa 7)), (16, .long (fa 6)), (14, .long (fa 5)), (12, .long (fa 4)), (10, .long (fa 3)), (8, .long (fa 2)), (6, .long (fa 1)), (4, .long (fa 0)), (0, .ref o), (1, .ref t), (2, .ref a), (3, .ref b)]) hx hb d_Field_multiply_46 hl (by decide) rfl (fun ls hl => ?_)
  refine lv_aload_n hx hb d_Field_multiply_48 rfl (lv_at hl 11 rfl) ?_
  refine lv_bipush (v := nI 9) hx hb d_Field_multiply_49 (by decide) ?_
  refine q_lald (N := 14) (f := fa) E hA 9 rfl (by decide) (by decide) d_Field_multiply_51 ?_
  refine lv_lstore (lv' := [(22, .long (fa 9)), (20, .long (fa 8)), (18, .long (fa 7)), (16, .long (fa 6)), (14, .long (fa 5)), (12, .long (fa 4)), (10, .long (fa 3)), (8, .long (fa 2)), (6, .long (fa 1)), (4, .long (fa 0)), (0, .ref o), (1, .ref t), (2, .ref a), (3, .ref b)]) hx hb d_Field_multiply_52 hl (by decide) rfl (fun ls hl => ?_)
  refine lv_aload_n hx hb d_Field_multiply_54 rfl (lv_at hl 12 rfl) ?_
  refine lv_bipush (v := nI 10) hx hb d_Field_multiply_55 (by decide) ?_
  refine q_lald (N := 14) (f := fa) E hA 10 rfl (by decide) (by decide) d_Field_multiply_57 ?_
  refine lv_lstore (lv' := [(24, .long (fa 10)), (22, .long (fa 9)), (20, .long (fa 8)), (18, .long (fa 7)), (16, .long (fa 6)), (14, .long (fa 5)), (12, .long (fa 4)), (10, .long (fa 3)), (8, .long (fa 2)), (6, .long (fa 1)), (4, .long (fa 0)), (0, .ref o), (1, .ref t), (2, .ref a), (3, .ref b)]) hx hb d_Field_multiply_58 hl (by decide) rfl (fun ls hl => ?_)
  refine lv_aload_n hx hb d_Field_multiply_60 rfl (lv_at hl 13 rfl) ?_
  refine lv_bipush (v := nI 11) hx hb d_Field_multiply_61 (by decide) ?_
  refine q_lald (N := 14) (f := fa) E hA 11 rfl (by decide) (by decide) d_Field_multiply_63 ?_
  refine lv_lstore (lv' := [(26, .long (fa 11)), (24, .long (fa 10)), (22, .long (fa 9)), (20, .long (fa 8)), (18, .long (fa 7)), (16, .long (fa 6)), (14, .long (fa 5)), (12, .long (fa 4)), (10, .long (fa 3)), (8, .long (fa 2)), (6, .long (fa 1)), (4, .long (fa 0)), (0, .ref o), (1, .ref t), (2, .ref a), (3, .ref b)]) hx hb d_Field_multiply_64 hl (by decide) rfl (fun ls hl => ?_)
  refine lv_aload_n hx hb d_Field_multiply_66 rfl (lv_at hl 14 rfl) ?_
  refine lv_bipush (v := nI 12) hx hb d_Field_multiply_67 (by decide) ?_
  refine q_lald (N := 14) (f := fa) E hA 12 rfl (by decide) (by decide) d_Field_multiply_69 ?_
  refine lv_lstore (lv' := [(28, .long (fa 12)), (26, .long (fa 11)), (24, .long (fa 10)), (22, .long (fa 9)), (20, .long (fa 8)), (18, .long (fa 7)), (16, .long (fa 6)), (14, .long (fa 5)), (12, .long (fa 4)), (10, .long (fa 3)), (8, .long (fa 2)), (6, .long (fa 1)), (4, .long (fa 0)), (0, .ref o), (1, .ref t), (2, .ref a), (3, .ref b)]) hx hb d_Field_multiply_70 hl (by decide) rfl (fun ls hl => ?_)
  refine lv_aload_n hx hb d_Field_multiply_72 rfl (lv_at hl 15 rfl) ?_
  refine lv_bipush (v := nI 13) hx hb d_Field_multiply_73 (by decide) ?_
  refine q_lald (N := 14) (f := fa) E hA 13 rfl (by decide) (by decide) d_Field_multiply_75 ?_
  refine lv_lstore (lv' := [(30, .long (fa 13)), (28, .long (fa 12)), (26, .long (fa 11)), (24, .long (fa 10)), (22, .long (fa 9)), (20, .long (fa 8)), (18, .long (fa 7)), (16, .long (fa 6)), (14, .long (fa 5)), (12, .long (fa 4)), (10, .long (fa 3)), (8, .long (fa 2)), (6, .long (fa 1)), (4, .long (fa 0)), (0, .ref o), (1, .ref t), (2, .ref a), (3, .ref b)]) hx hb d_Field_multiply_76 hl (by decide) rfl (fun ls hl => ?_)
  refine lv_aload_n hx hb d_Field_multiply_78 rfl (lv_at hl 14 rfl) ?_
  refine q_get (C := "KateDesk$Field") (T := T_Field) (N := 7) (ci := 1) E hfd.1 in_Field rfl 0 (by decide) w_170 rfl rfl d_Field_multiply_79 ?_
  refine lv_astore (lv' := [(32, .ref (F 0)), (30, .long (fa 13)), (28, .long (fa 12)), (26, .long (fa 11)), (24, .long (fa 10)), (22, .long (fa 9)), (20, .long (fa 8)), (18, .long (fa 7)), (16, .long (fa 6)), (14, .long (fa 5)), (12, .long (fa 4)), (10, .long (fa 3)), (8, .long (fa 2)), (6, .long (fa 1)), (4, .long (fa 0)), (0, .ref o), (1, .ref t), (2, .ref a), (3, .ref b)]) hx hb d_Field_multiply_82 hl (by decide) rfl (fun ls hl => ?_)
  refine lv_aload hx hb d_Field_multiply_84 (lv_at hl 0 rfl) ?_
  refine lv_iconst (v := nI 0) hx hb d_Field_multiply_86 (by decide) ?_
  refine q_lald (N := 14) (f := fq) E hM 0 rfl (by decide) (by decide) d_Field_multiply_87 ?_
  refine lv_lstore (lv' := [(33, .long (fq 0)), (32, .ref (F 0)), (30, .long (fa 13)), (28, .long (fa 12)), (26, .long (fa 11)), (24, .long (fa 10)), (22, .long (fa 9)), (20, .long (fa 8)), (18, .long (fa 7)), (16, .long (fa 6)), (14, .long (fa 5)), (12, .long (fa 4)), (10, .long (fa 3)), (8, .long (fa 2)), (6, .long (fa 1)), (4, .long (fa 0)), (0, .ref o), (1, .ref t), (2, .ref a), (3, .ref b)]) hx hb d_Field_multiply_88 hl (by decide) rfl (fun ls hl => ?_)
  refine lv_aload hx hb d_Field_multiply_90 (lv_at hl 1 rfl) ?_
  refine lv_iconst (v := nI 1) hx hb d_Field_multiply_92 (by decide) ?_
  refine q_lald (N := 14) (f := fq) E hM 1 rfl (by decide) (by decide) d_Field_multiply_93 ?_
  refine lv_lstore (lv' := [(35, .long (fq 1)), (33, .long (fq 0)), (32, .ref (F 0)), (30, .long (fa 13)), (28, .long (fa 12)), (26, .long (fa 11)), (24, .long (fa 10)), (22, .long (fa 9)), (20, .long (fa 8)), (18, .long (fa 7)), (16, .long (fa 6)), (14, .long (fa 5)), (12, .long (fa 4)), (10, .long (fa 3)), (8, .long (fa 2)), (6, .long (fa 1)), (4, .long (fa 0)), (0, .ref o), (1, .ref t), (2, .ref a), (3, .ref b)]) hx hb d_Field_multiply_94 hl (by decide) rfl (fun ls hl => ?_)
  refine lv_aload hx hb d_Field_multiply_96 (lv_at hl 2 rfl) ?_
  refine lv_iconst (v := nI 2) hx hb d_Field_multiply_98 (by decide) ?_
  refine q_lald (N := 14) (f := fq) E hM 2 rfl (by decide) (by decide) d_Field_multiply_99 ?_
  refine lv_lstore (lv' := [(37, .long (fq 2)), (35, .long (fq 1)), (33, .long (fq 0)), (32, .ref (F 0)), (30, .long (fa 13)), (28, .long (fa 12)), (26, .long (fa 11)), (24, .long (fa 10)), (22, .long (fa 9)), (20, .long (fa 8)), (18, .long (fa 7)), (16, .long (fa 6)), (14, .long (fa 5)), (12, .long (fa 4)), (10, .long (fa 3)), (8, .long (fa 2)), (6, .long (fa 1)), (4, .long (fa 0)), (0, .ref o), (1, .ref t), (2, .ref a), (3, .ref b)]) hx hb d_Field_multiply_100 hl (by decide) rfl (fun ls hl => ?_)
  refine lv_aload hx hb d_Field_multiply_102 (lv_at hl 3 rfl) ?_
  refine lv_iconst (v := nI 3) hx hb d_Field_multiply_104 (by decide) ?_
  refine q_lald (N := 14) (f := fq) E hM 3 rfl (by decide) (by decide) d_Field_multiply_105 ?_
  refine lv_lstore (lv' := [(39, .long (fq 3)), (37, .long (fq 2)), (35, .long (fq 1)), (33, .long (fq 0)), (32, .ref (F 0)), (30, .long (fa 13)), (28, .long (fa 12)), (26, .long (fa 11)), (24, .long (fa 10)), (22, .long (fa 9)), (20, .long (fa 8)), (18, .long (fa 7)), (16, .long (fa 6)), (14, .long (fa 5)), (12, .long (fa 4)), (10, .long (fa 3)), (8, .long (fa 2)), (6, .long (fa 1)), (4, .long (fa 0)), (0, .ref o), (1, .ref t), (2, .ref a), (3, .ref b)]) hx hb d_Field_multiply_106 hl (by decide) rfl (fun ls hl => ?_)
  refine lv_aload hx hb d_Field_multiply_108 (lv_at hl 4 rfl) ?_
  refine lv_iconst (v := nI 4) hx hb d_Field_multiply_110 (by decide) ?_
  refine q_lald (N := 14) (f := fq) E hM 4 rfl (by decide) (by decide) d_Field_multiply_111 ?_
  refine lv_lstore (lv' := [(41, .long (fq 4)), (39, .long (fq 3)), (37, .long (fq 2)), (35, .long (fq 1)), (33, .long (fq 0)), (32, .ref (F 0)), (30, .long (fa 13)), (28, .long (fa 12)), (26, .long (fa 11)), (24, .long (fa 10)), (22, .long (fa 9)), (20, .long (fa 8)), (18, .long (fa 7)), (16, .long (fa 6)), (14, .long (fa 5)), (12, .long (fa 4)), (10, .long (fa 3)), (8, .long (fa 2)), (6, .long (fa 1)), (4, .long (fa 0)), (0, .ref o), (1, .ref t), (2, .ref a), (3, .ref b)]) hx hb d_Field_multiply_112 hl (by decide) rfl (fun ls hl => ?_)
  refine lv_aload hx hb d_Field_multiply_114 (lv_at hl 5 rfl) ?_
  refine lv_iconst (v := nI 5) hx hb d_Field_multiply_116 (by decide) ?_
  refine q_lald (N := 14) (f := fq) E hM 5 rfl (by decide) (by decide) d_Field_multiply_117 ?_
  refine lv_lstore (lv' := [(43, .long (fq 5)), (41, .long (fq 4)), (39, .long (fq 3)), (37, .long (fq 2)), (35, .long (fq 1)), (33, .long (fq 0)), (32, .ref (F 0)), (30, .long (fa 13)), (28, .long (fa 12)), (26, .long (fa 11)), (24, .long (fa 10)), (22, .long (fa 9)), (20, .long (fa 8)), (18, .long (fa 7)), (16, .long (fa 6)), (14, .long (fa 5)), (12, .long (fa 4)), (10, .long (fa 3)), (8, .long (fa 2)), (6, .long (fa 1)), (4, .long (fa 0)), (0, .ref o), (1, .ref t), (2, .ref a), (3, .ref b)]) hx hb d_Field_multiply_118 hl (by decide) rfl (fun ls hl => ?_)
  refine lv_aload hx hb d_Field_multiply_120 (lv_at hl 6 rfl) ?_
  refine lv_bipush (v := nI 6) hx hb d_Field_multiply_122 (by decide) ?_
  refine q_lald (N := 14) (f := fq) E hM 6 rfl (by decide) (by decide) d_Field_multiply_124 ?_
  refine lv_lstore (lv' := [(45, .long (fq 6)), (43, .long (fq 5)), (41, .long (fq 4)), (39, .long (fq 3)), (37, .long (fq 2)), (35, .long (fq 1)), (33, .long (fq 0)), (32, .ref (F 0)), (30, .long (fa 13)), (28, .long (fa 12)), (26, .long (fa 11)), (24, .long (fa 10)), (22, .long (fa 9)), (20, .long (fa 8)), (18, .long (fa 7)), (16, .long (fa 6)), (14, .long (fa 5)), (12, .long (fa 4)), (10, .long (fa 3)), (8, .long (fa 2)), (6, .long (fa 1)), (4, .long (fa 0)), (0, .ref o), (1, .ref t), (2, .ref a), (3, .ref b)]) hx hb d_Field_multiply_125 hl (by decide) rfl (fun ls hl => ?_)
  refine lv_aload hx hb d_Field_multiply_127 (lv_at hl 7 rfl) ?_
  refine lv_bipush (v := nI 7) hx hb d_Field_multiply_129 (by decide) ?_
  refine q_lald (N := 14) (f := fq) E hM 7 rfl (by decide) (by decide) d_Field_multiply_131 ?_
  refine lv_lstore (lv' := [(47, .long (fq 7)), (45, .long (fq 6)), (43, .long (fq 5)), (41, .long (fq 4)), (39, .long (fq 3)), (37, .long (fq 2)), (35, .long (fq 1)), (33, .long (fq 0)), (32, .ref (F 0)), (30, .long (fa 13)), (28, .long (fa 12)), (26, .long (fa 11)), (24, .long (fa 10)), (22, .long (fa 9)), (20, .long (fa 8)), (18, .long (fa 7)), (16, .long (fa 6)), (14, .long (fa 5)), (12, .long (fa 4)), (10, .long (fa 3)), (8, .long (fa 2)), (6, .long (fa 1)), (4, .long (fa 0)), (0, .ref o), (1, .ref t), (2, .ref a), (3, .ref b)]) hx hb d_Field_multiply_132 hl (by decide) rfl (fun ls hl => ?_)
  refine lv_aload hx hb d_Field_multiply_134 (lv_at hl 8 rfl) ?_
  refine lv_bipush (v := nI 8) hx hb d_Field_multiply_136 (by decide) ?_
  refine q_lald (N := 14) (f := fq) E hM 8 rfl (by decide) (by decide) d_Field_multiply_138 ?_
  refine lv_lstore (lv' := [(49, .long (fq 8)), (47, .long (fq 7)), (45, .long (fq 6)), (43, .long (fq 5)), (41, .long (fq 4)), (39, .long (fq 3)), (37, .long (fq 2)), (35, .long (fq 1)), (33, .long (fq 0)), (32, .ref (F 0)), (30, .long (fa 13)), (28, .long (fa 12)), (26, .long (fa 11)), (24, .long (fa 10)), (22, .long (fa 9)), (20, .long (fa 8)), (18, .long (fa 7)), (16, .long (fa 6)), (14, .long (fa 5)), (12, .long (fa 4)), (10, .long (fa 3)), (8, .long (fa 2)), (6, .long (fa 1)), (4, .long (fa 0)), (0, .ref o), (1, .ref t), (2, .ref a), (3, .ref b)]) hx hb d_Field_multiply_139 hl (by decide) rfl (fun ls hl => ?_)
  refine lv_aload hx hb d_Field_multiply_141 (lv_at hl 9 rfl) ?_
  refine lv_bipush (v := nI 9) hx hb d_Field_multiply_143 (by decide) ?_
  refine q_lald (N := 14) (f := fq) E hM 9 rfl (by decide) (by decide) d_Field_multiply_145 ?_
  refine lv_lstore (lv' := [(51, .long (fq 9)), (49, .long (fq 8)), (47, .long (fq 7)), (45, .long (fq 6)), (43, .long (fq 5)), (41, .long (fq 4)), (39, .long (fq 3)), (37, .long (fq 2)), (35, .long (fq 1)), (33, .long (fq 0)), (32, .ref (F 0)), (30, .long (fa 13)), (28, .long (fa 12)), (26, .long (fa 11)), (24, .long (fa 10)), (22, .long (fa 9)), (20, .long (fa 8)), (18, .long (fa 7)), (16, .long (fa 6)), (14, .long (fa 5)), (12, .long (fa 4)), (10, .long (fa 3)), (8, .long (fa 2)), (6, .long (fa 1)), (4, .long (fa 0)), (0, .ref o), (1, .ref t), (2, .ref a), (3, .ref b)]) hx hb d_Field_multiply_146 hl (by decide) rfl (fun ls hl => ?_)
  refine lv_aload hx hb d_Field_multiply_148 (lv_at hl 10 rfl) ?_
  refine lv_bipush (v := nI 10) hx hb d_Field_multiply_150 (by decide) ?_
  refine q_lald (N := 14) (f := fq) E hM 10 rfl (by decide) (by decide) d_Field_multiply_152 ?_
  refine lv_lstore (lv' := [(53, .long (fq 10)), (51, .long (fq 9)), (49, .long (fq 8)), (47, .long (fq 7)), (45, .long (fq 6)), (43, .long (fq 5)), (41, .long (fq 4)), (39, .long (fq 3)), (37, .long (fq 2)), (35, .long (fq 1)), (33, .long (fq 0)), (32, .ref (F 0)), (30, .long (fa 13)), (28, .long (fa 12)), (26, .long (fa 11)), (24, .long (fa 10)), (22, .long (fa 9)), (20, .long (fa 8)), (18, .long (fa 7)), (16, .long (fa 6)), (14, .long (fa 5)), (12, .long (fa 4)), (10, .long (fa 3)), (8, .long (fa 2)), (6, .long (fa 1)), (4, .long (fa 0)), (0, .ref o), (1, .ref t), (2, .ref a), (3, .ref b)]) hx hb d_Field_multiply_153 hl (by decide) rfl (fun ls hl => ?_)
  refine lv_aload hx hb d_Field_multiply_155 (lv_at hl 11 rfl) ?_
  refine lv_bipush (v := nI 11) hx hb d_Field_multiply_157 (by decide) ?_
  refine q_lald (N := 14) (f := fq) E hM 11 rfl (by decide) (by decide) d_Field_multiply_159 ?_
  refine lv_lstore (lv' := [(55, .long (fq 11)), (53, .long (fq 10)), (51, .long (fq 9)), (49, .long (fq 8)), (47, .long (fq 7)), (45, .long (fq 6)), (43, .long (fq 5)), (41, .long (fq 4)), (39, .long (fq 3)), (37, .long (fq 2)), (35, .long (fq 1)), (33, .long (fq 0)), (32, .ref (F 0)), (30, .long (fa 13)), (28, .long (fa 12)), (26, .long (fa 11)), (24, .long (fa 10)), (22, .long (fa 9)), (20, .long (fa 8)), (18, .long (fa 7)), (16, .long (fa 6)), (14, .long (fa 5)), (12, .long (fa 4)), (10, .long (fa 3)), (8, .long (fa 2)), (6, .long (fa 1)), (4, .long (fa 0)), (0, .ref o), (1, .ref t), (2, .ref a), (3, .ref b)]) hx hb d_Field_multiply_160 hl (by decide) rfl (fun ls hl => ?_)
  refine lv_aload hx hb d_Field_multiply_162 (lv_at hl 12 rfl) ?_
  refine lv_bipush (v := nI 12) hx hb d_Field_multiply_164 (by decide) ?_
  refine q_lald (N := 14) (f := fq) E hM 12 rfl (by decide) (by decide) d_Field_multiply_166 ?_
  refine lv_lstore (lv' := [(57, .long (fq 12)), (55, .long (fq 11)), (53, .long (fq 10)), (51, .long (fq 9)), (49, .long (fq 8)), (47, .long (fq 7)), (45, .long (fq 6)), (43, .long (fq 5)), (41, .long (fq 4)), (39, .long (fq 3)), (37, .long (fq 2)), (35, .long (fq 1)), (33, .long (fq 0)), (32, .ref (F 0)), (30, .long (fa 13)), (28, .long (fa 12)), (26, .long (fa 11)), (24, .long (fa 10)), (22, .long (fa 9)), (20, .long (fa 8)), (18, .long (fa 7)), (16, .long (fa 6)), (14, .long (fa 5)), (12, .long (fa 4)), (10, .long (fa 3)), (8, .long (fa 2)), (6, .long (fa 1)), (4, .long (fa 0)), (0, .ref o), (1, .ref t), (2, .ref a), (3, .ref b)]) hx hb d_Field_multiply_167 hl (by decide) rfl (fun ls hl => ?_)
  refine lv_aload hx hb d_Field_multiply_169 (lv_at hl 13 rfl) ?_
  refine lv_bipush (v := nI 13) hx hb d_Field_multiply_171 (by decide) ?_
  refine q_lald (N := 14) (f := fq) E hM 13 rfl (by decide) (by decide) d_Field_multiply_173 ?_
  refine lv_lstore (lv' := [(59, .long (fq 13)), (57, .long (fq 12)), (55, .long (fq 11)), (53, .long (fq 10)), (51, .long (fq 9)), (49, .long (fq 8)), (47, .long (fq 7)), (45, .long (fq 6)), (43, .long (fq 5)), (41, .long (fq 4)), (39, .long (fq 3)), (37, .long (fq 2)), (35, .long (fq 1)), (33, .long (fq 0)), (32, .ref (F 0)), (30, .long (fa 13)), (28, .long (fa 12)), (26, .long (fa 11)), (24, .long (fa 10)), (22, .long (fa 9)), (20, .long (fa 8)), (18, .long (fa 7)), (16, .long (fa 6)), (14, .long (fa 5)), (12, .long (fa 4)), (10, .long (fa 3)), (8, .long (fa 2)), (6, .long (fa 1)), (4, .long (fa 0)), (0, .ref o), (1, .ref t), (2, .ref a), (3, .ref b)]) hx hb d_Field_multiply_174 hl (by decide) rfl (fun ls hl => ?_)
  refine lv_lconst (v := 0) hx hb d_Field_multiply_176 (by decide) ?_
  refine lv_lstore (lv' := [(61, .long 0), (59, .long (fq 13)), (57, .long (fq 12)), (55, .long (fq 11)), (53, .long (fq 10)), (51, .long (fq 9)), (49, .long (fq 8)), (47, .long (fq 7)), (45, .long (fq 6)), (43, .long (fq 5)), (41, .long (fq 4)), (39, .long (fq 3)), (37, .long (fq 2)), (35, .long (fq 1)), (33, .long (fq 0)), (32, .ref (F 0)), (30, .long (fa 13)), (28, .long (fa 12)), (26, .long (fa 11)), (24, .long (fa 10)), (22, .long (fa 9)), (20, .long (fa 8)), (18, .long (fa 7)), (16, .long (fa 6)), (14, .long (fa 5)), (12, .long (fa 4)), (10, .long (fa 3)), (8, .long (fa 2)), (6, .long (fa 1)), (4, .long (fa 0)), (0, .ref o), (1, .ref t), (2, .ref a), (3, .ref b)]) hx hb d_Field_multiply_177 hl (by decide) rfl (fun ls hl => ?_)
  refine lv_lconst (v := 0) hx hb d_Field_multiply_179 (by decide) ?_
  refine lv_lstore (lv' := [(63, .long 0), (61, .long 0), (59, .long (fq 13)), (57, .long (fq 12)), (55, .long (fq 11)), (53, .long (fq 10)), (51, .long (fq 9)), (49, .long (fq 8)), (47, .long (fq 7)), (45, .long (fq 6)), (43, .long (fq 5)), (41, .long (fq 4)), (39, .long (fq 3)), (37, .long (fq 2)), (35, .long (fq 1)), (33, .long (fq 0)), (32, .ref (F 0)), (30, .long (fa 13)), (28, .long (fa 12)), (26, .long (fa 11)), (24, .long (fa 10)), (22, .long (fa 9)), (20, .long (fa 8)), (18, .long (fa 7)), (16, .long (fa 6)), (14, .long (fa 5)), (12, .long (fa 4)), (10, .long (fa 3)), (8, .long (fa 2)), (6, .long (fa 1)), (4, .long (fa 0)), (0, .ref o), (1, .ref t), (2, .ref a), (3, .ref b)]) hx hb d_Field_multiply_180 hl (by decide) rfl (fun ls hl => ?_)
  refine lv_lconst (v := 0) hx hb d_Field_multiply_182 (by decide) ?_
  refine lv_lstore (lv' := [(65, .long 0), (63, .long 0), (61, .long 0), (59, .long (fq 13)), (57, .long (fq 12)), (55, .long (fq 11)), (53, .long (fq 10)), (51, .long (fq 9)), (49, .long (fq 8)), (47, .long (fq 7)), (45, .long (fq 6)), (43, .long (fq 5)), (41, .long (fq 4)), (39, .long (fq 3)), (37, .long (fq 2)), (35, .long (fq 1)), (33, .long (fq 0)), (32, .ref (F 0)), (30, .long (fa 13)), (28, .long (fa 12)), (26, .long (fa 11)), (24, .long (fa 10)), (22, .long (fa 9)), (20, .long (fa 8)), (18, .long (fa 7)), (16, .long (fa 6)), (14, .long (fa 5)), (12, .long (fa 4)), (10, .long (fa 3)), (8, .long (fa 2)), (6, .long (fa 1)), (4, .long (fa 0)), (0, .ref o), (1, .ref t), (2, .ref a), (3, .ref b)]) hx hb d_Field_multiply_183 hl (by decide) rfl (fun ls hl => ?_)
  refine lv_lconst (v := 0) hx hb d_Field_multiply_185 (by decide) ?_
  refine lv_lstore (lv' := [(67, .long 0), (65, .long 0), (63, .long 0), (61, .long 0), (59, .long (fq 13)), (57, .long (fq 12)), (55, .long (fq 11)), (53, .long (fq 10)), (51, .long (fq 9)), (49, .long (fq 8)), (47, .long (fq 7)), (45, .long (fq 6)), (43, .long (fq 5)), (41, .long (fq 4)), (39, .long (fq 3)), (37, .long (fq 2)), (35, .long (fq 1)), (33, .long (fq 0)), (32, .ref (F 0)), (30, .long (fa 13)), (28, .long (fa 12)), (26, .long (fa 11)), (24, .long (fa 10)), (22, .long (fa 9)), (20, .long (fa 8)), (18, .long (fa 7)), (16, .long (fa 6)), (14, .long (fa 5)), (12, .long (fa 4)), (10, .long (fa 3)), (8, .long (fa 2)), (6, .long (fa 1)), (4, .long (fa 0)), (0, .ref o), (1, .ref t), (2, .ref a), (3, .ref b)]) hx hb d_Field_multiply_186 hl (by decide) rfl (fun ls hl => ?_)
  refine lv_lconst (v := 0) hx hb d_Field_multiply_188 (by decide) ?_
  refine lv_lstore (lv' := [(69, .long 0), (67, .long 0), (65, .long 0), (63, .long 0), (61, .long 0), (59, .long (fq 13)), (57, .long (fq 12)), (55, .long (fq 11)), (53, .long (fq 10)), (51, .long (fq 9)), (49, .long (fq 8)), (47, .long (fq 7)), (45, .long (fq 6)), (43, .long (fq 5)), (41, .long (fq 4)), (39, .long (fq 3)), (37, .long (fq 2)), (35, .long (fq 1)), (33, .long (fq 0)), (32, .ref (F 0)), (30, .long (fa 13)), (28, .long (fa 12)), (26, .long (fa 11)), (24, .long (fa 10)), (22, .long (fa 9)), (20, .long (fa 8)), (18, .long (fa 7)), (16, .long (fa 6)), (14, .long (fa 5)), (12, .long (fa 4)), (10, .long (fa 3)), (8, .long (fa 2)), (6, .long (fa 1)), (4, .long (fa 0)), (0, .ref o), (1, .ref t), (2, .ref a), (3, .ref b)]) hx hb d_Field_multiply_189 hl (by decide) rfl (fun ls hl => ?_)
  refine lv_lconst (v := 0) hx hb d_Field_multiply_191 (by decide) ?_
  refine lv_lstore (lv' := [(71, .long 0), (69, .long 0), (67, .long 0), (65, .long 0), (63, .long 0), (61, .long 0), (59, .long (fq 13)), (57, .long (fq 12)), (55, .long (fq 11)), (53, .long (fq 10)), (51, .long (fq 9)), (49, .long (fq 8)), (47, .long (fq 7)), (45, .long (fq 6)), (43, .long (fq 5)), (41, .long (fq 4)), (39, .long (fq 3)), (37, .long (fq 2)), (35, .long (fq 1)), (33, .long (fq 0)), (32, .ref (F 0)), (30, .long (fa 13)), (28, .long (fa 12)), (26, .long (fa 11)), (24, .long (fa 10)), (22, .long (fa 9)), (20, .long (fa 8)), (18, .long (fa 7)), (16, .long (fa 6)), (14, .long (fa 5)), (12, .long (fa 4)), (10, .long (fa 3)), (8, .long (fa 2)), (6, .long (fa 1)), (4, .long (fa 0)), (0, .ref o), (1, .ref t), (2, .ref a), (3, .ref b)]) hx hb d_Field_multiply_192 hl (by decide) rfl (fun ls hl => ?_)
  refine lv_lconst (v := 0) hx hb d_Field_multiply_194 (by decide) ?_
  refine lv_lstore (lv' := [(73, .long 0), (71, .long 0), (69, .long 0), (67, .long 0), (65, .long 0), (63, .long 0), (61, .long 0), (59, .long (fq 13)), (57, .long (fq 12)), (55, .long (fq 11)), (53, .long (fq 10)), (51, .long (fq 9)), (49, .long (fq 8)), (47, .long (fq 7)), (45, .long (fq 6)), (43, .long (fq 5)), (41, .long (fq 4)), (39, .long (fq 3)), (37, .long (fq 2)), (35, .long (fq 1)), (33, .long (fq 0)), (32, .ref (F 0)), (30, .long (fa 13)), (28, .long (fa 12)), (26, .long (fa 11)), (24, .long (fa 10)), (22, .long (fa 9)), (20, .long (fa 8)), (18, .long (fa 7)), (16, .long (fa 6)), (14, .long (fa 5)), (12, .long (fa 4)), (10, .long (fa 3)), (8, .long (fa 2)), (6, .long (fa 1)), (4, .long (fa 0)), (0, .ref o), (1, .ref t), (2, .ref a), (3, .ref b)]) hx hb d_Field_multiply_195 hl (by decide) rfl (fun ls hl => ?_)
  refine lv_lconst (v := 0) hx hb d_Field_multiply_197 (by decide) ?_
  refine lv_lstore (lv' := [(75, .long 0), (73, .long 0), (71, .long 0), (69, .long 0), (67, .long 0), (65, .long 0), (63, .long 0), (61, .long 0), (59, .long (fq 13)), (57, .long (fq 12)), (55, .long (fq 11)), (53, .long (fq 10)), (51, .long (fq 9)), (49, .long (fq 8)), (47, .long (fq 7)), (45, .long (fq 6)), (43, .long (fq 5)), (41, .long (fq 4)), (39, .long (fq 3)), (37, .long (fq 2)), (35, .long (fq 1)), (33, .long (fq 0)), (32, .ref (F 0)), (30, .long (fa 13)), (28, .long (fa 12)), (26, .long (fa 11)), (24, .long (fa 10)), (22, .long (fa 9)), (20, .long (fa 8)), (18, .long (fa 7)), (16, .long (fa 6)), (14, .long (fa 5)), (12, .long (fa 4)), (10, .long (fa 3)), (8, .long (fa 2)), (6, .long (fa 1)), (4, .long (fa 0)), (0, .ref o), (1, .ref t), (2, .ref a), (3, .ref b)]) hx hb d_Field_multiply_198 hl (by decide) rfl (fun ls hl => ?_)
  refine lv_lconst (v := 0) hx hb d_Field_multiply_200 (by decide) ?_
  refine lv_lstore (lv' := [(77, .long 0), (75, .long 0), (73, .long 0), (71, .long 0), (69, .long 0), (67, .long 0), (65, .long 0), (63, .long 0), (61, .long 0), (59, .long (fq 13)), (57, .long (fq 12)), (55, .long (fq 11)), (53, .long (fq 10)), (51, .long (fq 9)), (49, .long (fq 8)), (47, .long (fq 7)), (45, .long (fq 6)), (43, .long (fq 5)), (41, .long (fq 4)), (39, .long (fq 3)), (37, .long (fq 2)), (35, .long (fq 1)), (33, .long (fq 0)), (32, .ref (F 0)), (30, .long (fa 13)), (28, .long (fa 12)), (26, .long (fa 11)), (24, .long (fa 10)), (22, .long (fa 9)), (20, .long (fa 8)), (18, .long (fa 7)), (16, .long (fa 6)), (14, .long (fa 5)), (12, .long (fa 4)), (10, .long (fa 3)), (8, .long (fa 2)), (6, .long (fa 1)), (4, .long (fa 0)), (0, .ref o), (1, .ref t), (2, .ref a), (3, .ref b)]) hx hb d_Field_multiply_201 hl (by decide) rfl (fun ls hl => ?_)
  refine lv_lconst (v := 0) hx hb d_Field_multiply_203 (by decide) ?_
  refine lv_lstore (lv' := [(79, .long 0), (77, .long 0), (75, .long 0), (73, .long 0), (71, .long 0), (69, .long 0), (67, .long 0), (65, .long 0), (63, .long 0), (61, .long 0), (59, .long (fq 13)), (57, .long (fq 12)), (55, .long (fq 11)), (53, .long (fq 10)), (51, .long (fq 9)), (49, .long (fq 8)), (47, .long (fq 7)), (45, .long (fq 6)), (43, .long (fq 5)), (41, .long (fq 4)), (39, .long (fq 3)), (37, .long (fq 2)), (35, .long (fq 1)), (33, .long (fq 0)), (32, .ref (F 0)), (30, .long (fa 13)), (28, .long (fa 12)), (26, .long (fa 11)), (24, .long (fa 10)), (22, .long (fa 9)), (20, .long (fa 8)), (18, .long (fa 7)), (16, .long (fa 6)), (14, .long (fa 5)), (12, .long (fa 4)), (10, .long (fa 3)), (8, .long (fa 2)), (6, .long (fa 1)), (4, .long (fa 0)), (0, .ref o), (1, .ref t), (2, .ref a), (3, .ref b)]) hx hb d_Field_multiply_204 hl (by decide) rfl (fun ls hl => ?_)
  refine lv_lconst (v := 0) hx hb d_Field_multiply_206 (by decide) ?_
  refine lv_lstore (lv' := [(81, .long 0), (79, .long 0), (77, .long 0), (75, .long 0), (73, .long 0), (71, .long 0), (69, .long 0), (67, .long 0), (65, .long 0), (63, .long 0), (61, .long 0), (59, .long (fq 13)), (57, .long (fq 12)), (55, .long (fq 11)), (53, .long (fq 10)), (51, .long (fq 9)), (49, .long (fq 8)), (47, .long (fq 7)), (45, .long (fq 6)), (43, .long (fq 5)), (41, .long (fq 4)), (39, .long (fq 3)), (37, .long (fq 2)), (35, .long (fq 1)), (33, .long (fq 0)), (32, .ref (F 0)), (30, .long (fa 13)), (28, .long (fa 12)), (26, .long (fa 11)), (24, .long (fa 10)), (22, .long (fa 9)), (20, .long (fa 8)), (18, .long (fa 7)), (16, .long (fa 6)), (14, .long (fa 5)), (12, .long (fa 4)), (10, .long (fa 3)), (8, .long (fa 2)), (6, .long (fa 1)), (4, .long (fa 0)), (0, .ref o), (1, .ref t), (2, .ref a), (3, .ref b)]) hx hb d_Field_multiply_207 hl (by decide) rfl (fun ls hl => ?_)
  refine lv_lconst (v := 0) hx hb d_Field_multiply_209 (by decide) ?_
  refine lv_lstore (lv' := [(83, .long 0), (81, .long 0), (79, .long 0), (77, .long 0), (75, .long 0), (73, .long 0), (71, .long 0), (69, .long 0), (67, .long 0), (65, .long 0), (63, .long 0), (61, .long 0), (59, .long (fq 13)), (57, .long (fq 12)), (55, .long (fq 11)), (53, .long (fq 10)), (51, .long (fq 9)), (49, .long (fq 8)), (47, .long (fq 7)), (45, .long (fq 6)), (43, .long (fq 5)), (41, .long (fq 4)), (39, .long (fq 3)), (37, .long (fq 2)), (35, .long (fq 1)), (33, .long (fq 0)), (32, .ref (F 0)), (30, .long (fa 13)), (28, .long (fa 12)), (26, .long (fa 11)), (24, .long (fa 10)), (22, .long (fa 9)), (20, .long (fa 8)), (18, .long (fa 7)), (16, .long (fa 6)), (14, .long (fa 5)), (12, .long (fa 4)), (10, .long (fa 3)), (8, .long (fa 2)), (6, .long (fa 1)), (4, .long (fa 0)), (0, .ref o), (1, .ref t), (2, .ref a), (3, .ref b)]) hx hb d_Field_multiply_210 hl (by decide) rfl (fun ls hl => ?_)
  refine lv_lconst (v := 0) hx hb d_Field_multiply_212 (by decide) ?_
  refine lv_lstore (lv' := [(85, .long 0), (83, .long 0), (81, .long 0), (79, .long 0), (77, .long 0), (75, .long 0), (73, .long 0), (71, .long 0), (69, .long 0), (67, .long 0), (65, .long 0), (63, .long 0), (61, .long 0), (59, .long (fq 13)), (57, .long (fq 12)), (55, .long (fq 11)), (53, .long (fq 10)), (51, .long (fq 9)), (49, .long (fq 8)), (47, .long (fq 7)), (45, .long (fq 6)), (43, .long (fq 5)), (41, .long (fq 4)), (39, .long (fq 3)), (37, .long (fq 2)), (35, .long (fq 1)), (33, .long (fq 0)), (32, .ref (F 0)), (30, .long (fa 13)), (28, .long (fa 12)), (26, .long (fa 11)), (24, .long (fa 10)), (22, .long (fa 9)), (20, .long (fa 8)), (18, .long (fa 7)), (16, .long (fa 6)), (14, .long (fa 5)), (12, .long (fa 4)), (10, .long (fa 3)), (8, .long (fa 2)), (6, .long (fa 1)), (4, .long (fa 0)), (0, .ref o), (1, .ref t), (2, .ref a), (3, .ref b)]) hx hb d_Field_multiply_213 hl (by decide) rfl (fun ls hl => ?_)
  refine lv_iconst (v := nI 0) hx hb d_Field_multiply_215 (by decide) ?_
  refine lv_istore (lv' := [(87, .int (nI 0)), (85, .long 0), (83, .long 0), (81, .long 0), (79, .long 0), (77, .long 0), (75, .long 0), (73, .long 0), (71, .long 0), (69, .long 0), (67, .long 0), (65, .long 0), (63, .long 0), (61, .long 0), (59, .long (fq 13)), (57, .long (fq 12)), (55, .long (fq 11)), (53, .long (fq 10)), (51, .long (fq 9)), (49, .long (fq 8)), (47, .long (fq 7)), (45, .long (fq 6)), (43, .long (fq 5)), (41, .long (fq 4)), (39, .long (fq 3)), (37, .long (fq 2)), (35, .long (fq 1)), (33, .long (fq 0)), (32, .ref (F 0)), (30, .long (fa 13)), (28, .long (fa 12)), (26, .long (fa 11)), (24, .long (fa 10)), (22, .long (fa 9)), (20, .long (fa 8)), (18, .long (fa 7)), (16, .long (fa 6)), (14, .long (fa 5)), (12, .long (fa 4)), (10, .long (fa 3)), (8, .long (fa 2)), (6, .long (fa 1)), (4, .long (fa 0)), (0, .ref o), (1, .ref t), (2, .ref a), (3, .ref b)]) hx hb d_Field_multiply_216 hl (by decide) rfl (fun ls hl => ?_)
  have loop : ∀ (k : Nat) (i : Nat) (ls : Array Slot) (t0 t1 t2 t3 t4 t5 t6 t7 t8 t9 t10 t11 t12 : Int64), i + k = 14 → MI fa fq fb i (TL t0 t1 t2 t3 t4 t5 t6 t7 t8 t9 t10 t11 t12) → lv_has ls 92 [(87, .int (nI i)), (61, .long t0), (63, .long t1), (65, .long t2), (67, .long t3), (69, .long t4), (71, .long t5), (73, .long t6), (75, .long t7), (77, .long t8), (79, .long t9), (81, .long t10), (83, .long t11), (85, .long t12), (0, .ref o), (1, .ref t), (3, .ref b), (4, .long (fa 0)), (6, .long (fa 1)), (8, .long (fa 2)), (10, .long (fa 3)), (12, .long (fa 4)), (14, .long (fa 5)), (16, .long (fa 6)), (18, .long (fa 7)), (20, .long (fa 8)), (22, .long (fa 9)), (24, .long (fa 10)), (26, .long (fa 11)), (28, .long (fa 12)), (30, .long (fa 13)), (33, .long (fq 0)), (35, .long (fq 1)), (37, .long (fq 2)), (39, .long (fq 3)), (41, .long (fq 4)), (43, .long (fq 5)), (45, .long (fq 6)), (47, .long (fq 7)), (49, .long (fq 8)), (51, .long (fq 9)), (53, .long (fq 10)), (55, .long (fq 11)), (57, .long (fq 12)), (59, .long (fq 13))] → W p l e { frames := 1, cells := 0, slots := 0, locals := 24 } s m [.ref o, .ref t, .ref a, .ref b].toArray below meth c s.heap [] 0 0 (MQ below (QcP (QV (fun H H' => KJ g (fun q => q = t) H H' ∧ ∃ f' v M, AJ g H' t 14 f' ∧ RV f' v ∧ 0 ≤ v ∧ v < Q ∧ 268435456 ^ 14 * v = x * y + M * Q))) [.ref o, .ref t, .ref a, .ref b].toArray s 0 0 (fun q => n0 q)) (F0 m 218 ls []) := by
    intro k
    induction k with
    | zero =>
      intro  i   ls   t0 t1 t2 t3 t4 t5 t6 t7 t8 t9 t10 t11 t12 hi hI hl
      obtain rfl : i = 14 := by omega
      refine lv_iload hx hb d_Field_multiply_218 (lv_at hl 0 rfl) ?_
      refine lv_bipush (v := nI 14) hx hb d_Field_multiply_220 (by decide) ?_
      refine lv_icmp_ge (tgt := 477) hx hb d_Field_multiply_222 (by decide) (fun _ => ?_) (fun h9 => absurd (by decide) h9)
      obtain ⟨b0, bk, M, hM0, hM1, hMV⟩ := hI
      rw [hfa.2, hfq.2, hfb.2] at hMV
      have hQ0 : 0 < Q := by omega
      have hTV : 0 ≤ VL (TL t0 t1 t2 t3 t4 t5 t6 t7 t8 t9 t10 t11 t12) 13 ∧ VL (TL t0 t1 t2 t3 t4 t5 t6 t7 t8 t9 t10 t11 t12) 13 < 2 * Q := mul_rng ra.1 rb.1 hxQ hyQ hM0 hM1 hMV (by omega)
      have hk : KJ g (fun q => q = t) s.heap s.heap := KJ.rf
      have hft := hft0
      refine lv_aload_n hx hb d_Field_multiply_477 rfl (lv_at hl 15 rfl) ?_
      refine lv_iconst (v := nI 0) hx hb d_Field_multiply_478 (by decide) ?_
      refine lv_lload hx hb d_Field_multiply_479 (lv_at hl 1 rfl) ?_
      refine lv_ldc2 (v := 268435455) hx hb E.2.2.2.1 (E.2.2.2.2.1 _ w_143) d_Field_multiply_481 ?_
      refine lv_land hx hb d_Field_multiply_484 ?_
      refine q_last E hft hnt hF 0 rfl (by decide) (by decide) d_Field_multiply_485 (fun H1 locs hq hft hF => ?_)
      have hk := hk.tr hq
      refine lv_aload_n hx hb d_Field_multiply_486 rfl (lv_at hl 15 rfl) ?_
      refine lv_iconst (v := nI 1) hx hb d_Field_multiply_487 (by decide) ?_
      refine lv_lload hx hb d_Field_multiply_488 (lv_at hl 2 rfl) ?_
      refine lv_lload hx hb d_Field_multiply_490 (lv_at hl 1 rfl) ?_
      refine lv_bipush (v := nI 28) hx hb d_Field_multiply_492 (by decide) ?_
      refine lv_lshr (v := t0 >>> ((nI 28).toInt64 &&& 63)) hx hb d_Field_multiply_494 rfl ?_
      refine lv_ladd hx hb d_Field_multiply_495 ?_
      refine lv_topl (fun c1 ec1 => ?_)
      refine lv_dup2_2 hx hb d_Field_multiply_496 rfl ?_
      refine lv_lstore (lv' := [(63, .long c1), (87, .int (nI 14)), (61, .long t0), (65, .long t2), (67, .long t3), (69, .long t4), (71, .long t5), (73, .long t6), (75, .long t7), (77, .long t8), (79, .long t9), (81, .long t10), (83, .long t11), (85, .long t12), (0, .ref o), (1, .ref t), (3, .ref b), (4, .long (fa 0)), (6, .long (fa 1)), (8, .long (fa 2)), (10, .long (fa 3)), (12, .long (fa 4)), (14, .long (fa 5)), (16, .long (fa 6)), (18, .long (fa 7)), (20, .long (fa 8)), (22, .long (fa 9)), (24, .long (fa 10)), (26, .long (fa 11)), (28, .long (fa 12)), (30, .long (fa 13)), (33, .long (fq 0)), (35, .long (fq 1)), (37, .long (fq 2)), (39, .long (fq 3)), (41, .long (fq 4)), (43, .long (fq 5)), (45, .long (fq 6)), (47, .long (fq 7)), (49, .long (fq 8)), (51, .long (fq 9)), (53, .long (fq 10)), (55, .long (fq 11)), (57, .long (fq 12)), (59, .long (fq 13))]) hx hb d_Field_multiply_497 hl (by decide) rfl (fun ls hl => ?_)
      refine lv_ldc2 (v := 268435455) hx hb E.2.2.2.1 (E.2.2.2.2.1 _ w_143) d_Field_multiply_499 ?_
      refine lv_land hx hb d_Field_multiply_502 ?_
      refine q_last E hft hnt hF 1 rfl (by decide) (by decide) d_Field_multiply_503 (fun H2 locs hq hft hF => ?_)
      have hk := hk.tr hq
      refine lv_aload_n hx hb d_Field_multiply_504 rfl (lv_at hl 15 rfl) ?_
      refine lv_iconst (v := nI 2) hx hb d_Field_multiply_505 (by decide) ?_
      refine lv_lload hx hb d_Field_multiply_506 (lv_at hl 3 rfl) ?_
      refine lv_lload hx hb d_Field_multiply_508 (lv_at hl 0 rfl) ?_
      refine lv_bipush (v := nI 28) hx hb d_Field_multiply_510 (by decide) ?_
      refine lv_lshr (v := c1 >>> ((nI 28).toInt64 &&& 63)) hx hb d_Field_multiply_512 rfl ?_
      refine lv_ladd hx hb d_Field_multiply_513 ?_
      refine lv_topl (fun c2 ec2 => ?_)
      refine lv_dup2_2 hx hb d_Field_multiply_514 rfl ?_
      refine lv_lstore (lv' := [(65, .long c2), (63, .long c1), (87, .int (nI 14)), (61, .long t0), (67, .long t3), (69, .long t4), (71, .long t5), (73, .long t6), (75, .long t7), (77, .long t8), (79, .long t9), (81, .long t10), (83, .long t11), (85, .long t12), (0, .ref o), (1, .ref t), (3, .ref b), (4, .long (fa 0)), (6, .long (fa 1)), (8, .long (fa 2)), (10, .long (fa 3)), (12, .long (fa 4)), (14, .long (fa 5)), (16, .long (fa 6)), (18, .long (fa 7)), (20, .long (fa 8)), (22, .long (fa 9)), (24, .long (fa 10)), (26, .long (fa 11)), (28, .long (fa 12)), (30, .long (fa 13)), (33, .long (fq 0)), (35, .long (fq 1)), (37, .long (fq 2)), (39, .long (fq 3)), (41, .long (fq 4)), (43, .long (fq 5)), (45, .long (fq 6)), (47, .long (fq 7)), (49, .long (fq 8)), (51, .long (fq 9)), (53, .long (fq 10)), (55, .long (fq 11)), (57, .long (fq 12)), (59, .long (fq 13))]) hx hb d_Field_multiply_515 hl (by decide) rfl (fun ls hl => ?_)
      refine lv_ldc2 (v := 268435455) hx hb E.2.2.2.1 (E.2.2.2.2.1 _ w_143) d_Field_multiply_517 ?_
      refine lv_land hx hb d_Field_multiply_520 ?_
      refine q_last E hft hnt hF 2 rfl (by decide) (by decide) d_Field_multiply_521 (fun H3 locs hq hft hF => ?_)
      have hk := hk.tr hq
      refine lv_aload_n hx hb d_Field_multiply_522 rfl (lv_at hl 15 rfl) ?_
      refine lv_iconst (v := nI 3) hx hb d_Field_multiply_523 (by decide) ?_
      refine lv_lload hx hb d_Field_multiply_524 (lv_at hl 4 rfl) ?_
      refine lv_lload hx hb d_Field_multiply_526 (lv_at hl 0 rfl) ?_
      refine lv_bipush (v := nI 28) hx hb d_Field_multiply_528 (by decide) ?_
      refine lv_lshr (v := c2 >>> ((nI 28).toInt64 &&& 63)) hx hb d_Field_multiply_530 rfl ?_
      refine lv_ladd hx hb d_Field_multiply_531 ?_
      refine lv_topl (fun c3 ec3 => ?_)
      refine lv_dup2_2 hx hb d_Field_multiply_532 rfl ?_
      refine lv_lstore (lv' := [(67, .long c3), (65, .long c2), (63, .long c1), (87, .int (nI 14)), (61, .long t0), (69, .long t4), (71, .long t5), (73, .long t6), (75, .long t7), (77, .long t8), (79, .long t9), (81, .long t10), (83, .long t11), (85, .long t12), (0, .ref o), (1, .ref t), (3, .ref b), (4, .long (fa 0)), (6, .long (fa 1)), (8, .long (fa 2)), (10, .long (fa 3)), (12, .long (fa 4)), (14, .long (fa 5)), (16, .long (fa 6)), (18, .long (fa 7)), (20, .long (fa 8)), (22, .long (fa 9)), (24, .long (fa 10)), (26, .long (fa 11)), (28, .long (fa 12)), (30, .long (fa 13)), (33, .long (fq 0)), (35, .long (fq 1)), (37, .long (fq 2)), (39, .long (fq 3)), (41, .long (fq 4)), (43, .long (fq 5)), (45, .long (fq 6)), (47, .long (fq 7)), (49, .long (fq 8)), (51, .long (fq 9)), (53, .long (fq 10)), (55, .long (fq 11)), (57, .long (fq 12)), (59, .long (fq 13))]) hx hb d_Field_multiply_533 hl (by decide) rfl (fun ls hl => ?_)
      refine lv_ldc2 (v := 268435455) hx hb E.2.2.2.1 (E.2.2.2.2.1 _ w_143) d_Field_multiply_535 ?_
      refine lv_land hx hb d_Field_multiply_538 ?_
      refine q_last E hft hnt hF 3 rfl (by decide) (by decide) d_Field_multiply_539 (fun H4 locs hq hft hF => ?_)
      have hk := hk.tr hq
      refine lv_aload_n hx hb d_Field_multiply_540 rfl (lv_at hl 15 rfl) ?_
      refine lv_iconst (v := nI 4) hx hb d_Field_multiply_541 (by decide) ?_
      refine lv_lload hx hb d_Field_multiply_542 (lv_at hl 5 rfl) ?_
      refine lv_lload hx hb d_Field_multiply_544 (lv_at hl 0 rfl) ?_
      refine lv_bipush (v := nI 28) hx hb d_Field_multiply_546 (by decide) ?_
      refine lv_lshr (v := c3 >>> ((nI 28).toInt64 &&& 63)) hx hb d_Field_multiply_548 rfl ?_
      refine lv_ladd hx hb d_Field_multiply_549 ?_
      refine lv_topl (fun c4 ec4 => ?_)
      refine lv_dup2_2 hx hb d_Field_multiply_550 rfl ?_
      refine lv_lstore (lv' := [(69, .long c4), (67, .long c3), (65, .long c2), (63, .long c1), (87, .int (nI 14)), (61, .long t0), (71, .long t5), (73, .long t6), (75, .long t7), (77, .long t8), (79, .long t9), (81, .long t10), (83, .long t11), (85, .long t12), (0, .ref o), (1, .ref t), (3, .ref b), (4, .long (fa 0)), (6, .long (fa 1)), (8, .long (fa 2)), (10, .long (fa 3)), (12, .long (fa 4)), (14, .long (fa 5)), (16, .long (fa 6)), (18, .long (fa 7)), (20, .long (fa 8)), (22, .long (fa 9)), (24, .long (fa 10)), (26, .long (fa 11)), (28, .long (fa 12)), (30, .long (fa 13)), (33, .long (fq 0)), (35, .long (fq 1)), (37, .long (fq 2)), (39, .long (fq 3)), (41, .long (fq 4)), (43, .long (fq 5)), (45, .long (fq 6)), (47, .long (fq 7)), (49, .long (fq 8)), (51, .long (fq 9)), (53, .long (fq 10)), (55, .long (fq 11)), (57, .long (fq 12)), (59, .long (fq 13))]) hx hb d_Field_multiply_551 hl (by decide) rfl (fun ls hl => ?_)
      refine lv_ldc2 (v := 268435455) hx hb E.2.2.2.1 (E.2.2.2.2.1 _ w_143) d_Field_multiply_553 ?_
      refine lv_land hx hb d_Field_multiply_556 ?_
      refine q_last E hft hnt hF 4 rfl (by decide) (by decide) d_Field_multiply_557 (fun H5 locs hq hft hF => ?_)
      have hk := hk.tr hq
      refine lv_aload_n hx hb d_Field_multiply_558 rfl (lv_at hl 15 rfl) ?_
      refine lv_iconst (v := nI 5) hx hb d_Field_multiply_559 (by decide) ?_
      refine lv_lload hx hb d_Field_multiply_560 (lv_at hl 6 rfl) ?_
      refine lv_lload hx hb d_Field_multiply_562 (lv_at hl 0 rfl) ?_
      refine lv_bipush (v := nI 28) hx hb d_Field_multiply_564 (by decide) ?_
      refine lv_lshr (v := c4 >>> ((nI 28).toInt64 &&& 63)) hx hb d_Field_multiply_566 rfl ?_
      refine lv_ladd hx hb d_Field_multiply_567 ?_
      refine lv_topl (fun c5 ec5 => ?_)
      refine lv_dup2_2 hx hb d_Field_multiply_568 rfl ?_
      refine lv_lstore (lv' := [(71, .long c5), (69, .long c4), (67, .long c3), (65, .long c2), (63, .long c1), (87, .int (nI 14)), (61, .long t0), (73, .long t6), (75, .long t7), (77, .long t8), (79, .long t9), (81, .long t10), (83, .long t11), (85, .long t12), (0, .ref o), (1, .ref t), (3, .ref b), (4, .long (fa 0)), (6, .long (fa 1)), (8, .long (fa 2)), (10, .long (fa 3)), (12, .long (fa 4)), (14, .long (fa 5)), (16, .long (fa 6)), (18, .long (fa 7)), (20, .long (fa 8)), (22, .long (fa 9)), (24, .long (fa 10)), (26, .long (fa 11)), (28, .long (fa 12)), (30, .long (fa 13)), (33, .long (fq 0)), (35, .long (fq 1)), (37, .long (fq 2)), (39, .long (fq 3)), (41, .long (fq 4)), (43, .long (fq 5)), (45, .long (fq 6)), (47, .long (fq 7)), (49, .long (fq 8)), (51, .long (fq 9)), (53, .long (fq 10)), (55, .long (fq 11)), (57, .long (fq 12)), (59, .long (fq 13))]) hx hb d_Field_multiply_569 hl (by decide) rfl (fun ls hl => ?_)
      refine lv_ldc2 (v := 268435455) hx hb E.2.2.2.1 (E.2.2.2.2.1 _ w_143) d_Field_multiply_571 ?_
      refine lv_land hx hb d_Field_multiply_574 ?_
      refine q_last E hft hnt hF 5 rfl (by decide) (by decide) d_Field_multiply_575 (fun H6 locs hq hft hF => ?_)
      have hk := hk.tr hq
      refine lv_aload_n hx hb d_Field_multiply_576 rfl (lv_at hl 15 rfl) ?_
      refine lv_bipush (v := nI 6) hx hb d_Field_multiply_577 (by decide) ?_
      refine lv_lload hx hb d_Field_multiply_579 (lv_at hl 7 rfl) ?_
      refine lv_lload hx hb d_Field_multiply_581 (lv_at hl 0 rfl) ?_
      refine lv_bipush (v := nI 28) hx hb d_Field_multiply_583 (by decide) ?_
      refine lv_lshr (v := c5 >>> ((nI 28).toInt64 &&& 63)) hx hb d_Field_multiply_585 rfl ?_
      refine lv_ladd hx hb d_Field_multiply_586 ?_
      refine lv_topl (fun c6 ec6 => ?_)
      refine lv_dup2_2 hx hb d_Field_multiply_587 rfl ?_
      refine lv_lstore (lv' := [(73, .long c6), (71, .long c5), (69, .long c4), (67, .long c3), (65, .long c2), (63, .long c1), (87, .int (nI 14)), (61, .long t0), (75, .long t7), (77, .long t8), (79, .long t9), (81, .long t10), (83, .long t11), (85, .long t12), (0, .ref o), (1, .ref t), (3, .ref b), (4, .long (fa 0)), (6, .long (fa 1)), (8, .long (fa 2)), (10, .long (fa 3)), (12, .long (fa 4)), (14, .long (fa 5)), (16, .long (fa 6)), (18, .long (fa 7)), (20, .long (fa 8)), (22, .long (fa 9)), (24, .long (fa 10)), (26, .long (fa 11)), (28, .long (fa 12)), (30, .long (fa 13)), (33, .long (fq 0)), (35, .long (fq 1)), (37, .long (fq 2)), (39, .long (fq 3)), (41, .long (fq 4)), (43, .long (fq 5)), (45, .long (fq 6)), (47, .long (fq 7)), (49, .long (fq 8)), (51, .long (fq 9)), (53, .long (fq 10)), (55, .long (fq 11)), (57, .long (fq 12)), (59, .long (fq 13))]) hx hb d_Field_multiply_588 hl (by decide) rfl (fun ls hl => ?_)
      refine lv_ldc2 (v := 268435455) hx hb E.2.2.2.1 (E.2.2.2.2.1 _ w_143) d_Field_multiply_590 ?_
      refine lv_land hx hb d_Field_multiply_593 ?_
      refine q_last E hft hnt hF 6 rfl (by decide) (by decide) d_Field_multiply_594 (fun H7 locs hq hft hF => ?_)
      have hk := hk.tr hq
      refine lv_aload_n hx hb d_Field_multiply_595 rfl (lv_at hl 15 rfl) ?_
      refine lv_bipush (v := nI 7) hx hb d_Field_multiply_596 (by decide) ?_
      refine lv_lload hx hb d_Field_multiply_598 (lv_at hl 8 rfl) ?_
      refine lv_lload hx hb d_Field_multiply_600 (lv_at hl 0 rfl) ?_
      refine lv_bipush (v := nI 28) hx hb d_Field_multiply_602 (by decide) ?_
      refine lv_lshr (v := c6 >>> ((nI 28).toInt64 &&& 63)) hx hb d_Field_multiply_604 rfl ?_
      refine lv_ladd hx hb d_Field_multiply_605 ?_
      refine lv_topl (fun c7 ec7 => ?_)
      refine lv_dup2_2 hx hb d_Field_multiply_606 rfl ?_
      refine lv_lstore (lv' := [(75, .long c7), (73, .long c6), (71, .long c5), (69, .long c4), (67, .long c3), (65, .long c2), (63, .long c1), (87, .int (nI 14)), (61, .long t0), (77, .long t8), (79, .long t9), (81, .long t10), (83, .long t11), (85, .long t12), (0, .ref o), (1, .ref t), (3, .ref b), (4, .long (fa 0)), (6, .long (fa 1)), (8, .long (fa 2)), (10, .long (fa 3)), (12, .long (fa 4)), (14, .long (fa 5)), (16, .long (fa 6)), (18, .long (fa 7)), (20, .long (fa 8)), (22, .long (fa 9)), (24, .long (fa 10)), (26, .long (fa 11)), (28, .long (fa 12)), (30, .long (fa 13)), (33, .long (fq 0)), (35, .long (fq 1)), (37, .long (fq 2)), (39, .long (fq 3)), (41, .long (fq 4)), (43, .long (fq 5)), (45, .long (fq 6)), (47, .long (fq 7)), (49, .long (fq 8)), (51, .long (fq 9)), (53, .long (fq 10)), (55, .long (fq 11)), (57, .long (fq 12)), (59, .long (fq 13))]) hx hb d_Field_multiply_607 hl (by decide) rfl (fun ls hl => ?_)
      refine lv_ldc2 (v := 268435455) hx hb E.2.2.2.1 (E.2.2.2.2.1 _ w_143) d_Field_multiply_609 ?_
      refine lv_land hx hb d_Field_multiply_612 ?_
      refine q_last E hft hnt hF 7 rfl (by decide) (by decide) d_Field_multiply_613 (fun H8 locs hq hft hF => ?_)
      have hk := hk.tr hq
      refine lv_aload_n hx hb d_Field_multiply_614 rfl (lv_at hl 15 rfl) ?_
      refine lv_bipush (v := nI 8) hx hb d_Field_multiply_615 (by decide) ?_
      refine lv_lload hx hb d_Field_multiply_617 (lv_at hl 9 rfl) ?_
      refine lv_lload hx hb d_Field_multiply_619 (lv_at hl 0 rfl) ?_
      refine lv_bipush (v := nI 28) hx hb d_Field_multiply_621 (by decide) ?_
      refine lv_lshr (v := c7 >>> ((nI 28).toInt64 &&& 63)) hx hb d_Field_multiply_623 rfl ?_
      refine lv_ladd hx hb d_Field_multiply_624 ?_
      refine lv_topl (fun c8 ec8 => ?_)
      refine lv_dup2_2 hx hb d_Field_multiply_625 rfl ?_
      refine lv_lstore (lv' := [(77, .long c8), (75, .long c7), (73, .long c6), (71, .long c5), (69, .long c4), (67, .long c3), (65, .long c2), (63, .long c1), (87, .int (nI 14)), (61, .long t0), (79, .long t9), (81, .long t10), (83, .long t11), (85, .long t12), (0, .ref o), (1, .ref t), (3, .ref b), (4, .long (fa 0)), (6, .long (fa 1)), (8, .long (fa 2)), (10, .long (fa 3)), (12, .long (fa 4)), (14, .long (fa 5)), (16, .long (fa 6)), (18, .long (fa 7)), (20, .long (fa 8)), (22, .long (fa 9)), (24, .long (fa 10)), (26, .long (fa 11)), (28, .long (fa 12)), (30, .long (fa 13)), (33, .long (fq 0)), (35, .long (fq 1)), (37, .long (fq 2)), (39, .long (fq 3)), (41, .long (fq 4)), (43, .long (fq 5)), (45, .long (fq 6)), (47, .long (fq 7)), (49, .long (fq 8)), (51, .long (fq 9)), (53, .long (fq 10)), (55, .long (fq 11)), (57, .long (fq 12)), (59, .long (fq 13))]) hx hb d_Field_multiply_626 hl (by decide) rfl (fun ls hl => ?_)
      refine lv_ldc2 (v := 268435455) hx hb E.2.2.2.1 (E.2.2.2.2.1 _ w_143) d_Field_multiply_628 ?_
      refine lv_land hx hb d_Field_multiply_631 ?_
      refine q_last E hft hnt hF 8 rfl (by decide) (by decide) d_Field_multiply_632 (fun H9 locs hq hft hF => ?_)
      have hk := hk.tr hq
      refine lv_aload_n hx hb d_Field_multiply_633 rfl (lv_at hl 15 rfl) ?_
      refine lv_bipush (v := nI 9) hx hb d_Field_multiply_634 (by decide) ?_
      refine lv_lload hx hb d_Field_multiply_636 (lv_at hl 10 rfl) ?_
      refine lv_lload hx hb d_Field_multiply_638 (lv_at hl 0 rfl) ?_
      refine lv_bipush (v := nI 28) hx hb d_Field_multiply_640 (by decide) ?_
      refine lv_lshr (v := c8 >>> ((nI 28).toInt64 &&& 63)) hx hb d_Field_multiply_642 rfl ?_
      refine lv_ladd hx hb d_Field_multiply_643 ?_
      refine lv_topl (fun c9 ec9 => ?_)
      refine lv_dup2_2 hx hb d_Field_multiply_644 rfl ?_
      refine lv_lstore (lv' := [(79, .long c9), (77, .long c8), (75, .long c7), (73, .long c6), (71, .long c5), (69, .long c4), (67, .long c3), (65, .long c2), (63, .long c1), (87, .int (nI 14)), (61, .long t0), (81, .long t10), (83, .long t11), (85, .long t12), (0, .ref o), (1, .ref t), (3, .ref b), (4, .long (fa 0)), (6, .long (fa 1)), (8, .long (fa 2)), (10, .long (fa 3)), (12, .long (fa 4)), (14, .long (fa 5)), (16, .long (fa 6)), (18, .long (fa 7)), (20, .long (fa 8)), (22, .long (fa 9)), (24, .long (fa 10)), (26, .long (fa 11)), (28, .long (fa 12)), (30, .long (fa 13)), (33, .long (fq 0)), (35, .long (fq 1)), (37, .long (fq 2)), (39, .long (fq 3)), (41, .long (fq 4)), (43, .long (fq 5)), (45, .long (fq 6)), (47, .long (fq 7)), (49, .long (fq 8)), (51, .long (fq 9)), (53, .long (fq 10)), (55, .long (fq 11)), (57, .long (fq 12)), (59, .long (fq 13))]) hx hb d_Field_multiply_645 hl (by decide) rfl (fun ls hl => ?_)
      refine lv_ldc2 (v := 268435455) hx hb E.2.2.2.1 (E.2.2.2.2.1 _ w_143) d_Field_multiply_647 ?_
      refine lv_land hx hb d_Field_multiply_650 ?_
      refine q_last E hft hnt hF 9 rfl (by decide) (by decide) d_Field_multiply_651 (fun H10 locs hq hft hF => ?_)
      have hk := hk.tr hq
      refine lv_aload_n hx hb d_Field_multiply_652 rfl (lv_at hl 15 rfl) ?_
      refine lv_bipush (v := nI 10) hx hb d_Field_multiply_653 (by decide) ?_
      refine lv_lload hx hb d_Field_multiply_655 (lv_at hl 11 rfl) ?_
      refine lv_lload hx hb d_Field_multiply_657 (lv_at hl 0 rfl) ?_
      refine lv_bipush (v := nI 28) hx hb d_Field_multiply_659 (by decide) ?_
      refine lv_lshr (v := c9 >>> ((nI 28).toInt64 &&& 63)) hx hb d_Field_multiply_661 rfl ?_
      refine lv_ladd hx hb d_Field_multiply_662 ?_
      refine lv_topl (fun c10 ec10 => ?_)
      refine lv_dup2_2 hx hb d_Field_multiply_663 rfl ?_
      refine lv_lstore (lv' := [(81, .long c10), (79, .long c9), (77, .long c8), (75, .long c7), (73, .long c6), (71, .long c5), (69, .long c4), (67, .long c3), (65, .long c2), (63, .long c1), (87, .int (nI 14)), (61, .long t0), (83, .long t11), (85, .long t12), (0, .ref o), (1, .ref t), (3, .ref b), (4, .long (fa 0)), (6, .long (fa 1)), (8, .long (fa 2)), (10, .long (fa 3)), (12, .long (fa 4)), (14, .long (fa 5)), (16, .long (fa 6)), (18, .long (fa 7)), (20, .long (fa 8)), (22, .long (fa 9)), (24, .long (fa 10)), (26, .long (fa 11)), (28, .long (fa 12)), (30, .long (fa 13)), (33, .long (fq 0)), (35, .long (fq 1)), (37, .long (fq 2)), (39, .long (fq 3)), (41, .long (fq 4)), (43, .long (fq 5)), (45, .long (fq 6)), (47, .long (fq 7)), (49, .long (fq 8)), (51, .long (fq 9)), (53, .long (fq 10)), (55, .long (fq 11)), (57, .long (fq 12)), (59, .long (fq 13))]) hx hb d_Field_multiply_664 hl (by decide) rfl (fun ls hl => ?_)
      refine lv_ldc2 (v := 268435455) hx hb E.2.2.2.1 (E.2.2.2.2.1 _ w_143) d_Field_multiply_666 ?_
      refine lv_land hx hb d_Field_multiply_669 ?_
      refine q_last E hft hnt hF 10 rfl (by decide) (by decide) d_Field_multiply_670 (fun H11 locs hq hft hF => ?_)
      have hk := hk.tr hq
      refine lv_aload_n hx hb d_Field_multiply_671 rfl (lv_at hl 15 rfl) ?_
      refine lv_bipush (v := nI 11) hx hb d_Field_multiply_672 (by decide) ?_
      refine lv_lload hx hb d_Field_multiply_674 (lv_at hl 12 rfl) ?_
      refine lv_lload hx hb d_Field_multiply_676 (lv_at hl 0 rfl) ?_
      refine lv_bipush (v := nI 28) hx hb d_Field_multiply_678 (by decide) ?_
      refine lv_lshr (v := c10 >>> ((nI 28).toInt64 &&& 63)) hx hb d_Field_multiply_680 rfl ?_
      refine lv_ladd hx hb d_Field_multiply_681 ?_
      refine lv_topl (fun c11 ec11 => ?_)
      refine lv_dup2_2 hx hb d_Field_multiply_682 rfl ?_
      refine lv_lstore (lv' := [(83, .long c11), (81, .long c10), (79, .long c9), (77, .long c8), (75, .long c7), (73, .long c6), (71, .long c5), (69, .long c4), (67, .long c3), (65, .long c2), (63, .long c1), (87, .int (nI 14)), (61, .long t0), (85, .long t12), (0, .ref o), (1, .ref t), (3, .ref b), (4, .long (fa 0)), (6, .long (fa 1)), (8, .long (fa 2)), (10, .long (fa 3)), (12, .long (fa 4)), (14, .long (fa 5)), (16, .long (fa 6)), (18, .long (fa 7)), (20, .long (fa 8)), (22, .long (fa 9)), (24, .long (fa 10)), (26, .long (fa 11)), (28, .long (fa 12)), (30, .long (fa 13)), (33, .long (fq 0)), (35, .long (fq 1)), (37, .long (fq 2)), (39, .long (fq 3)), (41, .long (fq 4)), (43, .long (fq 5)), (45, .long (fq 6)), (47, .long (fq 7)), (49, .long (fq 8)), (51, .long (fq 9)), (53, .long (fq 10)), (55, .long (fq 11)), (57, .long (fq 12)), (59, .long (fq 13))]) hx hb d_Field_multiply_683 hl (by decide) rfl (fun ls hl => ?_)
      refine lv_ldc2 (v := 268435455) hx hb E.2.2.2.1 (E.2.2.2.2.1 _ w_143) d_Field_multiply_685 ?_
      refine lv_land hx hb d_Field_multiply_688 ?_
      refine q_last E hft hnt hF 11 rfl (by decide) (by decide) d_Field_multiply_689 (fun H12 locs hq hft hF => ?_)
      have hk := hk.tr hq
      refine lv_aload_n hx hb d_Field_multiply_690 rfl (lv_at hl 15 rfl) ?_
      refine lv_bipush (v := nI 12) hx hb d_Field_multiply_691 (by decide) ?_
      refine lv_lload hx hb d_Field_multiply_693 (lv_at hl 13 rfl) ?_
      refine lv_lload hx hb d_Field_multiply_695 (lv_at hl 0 rfl) ?_
      refine lv_bipush (v := nI 28) hx hb d_Field_multiply_697 (by decide) ?_
      refine lv_lshr (v := c11 >>> ((nI 28).toInt64 &&& 63)) hx hb d_Field_multiply_699 rfl ?_
      refine lv_ladd hx hb d_Field_multiply_700 ?_
      refine lv_topl (fun c12 ec12 => ?_)
      refine lv_dup2_2 hx hb d_Field_multiply_701 rfl ?_
      refine lv_lstore (lv' := [(85, .long c12), (83, .long c11), (81, .long c10), (79, .long c9), (77, .long c8), (75, .long c7), (73, .long c6), (71, .long c5), (69, .long c4), (67, .long c3), (65, .long c2), (63, .long c1), (87, .int (nI 14)), (61, .long t0), (0, .ref o), (1, .ref t), (3, .ref b), (4, .long (fa 0)), (6, .long (fa 1)), (8, .long (fa 2)), (10, .long (fa 3)), (12, .long (fa 4)), (14, .long (fa 5)), (16, .long (fa 6)), (18, .long (fa 7)), (20, .long (fa 8)), (22, .long (fa 9)), (24, .long (fa 10)), (26, .long (fa 11)), (28, .long (fa 12)), (30, .long (fa 13)), (33, .long (fq 0)), (35, .long (fq 1)), (37, .long (fq 2)), (39, .long (fq 3)), (41, .long (fq 4)), (43, .long (fq 5)), (45, .long (fq 6)), (47, .long (fq 7)), (49, .long (fq 8)), (51, .long (fq 9)), (53, .long (fq 10)), (55, .long (fq 11)), (57, .long (fq 12)), (59, .long (fq 13))]) hx hb d_Field_multiply_702 hl (by decide) rfl (fun ls hl => ?_)
      refine lv_ldc2 (v := 268435455) hx hb E.2.2.2.1 (E.2.2.2.2.1 _ w_143) d_Field_multiply_704 ?_
      refine lv_land hx hb d_Field_multiply_707 ?_
      refine q_last E hft hnt hF 12 rfl (by decide) (by decide) d_Field_multiply_708 (fun H13 locs hq hft hF => ?_)
      have hk := hk.tr hq
      refine lv_aload_n hx hb d_Field_multiply_709 rfl (lv_at hl 15 rfl) ?_
      refine lv_bipush (v := nI 13) hx hb d_Field_multiply_710 (by decide) ?_
      refine lv_lload hx hb d_Field_multiply_712 (lv_at hl 0 rfl) ?_
      refine lv_bipush (v := nI 28) hx hb d_Field_multiply_714 (by decide) ?_
      refine lv_lshr (v := c12 >>> ((nI 28).toInt64 &&& 63)) hx hb d_Field_multiply_716 rfl ?_
      refine q_last E hft hnt hF 13 rfl (by decide) (by decide) d_Field_multiply_717 (fun H14 locs hq hft hF => ?_)
      have hk := hk.tr hq
      refine lv_aload_n hx hb d_Field_multiply_718 rfl (lv_at hl 14 rfl) ?_
      refine lv_aload_n hx hb d_Field_multiply_719 rfl (lv_at hl 15 rfl) ?_
      have hL := MI.lastA (T := TL t0 t1 t2 t3 t4 t5 t6 t7 t8 t9 t10 t11 t12) (c := fun k => ([t0, c1, c2, c3, c4, c5, c6, c7, c8, c9, c10, c11, c12] : List Int64).getD k 0) hft rfl (fun k hk => match k, hk with | 0, _ => ec1 | 1, _ => ec2 | 2, _ => ec3 | 3, _ => ec4 | 4, _ => ec5 | 5, _ => ec6 | 6, _ => ec7 | 7, _ => ec8 | 8, _ => ec9 | 9, _ => ec10 | 10, _ => ec11 | 11, _ => ec12 | k + 12, h => absurd h (by omega)) (fun k hk => match k, hk with | 0, _ => rfl | 1, _ => rfl | 2, _ => rfl | 3, _ => rfl | 4, _ => rfl | 5, _ => rfl | 6, _ => rfl | 7, _ => rfl | 8, _ => rfl | 9, _ => rfl | 10, _ => rfl | 11, _ => rfl | 12, _ => rfl | k + 13, h => absurd h (by omega)) rfl (fun k hk => if e : k = 0 then by subst e; omega else by have := bk k (by omega) hk; omega) (by omega)
      refine q_cV (rest := []) E (V_Field_reduce l g n0 o t F mi _ fq hL.1 hfq.1 (by rw [hL.2, hfq.2]; exact hTV.2) htm) w_161 w_4 w_158 w_160 (bw_s 1 rfl) hd_Field_reduce rfl ⟨by decide, by decide⟩ (OB.recv E.2.2.2.2.2 (by rfl) ((hk.fd hK hfd).1)) (⟨hk.fd hK hfd, hnt, hft, hk.ajo htm hM⟩) hF hl.1 rfl (Nat.le_of_ble_eq_true rfl) d_Field_multiply_720 ⟨by decide, by decide⟩ (qv (fun H15 locs hq hF => ?_))
      obtain ⟨hq, f9, hf9, hv9⟩ := hq
      rw [hL.2, hfq.2] at hv9
      by_cases hlt : VL (TL t0 t1 t2 t3 t4 t5 t6 t7 t8 t9 t10 t11 t12) 13 < Q
      · rw [if_pos hlt] at hv9
        exact q_vret E hr hlk (⟨rfl, hk.tr hq, f9, _, M, hf9, hv9, hTV.1, hlt, hMV⟩) hF d_Field_multiply_723
      · rw [if_neg hlt] at hv9
        exact q_vret E hr hlk (⟨rfl, hk.tr hq, f9, _, M - 268435456 ^ 14, hf9, hv9, by omega, by omega, by rw [Int.mul_sub, Int.sub_mul, hMV]; omega⟩) hF d_Field_multiply_723
    | succ k ih =>
      intro  i   ls   t0 t1 t2 t3 t4 t5 t6 t7 t8 t9 t10 t11 t12 hi hI hl
      have hi14 : i < 14 := by omega
      refine lv_iload hx hb d_Field_multiply_218 (lv_at hl 0 rfl) ?_
      refine lv_bipush (v := nI 14) hx hb d_Field_multiply_220 (by decide) ?_
      refine lv_icmp_ge (tgt := 477) hx hb d_Field_multiply_222 (by decide) (fun h9 => absurd h9 (nI_ge hi14 (by decide))) (fun _ => ?_)
      refine lv_aload_n hx hb d_Field_multiply_225 rfl (lv_at hl 16 rfl) ?_
      refine lv_iload hx hb d_Field_multiply_226 (lv_at hl 0 rfl) ?_
      refine q_lald (N := 14) (f := fb) E hB i rfl hi14 (by decide) d_Field_multiply_228 ?_
      refine lv_topl (fun x9 ex => ?_)
      refine lv_lstore (lv' := [(88, .long x9), (87, .int (nI i)), (61, .long t0), (63, .long t1), (65, .long t2), (67, .long t3), (69, .long t4), (71, .long t5), (73, .long t6), (75, .long t7), (77, .long t8), (79, .long t9), (81, .long t10), (83, .long t11), (85, .long t12), (0, .ref o), (1, .ref t), (3, .ref b), (4, .long (fa 0)), (6, .long (fa 1)), (8, .long (fa 2)), (10, .long (fa 3)), (12, .long (fa 4)), (14, .long (fa 5)), (16, .long (fa 6)), (18, .long (fa 7)), (20, .long (fa 8)), (22, .long (fa 9)), (24, .long (fa 10)), (26, .long (fa 11)), (28, .long (fa 12)), (30, .long (fa 13)), (33, .long (fq 0)), (35, .long (fq 1)), (37, .long (fq 2)), (39, .long (fq 3)), (41, .long (fq 4)), (43, .long (fq 5)), (45, .long (fq 6)), (47, .long (fq 7)), (49, .long (fq 8)), (51, .long (fq 9)), (53, .long (fq 10)), (55, .long (fq 11)), (57, .long (fq 12)), (59, .long (fq 13))]) hx hb d_Field_multiply_229 hl (by decide) rfl (fun ls hl => ?_)
      refine lv_lload hx hb d_Field_multiply_231 (lv_at hl 2 rfl) ?_
      refine lv_lload hx hb d_Field_multiply_233 (lv_at hl 0 rfl) ?_
      refine lv_lload hx hb d_Field_multiply_235 (lv_at hl 18 rfl) ?_
      refine lv_lmul hx hb d_Field_multiply_237 ?_
      refine lv_ladd hx hb d_Field_multiply_238 ?_
      refine lv_topl (fun u9 eu => ?_)
      refine lv_lstore (lv' := [(61, .long u9), (88, .long x9), (87, .int (nI i)), (63, .long t1), (65, .long t2), (67, .long t3), (69, .long t4), (71, .long t5), (73, .long t6), (75, .long t7), (77, .long t8), (79, .long t9), (81, .long t10), (83, .long t11), (85, .long t12), (0, .ref o), (1, .ref t), (3, .ref b), (4, .long (fa 0)), (6, .long (fa 1)), (8, .long (fa 2)), (10, .long (fa 3)), (12, .long (fa 4)), (14, .long (fa 5)), (16, .long (fa 6)), (18, .long (fa 7)), (20, .long (fa 8)), (22, .long (fa 9)), (24, .long (fa 10)), (26, .long (fa 11)), (28, .long (fa 12)), (30, .long (fa 13)), (33, .long (fq 0)), (35, .long (fq 1)), (37, .long (fq 2)), (39, .long (fq 3)), (41, .long (fq 4)), (43, .long (fq 5)), (45, .long (fq 6)), (47, .long (fq 7)), (49, .long (fq 8)), (51, .long (fq 9)), (53, .long (fq 10)), (55, .long (fq 11)), (57, .long (fq 12)), (59, .long (fq 13))]) hx hb d_Field_multiply_239 hl (by decide) rfl (fun ls hl => ?_)
      refine lv_lload hx hb d_Field_multiply_241 (lv_at hl 0 rfl) ?_
      refine lv_aload_n hx hb d_Field_multiply_243 rfl (lv_at hl 15 rfl) ?_
      refine q_get (C := "KateDesk$Field") (T := T_Field) (N := 7) (ci := 1) E hfd.1 in_Field rfl 6 (by decide) w_182 rfl rfl d_Field_multiply_244 ?_
      refine lv_lmul hx hb d_Field_multiply_247 ?_
      refine lv_ldc2 (v := 268435455) hx hb E.2.2.2.1 (E.2.2.2.2.1 _ w_143) d_Field_multiply_248 ?_
      refine lv_land hx hb d_Field_multiply_251 ?_
      refine lv_topl (fun m9 em => ?_)
      refine lv_lstore (lv' := [(90, .long m9), (61, .long u9), (88, .long x9), (87, .int (nI i)), (63, .long t1), (65, .long t2), (67, .long t3), (69, .long t4), (71, .long t5), (73, .long t6), (75, .long t7), (77, .long t8), (79, .long t9), (81, .long t10), (83, .long t11), (85, .long t12), (0, .ref o), (1, .ref t), (3, .ref b), (4, .long (fa 0)), (6, .long (fa 1)), (8, .long (fa 2)), (10, .long (fa 3)), (12, .long (fa 4)), (14, .long (fa 5)), (16, .long (fa 6)), (18, .long (fa 7)), (20, .long (fa 8)), (22, .long (fa 9)), (24, .long (fa 10)), (26, .long (fa 11)), (28, .long (fa 12)), (30, .long (fa 13)), (33, .long (fq 0)), (35, .long (fq 1)), (37, .long (fq 2)), (39, .long (fq 3)), (41, .long (fq 4)), (43, .long (fq 5)), (45, .long (fq 6)), (47, .long (fq 7)), (49, .long (fq 8)), (51, .long (fq 9)), (53, .long (fq 10)), (55, .long (fq 11)), (57, .long (fq 12)), (59, .long (fq 13))]) hx hb d_Field_multiply_252 hl (by decide) rfl (fun ls hl => ?_)
      refine lv_lload hx hb d_Field_multiply_254 (lv_at hl 1 rfl) ?_
      refine lv_lload hx hb d_Field_multiply_256 (lv_at hl 0 rfl) ?_
      refine lv_lload hx hb d_Field_multiply_258 (lv_at hl 33 rfl) ?_
      refine lv_lmul hx hb d_Field_multiply_260 ?_
      refine lv_ladd hx hb d_Field_multiply_261 ?_
      refine lv_bipush (v := nI 28) hx hb d_Field_multiply_262 (by decide) ?_
      refine lv_lshr (v := (u9 + (m9 * (fq 0))) >>> ((nI 28).toInt64 &&& 63)) hx hb d_Field_multiply_264 rfl ?_
      refine lv_lload hx hb d_Field_multiply_265 (lv_at hl 4 rfl) ?_
      refine lv_ladd hx hb d_Field_multiply_267 ?_
      refine lv_lload hx hb d_Field_multiply_268 (lv_at hl 2 rfl) ?_
      refine lv_lload hx hb d_Field_multiply_270 (lv_at hl 20 rfl) ?_
      refine lv_lmul hx hb d_Field_multiply_272 ?_
      refine lv_ladd hx hb d_Field_multiply_273 ?_
      refine lv_lload hx hb d_Field_multiply_274 (lv_at hl 0 rfl) ?_
      refine lv_lload hx hb d_Field_multiply_276 (lv_at hl 34 rfl) ?_
      refine lv_lmul hx hb d_Field_multiply_278 ?_
      refine lv_ladd hx hb d_Field_multiply_279 ?_
      refine lv_lstore (lv' := [(61, .long (((((u9 + (m9 * (fq 0))) >>> ((nI 28).toInt64 &&& 63)) + t1) + (x9 * (fa 1))) + (m9 * (fq 1)))), (90, .long m9), (88, .long x9), (87, .int (nI i)), (63, .long t1), (65, .long t2), (67, .long t3), (69, .long t4), (71, .long t5), (73, .long t6), (75, .long t7), (77, .long t8), (79, .long t9), (81, .long t10), (83, .long t11), (85, .long t12), (0, .ref o), (1, .ref t), (3, .ref b), (4, .long (fa 0)), (6, .long (fa 1)), (8, .long (fa 2)), (10, .long (fa 3)), (12, .long (fa 4)), (14, .long (fa 5)), (16, .long (fa 6)), (18, .long (fa 7)), (20, .long (fa 8)), (22, .long (fa 9)), (24, .long (fa 10)), (26, .long (fa 11)), (28, .long (fa 12)), (30, .long (fa 13)), (33, .long (fq 0)), (35, .long (fq 1)), (37, .long (fq 2)), (39, .long (fq 3)), (41, .long (fq 4)), (43, .long (fq 5)), (45, .long (fq 6)), (47, .long (fq 7)), (49, .long (fq 8)), (51, .long (fq 9)), (53, .long (fq 10)), (55, .long (fq 11)), (57, .long (fq 12)), (59, .long (fq 13))]) hx hb d_Field_multiply_280 hl (by decide) rfl (fun ls hl => ?_)
      refine lv_lload hx hb d_Field_multiply_282 (lv_at hl 5 rfl) ?_
      refine lv_lload hx hb d_Field_multiply_284 (lv_at hl 2 rfl) ?_
      refine lv_lload hx hb d_Field_multiply_286 (lv_at hl 21 rfl) ?_
      refine lv_lmul hx hb d_Field_multiply_288 ?_
      refine lv_ladd hx hb d_Field_multiply_289 ?_
      refine lv_lload hx hb d_Field_multiply_290 (lv_at hl 1 rfl) ?_
      refine lv_lload hx hb d_Field_multiply_292 (lv_at hl 35 rfl) ?_
      refine lv_lmul hx hb d_Field_multiply_294 ?_
      refine lv_ladd hx hb d_Field_multiply_295 ?_
      refine lv_lstore (lv' := [(63, .long ((t2 + (x9 * (fa 2))) + (m9 * (fq 2)))), (61, .long (((((u9 + (m9 * (fq 0))) >>> ((nI 28).toInt64 &&& 63)) + t1) + (x9 * (fa 1))) + (m9 * (fq 1)))), (90, .long m9), (88, .long x9), (87, .int (nI i)), (65, .long t2), (67, .long t3), (69, .long t4), (71, .long t5), (73, .long t6), (75, .long t7), (77, .long t8), (79, .long t9), (81, .long t10), (83, .long t11), (85, .long t12), (0, .ref o), (1, .ref t), (3, .ref b), (4, .long (fa 0)), (6, .long (fa 1)), (8, .long (fa 2)), (10, .long (fa 3)), (12, .long (fa 4)), (14, .long (fa 5)), (16, .long (fa 6)), (18, .long (fa 7)), (20, .long (fa 8)), (22, .long (fa 9)), (24, .long (fa 10)), (26, .long (fa 11)), (28, .long (fa 12)), (30, .long (fa 13)), (33, .long (fq 0)), (35, .long (fq 1)), (37, .long (fq 2)), (39, .long (fq 3)), (41, .long (fq 4)), (43, .long (fq 5)), (45, .long (fq 6)), (47, .long (fq 7)), (49, .long (fq 8)), (51, .long (fq 9)), (53, .long (fq 10)), (55, .long (fq 11)), (57, .long (fq 12)), (59, .long (fq 13))]) hx hb d_Field_multiply_296 hl (by decide) rfl (fun ls hl => ?_)
      refine lv_lload hx hb d_Field_multiply_298 (lv_at hl 6 rfl) ?_
      refine lv_lload hx hb d_Field_multiply_300 (lv_at hl 3 rfl) ?_
      refine lv_lload hx hb d_Field_multiply_302 (lv_at hl 22 rfl) ?_
      refine lv_lmul hx hb d_Field_multiply_304 ?_
      refine lv_ladd hx hb d_Field_multiply_305 ?_
      refine lv_lload hx hb d_Field_multiply_306 (lv_at hl 2 rfl) ?_
      refine lv_lload hx hb d_Field_multiply_308 (lv_at hl 36 rfl) ?_
      refine lv_lmul hx hb d_Field_multiply_310 ?_
      refine lv_ladd hx hb d_Field_multiply_311 ?_
      refine lv_lstore (lv' := [(65, .long ((t3 + (x9 * (fa 3))) + (m9 * (fq 3)))), (63, .long ((t2 + (x9 * (fa 2))) + (m9 * (fq 2)))), (61, .long (((((u9 + (m9 * (fq 0))) >>> ((nI 28).toInt64 &&& 63)) + t1) + (x9 * (fa 1))) + (m9 * (fq 1)))), (90, .long m9), (88, .long x9), (87, .int (nI i)), (67, .long t3), (69, .long t4), (71, .long t5), (73, .long t6), (75, .long t7), (77, .long t8), (79, .long t9), (81, .long t10), (83, .long t11), (85, .long t12), (0, .ref o), (1, .ref t), (3, .ref b), (4, .long (fa 0)), (6, .long (fa 1)), (8, .long (fa 2)), (10, .long (fa 3)), (12, .long (fa 4)), (14, .long (fa 5)), (16, .long (fa 6)), (18, .long (fa 7)), (20, .long (fa 8)), (22, .long (fa 9)), (24, .long (fa 10)), (26, .long (fa 11)), (28, .long (fa 12)), (30, .long (fa 13)), (33, .long (fq 0)), (35, .long (fq 1)), (37, .long (fq 2)), (39, .long (fq 3)), (41, .long (fq 4)), (43, .long (fq 5)), (45, .long (fq 6)), (47, .long (fq 7)), (49, .long (fq 8)), (51, .long (fq 9)), (53, .long (fq 10)), (55, .long (fq 11)), (57, .long (fq 12)), (59, .long (fq 13))]) hx hb d_Field_multiply_312 hl (by decide) rfl (fun ls hl => ?_)
      refine lv_lload hx hb d_Field_multiply_314 (lv_at hl 7 rfl) ?_
      refine lv_lload hx hb d_Field_multiply_316 (lv_at hl 4 rfl) ?_
      refine lv_lload hx hb d_Field_multiply_318 (lv_at hl 23 rfl) ?_
      refine lv_lmul hx hb d_Field_multiply_320 ?_
      refine lv_ladd hx hb d_Field_multiply_321 ?_
      refine lv_lload hx hb d_Field_multiply_322 (lv_at hl 3 rfl) ?_
      refine lv_lload hx hb d_Field_multiply_324 (lv_at hl 37 rfl) ?_
      refine lv_lmul hx hb d_Field_multiply_326 ?_
      refine lv_ladd hx hb d_Field_multiply_327 ?_
      refine lv_lstore (lv' := [(67, .long ((t4 + (x9 * (fa 4))) + (m9 * (fq 4)))), (65, .long ((t3 + (x9 * (fa 3))) + (m9 * (fq 3)))), (63, .long ((t2 + (x9 * (fa 2))) + (m9 * (fq 2)))), (61, .long (((((u9 + (m9 * (fq 0))) >>> ((nI 28).toInt64 &&& 63)) + t1) + (x9 * (fa 1))) + (m9 * (fq 1)))), (90, .long m9), (88, .long x9), (87, .int (nI i)), (69, .long t4), (71, .long t5), (73, .long t6), (75, .long t7), (77, .long t8), (79, .long t9), (81, .long t10), (83, .long t11), (85, .long t12), (0, .ref o), (1, .ref t), (3, .ref b), (4, .long (fa 0)), (6, .long (fa 1)), (8, .long (fa 2)), (10, .long (fa 3)), (12, .long (fa 4)), (14, .long (fa 5)), (16, .long (fa 6)), (18, .long (fa 7)), (20, .long (fa 8)), (22, .long (fa 9)), (24, .long (fa 10)), (26, .long (fa 11)), (28, .long (fa 12)), (30, .long (fa 13)), (33, .long (fq 0)), (35, .long (fq 1)), (37, .long (fq 2)), (39, .long (fq 3)), (41, .long (fq 4)), (43, .long (fq 5)), (45, .long (fq 6)), (47, .long (fq 7)), (49, .long (fq 8)), (51, .long (fq 9)), (53, .long (fq 10)), (55, .long (fq 11)), (57, .long (fq 12)), (59, .long (fq 13))]) hx hb d_Field_multiply_328 hl (by decide) rfl (fun ls hl => ?_)
      refine lv_lload hx hb d_Field_multiply_330 (lv_at hl 8 rfl) ?_
      refine lv_lload hx hb d_Field_multiply_332 (lv_at hl 5 rfl) ?_
      refine lv_lload hx hb d_Field_multiply_334 (lv_at hl 24 rfl) ?_
      refine lv_lmul hx hb d_Field_multiply_336 ?_
      refine lv_ladd hx hb d_Field_multiply_337 ?_
      refine lv_lload hx hb d_Field_multiply_338 (lv_at hl 4 rfl) ?_
      refine lv_lload hx hb d_Field_multiply_340 (lv_at hl 38 rfl) ?_
      refine lv_lmul hx hb d_Field_multiply_342 ?_
      refine lv_ladd hx hb d_Field_multiply_343 ?_
      refine lv_lstore (lv' := [(69, .long ((t5 + (x9 * (fa 5))) + (m9 * (fq 5)))), (67, .long ((t4 + (x9 * (fa 4))) + (m9 * (fq 4)))), (65, .long ((t3 + (x9 * (fa 3))) + (m9 * (fq 3)))), (63, .long ((t2 + (x9 * (fa 2))) + (m9 * (fq 2)))), (61, .long (((((u9 + (m9 * (fq 0))) >>> ((nI 28).toInt64 &&& 63)) + t1) + (x9 * (fa 1))) + (m9 * (fq 1)))), (90, .long m9), (88, .long x9), (87, .int (nI i)), (71, .long t5), (73, .long t6), (75, .long t7), (77, .long t8), (79, .long t9), (81, .long t10), (83, .long t11), (85, .long t12), (0, .ref o), (1, .ref t), (3, .ref b), (4, .long (fa 0)), (6, .long (fa 1)), (8, .long (fa 2)), (10, .long (fa 3)), (12, .long (fa 4)), (14, .long (fa 5)), (16, .long (fa 6)), (18, .long (fa 7)), (20, .long (fa 8)), (22, .long (fa 9)), (24, .long (fa 10)), (26, .long (fa 11)), (28, .long (fa 12)), (30, .long (fa 13)), (33, .long (fq 0)), (35, .long (fq 1)), (37, .long (fq 2)), (39, .long (fq 3)), (41, .long (fq 4)), (43, .long (fq 5)), (45, .long (fq 6)), (47, .long (fq 7)), (49, .long (fq 8)), (51, .long (fq 9)), (53, .long (fq 10)), (55, .long (fq 11)), (57, .long (fq 12)), (59, .long (fq 13))]) hx hb d_Field_multiply_344 hl (by decide) rfl (fun ls hl => ?_)
      refine lv_lload hx hb d_Field_multiply_346 (lv_at hl 9 rfl) ?_
      refine lv_lload hx hb d_Field_multiply_348 (lv_at hl 6 rfl) ?_
      refine lv_lload hx hb d_Field_multiply_350 (lv_at hl 25 rfl) ?_
      refine lv_lmul hx hb d_Field_multiply_352 ?_
      refine lv_ladd hx hb d_Field_multiply_353 ?_
      refine lv_lload hx hb d_Field_multiply_354 (lv_at hl 5 rfl) ?_
      refine lv_lload hx hb d_Field_multiply_356 (lv_at hl 39 rfl) ?_
      refine lv_lmul hx hb d_Field_multiply_358 ?_
      refine lv_ladd hx hb d_Field_multiply_359 ?_
      refine lv_lstore (lv' := [(71, .long ((t6 + (x9 * (fa 6))) + (m9 * (fq 6)))), (69, .long ((t5 + (x9 * (fa 5))) + (m9 * (fq 5)))), (67, .long ((t4 + (x9 * (fa 4))) + (m9 * (fq 4)))), (65, .long ((t3 + (x9 * (fa 3))) + (m9 * (fq 3)))), (63, .long ((t2 + (x9 * (fa 2))) + (m9 * (fq 2)))), (61, .long (((((u9 + (m9 * (fq 0))) >>> ((nI 28).toInt64 &&& 63)) + t1) + (x9 * (fa 1))) + (m9 * (fq 1)))), (90, .long m9), (88, .long x9), (87, .int (nI i)), (73, .long t6), (75, .long t7), (77, .long t8), (79, .long t9), (81, .long t10), (83, .long t11), (85, .long t12), (0, .ref o), (1, .ref t), (3, .ref b), (4, .long (fa 0)), (6, .long (fa 1)), (8, .long (fa 2)), (10, .long (fa 3)), (12, .long (fa 4)), (14, .long (fa 5)), (16, .long (fa 6)), (18, .long (fa 7)), (20, .long (fa 8)), (22, .long (fa 9)), (24, .long (fa 10)), (26, .long (fa 11)), (28, .long (fa 12)), (30, .long (fa 13)), (33, .long (fq 0)), (35, .long (fq 1)), (37, .long (fq 2)), (39, .long (fq 3)), (41, .long (fq 4)), (43, .long (fq 5)), (45, .long (fq 6)), (47, .long (fq 7)), (49, .long (fq 8)), (51, .long (fq 9)), (53, .long (fq 10)), (55, .long (fq 11)), (57, .long (fq 12)), (59, .long (fq 13))]) hx hb d_Field_multiply_360 hl (by decide) rfl (fun ls hl => ?_)
      refine lv_lload hx hb d_Field_multiply_362 (lv_at hl 10 rfl) ?_
      refine lv_lload hx hb d_Field_multiply_364 (lv_at hl 7 rfl) ?_
      refine lv_lload hx hb d_Field_multiply_366 (lv_at hl 26 rfl) ?_
      refine lv_lmul hx hb d_Field_multiply_368 ?_
      refine lv_ladd hx hb d_Field_multiply_369 ?_
      refine lv_lload hx hb d_Field_multiply_370 (lv_at hl 6 rfl) ?_
      refine lv_lload hx hb d_Field_multiply_372 (lv_at hl 40 rfl) ?_
      refine lv_lmul hx hb d_Field_multiply_374 ?_
      refine lv_ladd hx hb d_Field_multiply_375 ?_
      refine lv_lstore (lv' := [(73, .long ((t7 + (x9 * (fa 7))) + (m9 * (fq 7)))), (71, .long ((t6 + (x9 * (fa 6))) + (m9 * (fq 6)))), (69, .long ((t5 + (x9 * (fa 5))) + (m9 * (fq 5)))), (67, .long ((t4 + (x9 * (fa 4))) + (m9 * (fq 4)))), (65, .long ((t3 + (x9 * (fa 3))) + (m9 * (fq 3)))), (63, .long ((t2 + (x9 * (fa 2))) + (m9 * (fq 2)))), (61, .long (((((u9 + (m9 * (fq 0))) >>> ((nI 28).toInt64 &&& 63)) + t1) + (x9 * (fa 1))) + (m9 * (fq 1)))), (90, .long m9), (88, .long x9), (87, .int (nI i)), (75, .long t7), (77, .long t8), (79, .long t9), (81, .long t10), (83, .long t11), (85, .long t12), (0, .ref o), (1, .ref t), (3, .ref b), (4, .long (fa 0)), (6, .long (fa 1)), (8, .long (fa 2)), (10, .long (fa 3)), (12, .long (fa 4)), (14, .long (fa 5)), (16, .long (fa 6)), (18, .long (fa 7)), (20, .long (fa 8)), (22, .long (fa 9)), (24, .long (fa 10)), (26, .long (fa 11)), (28, .long (fa 12)), (30, .long (fa 13)), (33, .long (fq 0)), (35, .long (fq 1)), (37, .long (fq 2)), (39, .long (fq 3)), (41, .long (fq 4)), (43, .long (fq 5)), (45, .long (fq 6)), (47, .long (fq 7)), (49, .long (fq 8)), (51, .long (fq 9)), (53, .long (fq 10)), (55, .long (fq 11)), (57, .long (fq 12)), (59, .long (fq 13))]) hx hb d_Field_multiply_376 hl (by decide) rfl (fun ls hl => ?_)
      refine lv_lload hx hb d_Field_multiply_378 (lv_at hl 11 rfl) ?_
      refine lv_lload hx hb d_Field_multiply_380 (lv_at hl 8 rfl) ?_
      refine lv_lload hx hb d_Field_multiply_382 (lv_at hl 27 rfl) ?_
      refine lv_lmul hx hb d_Field_multiply_384 ?_
      refine lv_ladd hx hb d_Field_multiply_385 ?_
      refine lv_lload hx hb d_Field_multiply_386 (lv_at hl 7 rfl) ?_
      refine lv_lload hx hb d_Field_multiply_388 (lv_at hl 41 rfl) ?_
      refine lv_lmul hx hb d_Field_multiply_390 ?_
      refine lv_ladd hx hb d_Field_multiply_391 ?_
      refine lv_lstore (lv' := [(75, .long ((t8 + (x9 * (fa 8))) + (m9 * (fq 8)))), (73, .long ((t7 + (x9 * (fa 7))) + (m9 * (fq 7)))), (71, .long ((t6 + (x9 * (fa 6))) + (m9 * (fq 6)))), (69, .long ((t5 + (x9 * (fa 5))) + (m9 * (fq 5)))), (67, .long ((t4 + (x9 * (fa 4))) + (m9 * (fq 4)))), (65, .long ((t3 + (x9 * (fa 3))) + (m9 * (fq 3)))), (63, .long ((t2 + (x9 * (fa 2))) + (m9 * (fq 2)))), (61, .long (((((u9 + (m9 * (fq 0))) >>> ((nI 28).toInt64 &&& 63)) + t1) + (x9 * (fa 1))) + (m9 * (fq 1)))), (90, .long m9), (88, .long x9), (87, .int (nI i)), (77, .long t8), (79, .long t9), (81, .long t10), (83, .long t11), (85, .long t12), (0, .ref o), (1, .ref t), (3, .ref b), (4, .long (fa 0)), (6, .long (fa 1)), (8, .long (fa 2)), (10, .long (fa 3)), (12, .long (fa 4)), (14, .long (fa 5)), (16, .long (fa 6)), (18, .long (fa 7)), (20, .long (fa 8)), (22, .long (fa 9)), (24, .long (fa 10)), (26, .long (fa 11)), (28, .long (fa 12)), (30, .long (fa 13)), (33, .long (fq 0)), (35, .long (fq 1)), (37, .long (fq 2)), (39, .long (fq 3)), (41, .long (fq 4)), (43, .long (fq 5)), (45, .long (fq 6)), (47, .long (fq 7)), (49, .long (fq 8)), (51, .long (fq 9)), (53, .long (fq 10)), (55, .long (fq 11)), (57, .long (fq 12)), (59, .long (fq 13))]) hx hb d_Field_multiply_392 hl (by decide) rfl (fun ls hl => ?_)
      refine lv_lload hx hb d_Field_multiply_394 (lv_at hl 12 rfl) ?_
      refine lv_lload hx hb d_Field_multiply_396 (lv_at hl 9 rfl) ?_
      refine lv_lload hx hb d_Field_multiply_398 (lv_at hl 28 rfl) ?_
      refine lv_lmul hx hb d_Field_multiply_400 ?_
      refine lv_ladd hx hb d_Field_multiply_401 ?_
      refine lv_lload hx hb d_Field_multiply_402 (lv_at hl 8 rfl) ?_
      refine lv_lload hx hb d_Field_multiply_404 (lv_at hl 42 rfl) ?_
      refine lv_lmul hx hb d_Field_multiply_406 ?_
      refine lv_ladd hx hb d_Field_multiply_407 ?_
      refine lv_lstore (lv' := [(77, .long ((t9 + (x9 * (fa 9))) + (m9 * (fq 9)))), (75, .long ((t8 + (x9 * (fa 8))) + (m9 * (fq 8)))), (73, .long ((t7 + (x9 * (fa 7))) + (m9 * (fq 7)))), (71, .long ((t6 + (x9 * (fa 6))) + (m9 * (fq 6)))), (69, .long ((t5 + (x9 * (fa 5))) + (m9 * (fq 5)))), (67, .long ((t4 + (x9 * (fa 4))) + (m9 * (fq 4)))), (65, .long ((t3 + (x9 * (fa 3))) + (m9 * (fq 3)))), (63, .long ((t2 + (x9 * (fa 2))) + (m9 * (fq 2)))), (61, .long (((((u9 + (m9 * (fq 0))) >>> ((nI 28).toInt64 &&& 63)) + t1) + (x9 * (fa 1))) + (m9 * (fq 1)))), (90, .long m9), (88, .long x9), (87, .int (nI i)), (79, .long t9), (81, .long t10), (83, .long t11), (85, .long t12), (0, .ref o), (1, .ref t), (3, .ref b), (4, .long (fa 0)), (6, .long (fa 1)), (8, .long (fa 2)), (10, .long (fa 3)), (12, .long (fa 4)), (14, .long (fa 5)), (16, .long (fa 6)), (18, .long (fa 7)), (20, .long (fa 8)), (22, .long (fa 9)), (24, .long (fa 10)), (26, .long (fa 11)), (28, .long (fa 12)), (30, .long (fa 13)), (33, .long (fq 0)), (35, .long (fq 1)), (37, .long (fq 2)), (39, .long (fq 3)), (41, .long (fq 4)), (43, .long (fq 5)), (45, .long (fq 6)), (47, .long (fq 7)), (49, .long (fq 8)), (51, .long (fq 9)), (53, .long (fq 10)), (55, .long (fq 11)), (57, .long (fq 12)), (59, .long (fq 13))]) hx hb d_Field_multiply_408 hl (by decide) rfl (fun ls hl => ?_)
      refine lv_lload hx hb d_Field_multiply_410 (lv_at hl 13 rfl) ?_
      refine lv_lload hx hb d_Field_multiply_412 (lv_at hl 10 rfl) ?_
      refine lv_lload hx hb d_Field_multiply_414 (lv_at hl 29 rfl) ?_
      refine lv_lmul hx hb d_Field_multiply_416 ?_
      refine lv_ladd hx hb d_Field_multiply_417 ?_
      refine lv_lload hx hb d_Field_multiply_418 (lv_at hl 9 rfl) ?_
      refine lv_lload hx hb d_Field_multiply_420 (lv_at hl 43 rfl) ?_
      refine lv_lmul hx hb d_Field_multiply_422 ?_
      refine lv_ladd hx hb d_Field_multiply_423 ?_
      refine lv_lstore (lv' := [(79, .long ((t10 + (x9 * (fa 10))) + (m9 * (fq 10)))), (77, .long ((t9 + (x9 * (fa 9))) + (m9 * (fq 9)))), (75, .long ((t8 + (x9 * (fa 8))) + (m9 * (fq 8)))), (73, .long ((t7 + (x9 * (fa 7))) + (m9 * (fq 7)))), (71, .long ((t6 + (x9 * (fa 6))) + (m9 * (fq 6)))), (69, .long ((t5 + (x9 * (fa 5))) + (m9 * (fq 5)))), (67, .long ((t4 + (x9 * (fa 4))) + (m9 * (fq 4)))), (65, .long ((t3 + (x9 * (fa 3))) + (m9 * (fq 3)))), (63, .long ((t2 + (x9 * (fa 2))) + (m9 * (fq 2)))), (61, .long (((((u9 + (m9 * (fq 0))) >>> ((nI 28).toInt64 &&& 63)) + t1) + (x9 * (fa 1))) + (m9 * (fq 1)))), (90, .long m9), (88, .long x9), (87, .int (nI i)), (81, .long t10), (83, .long t11), (85, .long t12), (0, .ref o), (1, .ref t), (3, .ref b), (4, .long (fa 0)), (6, .long (fa 1)), (8, .long (fa 2)), (10, .long (fa 3)), (12, .long (fa 4)), (14, .long (fa 5)), (16, .long (fa 6)), (18, .long (fa 7)), (20, .long (fa 8)), (22, .long (fa 9)), (24, .long (fa 10)), (26, .long (fa 11)), (28, .long (fa 12)), (30, .long (fa 13)), (33, .long (fq 0)), (35, .long (fq 1)), (37, .long (fq 2)), (39, .long (fq 3)), (41, .long (fq 4)), (43, .long (fq 5)), (45, .long (fq 6)), (47, .long (fq 7)), (49, .long (fq 8)), (51, .long (fq 9)), (53, .long (fq 10)), (55, .long (fq 11)), (57, .long (fq 12)), (59, .long (fq 13))]) hx hb d_Field_multiply_424 hl (by decide) rfl (fun ls hl => ?_)
      refine lv_lload hx hb d_Field_multiply_426 (lv_at hl 14 rfl) ?_
      refine lv_lload hx hb d_Field_multiply_428 (lv_at hl 11 rfl) ?_
      refine lv_lload hx hb d_Field_multiply_430 (lv_at hl 30 rfl) ?_
      refine lv_lmul hx hb d_Field_multiply_432 ?_
      refine lv_ladd hx hb d_Field_multiply_433 ?_
      refine lv_lload hx hb d_Field_multiply_434 (lv_at hl 10 rfl) ?_
      refine lv_lload hx hb d_Field_multiply_436 (lv_at hl 44 rfl) ?_
      refine lv_lmul hx hb d_Field_multiply_438 ?_
      refine lv_ladd hx hb d_Field_multiply_439 ?_
      refine lv_lstore (lv' := [(81, .long ((t11 + (x9 * (fa 11))) + (m9 * (fq 11)))), (79, .long ((t10 + (x9 * (fa 10))) + (m9 * (fq 10)))), (77, .long ((t9 + (x9 * (fa 9))) + (m9 * (fq 9)))), (75, .long ((t8 + (x9 * (fa 8))) + (m9 * (fq 8)))), (73, .long ((t7 + (x9 * (fa 7))) + (m9 * (fq 7)))), (71, .long ((t6 + (x9 * (fa 6))) + (m9 * (fq 6)))), (69, .long ((t5 + (x9 * (fa 5))) + (m9 * (fq 5)))), (67, .long ((t4 + (x9 * (fa 4))) + (m9 * (fq 4)))), (65, .long ((t3 + (x9 * (fa 3))) + (m9 * (fq 3)))), (63, .long ((t2 + (x9 * (fa 2))) + (m9 * (fq 2)))), (61, .long (((((u9 + (m9 * (fq 0))) >>> ((nI 28).toInt64 &&& 63)) + t1) + (x9 * (fa 1))) + (m9 * (fq 1)))), (90, .long m9), (88, .long x9), (87, .int (nI i)), (83, .long t11), (85, .long t12), (0, .ref o), (1, .ref t), (3, .ref b), (4, .long (fa 0)), (6, .long (fa 1)), (8, .long (fa 2)), (10, .long (fa 3)), (12, .long (fa 4)), (14, .long (fa 5)), (16, .long (fa 6)), (18, .long (fa 7)), (20, .long (fa 8)), (22, .long (fa 9)), (24, .long (fa 10)), (26, .long (fa 11)), (28, .long (fa 12)), (30, .long (fa 13)), (33, .long (fq 0)), (35, .long (fq 1)), (37, .long (fq 2)), (39, .long (fq 3)), (41, .long (fq 4)), (43, .long (fq 5)), (45, .long (fq 6)), (47, .long (fq 7)), (49, .long (fq 8)), (51, .long (fq 9)), (53, .long (fq 10)), (55, .long (fq 11)), (57, .long (fq 12)), (59, .long (fq 13))]) hx hb d_Field_multiply_440 hl (by decide) rfl (fun ls hl => ?_)
      refine lv_lload hx hb d_Field_multiply_442 (lv_at hl 15 rfl) ?_
      refine lv_lload hx hb d_Field_multiply_444 (lv_at hl 12 rfl) ?_
      refine lv_lload hx hb d_Field_multiply_446 (lv_at hl 31 rfl) ?_
      refine lv_lmul hx hb d_Field_multiply_448 ?_
      refine lv_ladd hx hb d_Field_multiply_449 ?_
      refine lv_lload hx hb d_Field_multiply_450 (lv_at hl 11 rfl) ?_
      refine lv_lload hx hb d_Field_multiply_452 (lv_at hl 45 rfl) ?_
      refine lv_lmul hx hb d_Field_multiply_454 ?_
      refine lv_ladd hx hb d_Field_multiply_455 ?_
      refine lv_lstore (lv' := [(83, .long ((t12 + (x9 * (fa 12))) + (m9 * (fq 12)))), (81, .long ((t11 + (x9 * (fa 11))) + (m9 * (fq 11)))), (79, .long ((t10 + (x9 * (fa 10))) + (m9 * (fq 10)))), (77, .long ((t9 + (x9 * (fa 9))) + (m9 * (fq 9)))), (75, .long ((t8 + (x9 * (fa 8))) + (m9 * (fq 8)))), (73, .long ((t7 + (x9 * (fa 7))) + (m9 * (fq 7)))), (71, .long ((t6 + (x9 * (fa 6))) + (m9 * (fq 6)))), (69, .long ((t5 + (x9 * (fa 5))) + (m9 * (fq 5)))), (67, .long ((t4 + (x9 * (fa 4))) + (m9 * (fq 4)))), (65, .long ((t3 + (x9 * (fa 3))) + (m9 * (fq 3)))), (63, .long ((t2 + (x9 * (fa 2))) + (m9 * (fq 2)))), (61, .long (((((u9 + (m9 * (fq 0))) >>> ((nI 28).toInt64 &&& 63)) + t1) + (x9 * (fa 1))) + (m9 * (fq 1)))), (90, .long m9), (88, .long x9), (87, .int (nI i)), (85, .long t12), (0, .ref o), (1, .ref t), (3, .ref b), (4, .long (fa 0)), (6, .long (fa 1)), (8, .long (fa 2)), (10, .long (fa 3)), (12, .long (fa 4)), (14, .long (fa 5)), (16, .long (fa 6)), (18, .long (fa 7)), (20, .long (fa 8)), (22, .long (fa 9)), (24, .long (fa 10)), (26, .long (fa 11)), (28, .long (fa 12)), (30, .long (fa 13)), (33, .long (fq 0)), (35, .long (fq 1)), (37, .long (fq 2)), (39, .long (fq 3)), (41, .long (fq 4)), (43, .long (fq 5)), (45, .long (fq 6)), (47, .long (fq 7)), (49, .long (fq 8)), (51, .long (fq 9)), (53, .long (fq 10)), (55, .long (fq 11)), (57, .long (fq 12)), (59, .long (fq 13))]) hx hb d_Field_multiply_456 hl (by decide) rfl (fun ls hl => ?_)
      refine lv_lload hx hb d_Field_multiply_458 (lv_at hl 13 rfl) ?_
      refine lv_lload hx hb d_Field_multiply_460 (lv_at hl 32 rfl) ?_
      refine lv_lmul hx hb d_Field_multiply_462 ?_
      refine lv_lload hx hb d_Field_multiply_463 (lv_at hl 12 rfl) ?_
      refine lv_lload hx hb d_Field_multiply_465 (lv_at hl 46 rfl) ?_
      refine lv_lmul hx hb d_Field_multiply_467 ?_
      refine lv_ladd hx hb d_Field_multiply_468 ?_
      refine lv_lstore (lv' := [(85, .long ((x9 * (fa 13)) + (m9 * (fq 13)))), (83, .long ((t12 + (x9 * (fa 12))) + (m9 * (fq 12)))), (81, .long ((t11 + (x9 * (fa 11))) + (m9 * (fq 11)))), (79, .long ((t10 + (x9 * (fa 10))) + (m9 * (fq 10)))), (77, .long ((t9 + (x9 * (fa 9))) + (m9 * (fq 9)))), (75, .long ((t8 + (x9 * (fa 8))) + (m9 * (fq 8)))), (73, .long ((t7 + (x9 * (fa 7))) + (m9 * (fq 7)))), (71, .long ((t6 + (x9 * (fa 6))) + (m9 * (fq 6)))), (69, .long ((t5 + (x9 * (fa 5))) + (m9 * (fq 5)))), (67, .long ((t4 + (x9 * (fa 4))) + (m9 * (fq 4)))), (65, .long ((t3 + (x9 * (fa 3))) + (m9 * (fq 3)))), (63, .long ((t2 + (x9 * (fa 2))) + (m9 * (fq 2)))), (61, .long (((((u9 + (m9 * (fq 0))) >>> ((nI 28).toInt64 &&& 63)) + t1) + (x9 * (fa 1))) + (m9 * (fq 1)))), (90, .long m9), (88, .long x9), (87, .int (nI i)), (0, .ref o), (1, .ref t), (3, .ref b), (4, .long (fa 0)), (6, .long (fa 1)), (8, .long (fa 2)), (10, .long (fa 3)), (12, .long (fa 4)), (14, .long (fa 5)), (16, .long (fa 6)), (18, .long (fa 7)), (20, .long (fa 8)), (22, .long (fa 9)), (24, .long (fa 10)), (26, .long (fa 11)), (28, .long (fa 12)), (30, .long (fa 13)), (33, .long (fq 0)), (35, .long (fq 1)), (37, .long (fq 2)), (39, .long (fq 3)), (41, .long (fq 4)), (43, .long (fq 5)), (45, .long (fq 6)), (47, .long (fq 7)), (49, .long (fq 8)), (51, .long (fq 9)), (53, .long (fq 10)), (55, .long (fq 11)), (57, .long (fq 12)), (59, .long (fq 13))]) hx hb d_Field_multiply_469 hl (by decide) rfl (fun ls hl => ?_)
      refine lv_iinc (k := 15) (v := nI (i + 1)) (lv' := [(87, .int (nI (i + 1))), (85, .long ((x9 * (fa 13)) + (m9 * (fq 13)))), (83, .long ((t12 + (x9 * (fa 12))) + (m9 * (fq 12)))), (81, .long ((t11 + (x9 * (fa 11))) + (m9 * (fq 11)))), (79, .long ((t10 + (x9 * (fa 10))) + (m9 * (fq 10)))), (77, .long ((t9 + (x9 * (fa 9))) + (m9 * (fq 9)))), (75, .long ((t8 + (x9 * (fa 8))) + (m9 * (fq 8)))), (73, .long ((t7 + (x9 * (fa 7))) + (m9 * (fq 7)))), (71, .long ((t6 + (x9 * (fa 6))) + (m9 * (fq 6)))), (69, .long ((t5 + (x9 * (fa 5))) + (m9 * (fq 5)))), (67, .long ((t4 + (x9 * (fa 4))) + (m9 * (fq 4)))), (65, .long ((t3 + (x9 * (fa 3))) + (m9 * (fq 3)))), (63, .long ((t2 + (x9 * (fa 2))) + (m9 * (fq 2)))), (61, .long (((((u9 + (m9 * (fq 0))) >>> ((nI 28).toInt64 &&& 63)) + t1) + (x9 * (fa 1))) + (m9 * (fq 1)))), (90, .long m9), (88, .long x9), (0, .ref o), (1, .ref t), (3, .ref b), (4, .long (fa 0)), (6, .long (fa 1)), (8, .long (fa 2)), (10, .long (fa 3)), (12, .long (fa 4)), (14, .long (fa 5)), (16, .long (fa 6)), (18, .long (fa 7)), (20, .long (fa 8)), (22, .long (fa 9)), (24, .long (fa 10)), (26, .long (fa 11)), (28, .long (fa 12)), (30, .long (fa 13)), (33, .long (fq 0)), (35, .long (fq 1)), (37, .long (fq 2)), (39, .long (fq 3)), (41, .long (fq 4)), (43, .long (fq 5)), (45, .long (fq 6)), (47, .long (fq 7)), (49, .long (fq 8)), (51, .long (fq 9)), (53, .long (fq 10)), (55, .long (fq 11)), (57, .long (fq 12)), (59, .long (fq 13))]) hx hb d_Field_multiply_471 hl rfl (i_inc i) (by decide) rfl (fun ls hl => ?_)
      refine lv_goto (tgt := 218) hx hb d_Field_multiply_474 (by decide) ?_
      have hl : lv_has ls 92 [(87, .int (nI (i + 1))), (61, .long (((((u9 + (m9 * (fq 0))) >>> ((nI 28).toInt64 &&& 63)) + t1) + (x9 * (fa 1))) + (m9 * (fq 1)))), (63, .long ((t2 + (x9 * (fa 2))) + (m9 * (fq 2)))), (65, .long ((t3 + (x9 * (fa 3))) + (m9 * (fq 3)))), (67, .long ((t4 + (x9 * (fa 4))) + (m9 * (fq 4)))), (69, .long ((t5 + (x9 * (fa 5))) + (m9 * (fq 5)))), (71, .long ((t6 + (x9 * (fa 6))) + (m9 * (fq 6)))), (73, .long ((t7 + (x9 * (fa 7))) + (m9 * (fq 7)))), (75, .long ((t8 + (x9 * (fa 8))) + (m9 * (fq 8)))), (77, .long ((t9 + (x9 * (fa 9))) + (m9 * (fq 9)))), (79, .long ((t10 + (x9 * (fa 10))) + (m9 * (fq 10)))), (81, .long ((t11 + (x9 * (fa 11))) + (m9 * (fq 11)))), (83, .long ((t12 + (x9 * (fa 12))) + (m9 * (fq 12)))), (85, .long ((x9 * (fa 13)) + (m9 * (fq 13)))), (0, .ref o), (1, .ref t), (3, .ref b), (4, .long (fa 0)), (6, .long (fa 1)), (8, .long (fa 2)), (10, .long (fa 3)), (12, .long (fa 4)), (14, .long (fa 5)), (16, .long (fa 6)), (18, .long (fa 7)), (20, .long (fa 8)), (22, .long (fa 9)), (24, .long (fa 10)), (26, .long (fa 11)), (28, .long (fa 12)), (30, .long (fa 13)), (33, .long (fq 0)), (35, .long (fq 1)), (37, .long (fq 2)), (39, .long (fq 3)), (41, .long (fq 4)), (43, .long (fq 5)), (45, .long (fq 6)), (47, .long (fq 7)), (49, .long (fq 8)), (51, .long (fq 9)), (53, .long (fq 10)), (55, .long (fq 11)), (57, .long (fq 12)), (59, .long (fq 13))] := lv_sub hl [0, 13, 12, 11, 10, 9, 8, 7, 6, 5, 4, 3, 2, 1, 16, 17, 18, 19, 20, 21, 22, 23, 24, 25, 26, 27, 28, 29, 30, 31, 32, 33, 34, 35, 36, 37, 38, 39, 40, 41, 42, 43, 44, 45, 46] rfl
      exact ih (i + 1) ls _ _ _ _ _ _ _ _ _ _ _ _ _ (by omega) (MI.step hi14 hfa.1 hfq.1 (by rw [ex]; exact hfb.1 i hi14) ex hmi hI eu em) hl
  have hl : lv_has ls 92 [(87, .int (nI 0)), (61, .long 0), (63, .long 0), (65, .long 0), (67, .long 0), (69, .long 0), (71, .long 0), (73, .long 0), (75, .long 0), (77, .long 0), (79, .long 0), (81, .long 0), (83, .long 0), (85, .long 0), (0, .ref o), (1, .ref t), (3, .ref b), (4, .long (fa 0)), (6, .long (fa 1)), (8, .long (fa 2)), (10, .long (fa 3)), (12, .long (fa 4)), (14, .long (fa 5)), (16, .long (fa 6)), (18, .long (fa 7)), (20, .long (fa 8)), (22, .long (fa 9)), (24, .long (fa 10)), (26, .long (fa 11)), (28, .long (fa 12)), (30, .long (fa 13)), (33, .long (fq 0)), (35, .long (fq 1)), (37, .long (fq 2)), (39, .long (fq 3)), (41, .long (fq 4)), (43, .long (fq 5)), (45, .long (fq 6)), (47, .long (fq 7)), (49, .long (fq 8)), (51, .long (fq 9)), (53, .long (fq 10)), (55, .long (fq 11)), (57, .long (fq 12)), (59, .long (fq 13))] := lv_sub hl [0, 13, 12, 11, 10, 9, 8, 7, 6, 5, 4, 3, 2, 1, 43, 44, 46, 42, 41, 40, 39, 38, 37, 36, 35, 34, 33, 32, 31, 30, 29, 27, 26, 25, 24, 23, 22, 21, 20, 19, 18, 17, 16, 15, 14] rfl
  exact loop 14 0 ls 0 0 0 0 0 0 0 0 0 0 0 0 0 rfl MI_0 hl
