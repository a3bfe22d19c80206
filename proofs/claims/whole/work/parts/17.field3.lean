set_option maxHeartbeats 4000000 in
set_option maxRecDepth 100000 in
theorem c_Field_lift (l : Launch) (g : WG) (n0 : Nat → Prop) (o t a : Nat) (F : Nat → Nat) (mi : Int64) : Ctr l y_Field_lift (.code y_Field_lift prog_3_method_9_code 3 none) 2 135 0 0 n0 g [.ref o, .ref t, .ref a] (fun H => FD g n0 H o F mi ∧ J14 g n0 H t ∧ J14 g n0 H a) (QV (fun H H' => KJ g (fun q => q = t) H H')) := by
  refine ctr_mk l (lv0 := [(0, .ref o), (1, .ref t), (2, .ref a)]) (by decide) (Nat.le_of_ble_eq_true rfl) rfl ?_
  intro p e s m below meth c ls E hr hlk hnm hl hP
  have hx := E.1
  have hb := E.2.1
  have hK := E.2.2.2.2.2
  have hF : ∀ q ∈ ([] : List Loc), n0 q.base := fun q hq => absurd hq List.not_mem_nil
  obtain ⟨hfd, ht, ha⟩ := hP
  have hk : KJ g (fun q => q = t) s.heap s.heap := KJ.rf
  refine lv_aload_n hx hb d_Field_lift_0 rfl (lv_at hl 0 rfl) ?_
  refine lv_aload_n hx hb d_Field_lift_1 rfl (lv_at hl 1 rfl) ?_
  refine lv_aload_n hx hb d_Field_lift_2 rfl (lv_at hl 2 rfl) ?_
  refine lv_aload_n hx hb d_Field_lift_3 rfl (lv_at hl 0 rfl) ?_
  refine q_get (C := "KateDesk$Field") (T := T_Field) (N := 7) (ci := 1) E ((hk.fd hK hfd).1) in_Field rfl 3 (by decide) w_179 rfl rfl d_Field_lift_4 ?_
  refine q_cV (rest := []) E (c_Field_multiplyT l g n0 o t a (F 3) F mi) w_165 w_4 w_162 w_163 w_164 hd_Field_multiply rfl ⟨by decide, by decide⟩ (OB.recv E.2.2.2.2.2 (by rfl) ((hk.fd hK hfd).1)) (⟨hk.fd hK hfd, hk.j ht, (hk.j ha).t, (hk.fd hK hfd).2 3 (by decide)⟩) hF hl.1 rfl (Nat.le_of_ble_eq_true rfl) d_Field_lift_7 ⟨by decide, by decide⟩ (qv (fun H1 locs hq hF => ?_))
  have hk := hk.tr hq
  exact q_vret E hr hlk (⟨rfl, hk⟩) hF d_Field_lift_10