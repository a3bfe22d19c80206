theorem RW9.frm {g : WG} {S : Nat → Prop} {H H' : Heap} {o ce t : Nat} (h : RW9 g H o ce t) (hf : FRM S H H') (h1 : ¬ S o) (h2 : ¬ S ce) : RW9 g H' o ce t := ⟨h.1.eq (hf.2 _ h1), h.2.imp (fun f hf' => hf'.eq (hf.2 _ h2))⟩
theorem J14.frm {g : WG} {n0 : Nat → Prop} {S : Nat → Prop} {H H' : Heap} {a : Nat} (h : J14 g n0 H a) (hf : FRM S H H') (h1 : ¬ S a) : J14 g n0 H' a := ⟨h.1, h.2.imp (fun f hf' => hf'.eq (hf.2 _ h1))⟩
theorem PT.frm {g : WG} {n0 : Nat → Prop} {S : Nat → Prop} {H H' : Heap} {o x y z : Nat} (h : PT g n0 H o x y z) (hf : FRM S H H') (h0 : ¬ S o) (h1 : ¬ S x) (h2 : ¬ S y) (h3 : ¬ S z) : PT g n0 H' o x y z := ⟨h.1.eq (hf.2 _ h0), h.2.1.frm hf h1, h.2.2.1.frm hf h2, h.2.2.2.frm hf h3⟩
theorem FD.frm {g : WG} {n0 : Nat → Prop} {S : Nat → Prop} {H H' : Heap} {o : Nat} {F : Nat → Nat} {mi : Int64} (h : FD g n0 H o F mi) (hf : FRM S H H') (h0 : ¬ S o) (h1 : ∀ k, k < 6 → ¬ S (F k)) : FD g n0 H' o F mi := ⟨h.1.eq (hf.2 _ h0), fun k hk => (h.2 k hk).frm hf (h1 k hk)⟩
theorem CV.frm {g : WG} {n0 : Nat → Prop} {S : Nat → Prop} {H H' : Heap} {o fo : Nat} {F : Nat → Nat} {mi : Int64} {X : Nat → Nat} (h : CV g n0 H o fo F mi X) (hf : FRM S H H') (h0 : ¬ S o) (h1 : ¬ S fo) (h2 : ∀ k, k < 6 → ¬ S (F k)) (h3 : ∀ k, k < 9 → ¬ S (X k)) : CV g n0 H' o fo F mi X := ⟨h.1.eq (hf.2 _ h0), h.2.1.frm hf h1 h2, fun k hk => (h.2.2 k hk).frm hf (h3 k hk)⟩
theorem FMX.frm {g : WG} {n0 : Nat → Prop} {S : Nat → Prop} {H H' : Heap} {o cu fi : Nat} {F : Nat → Nat} {mi : Int64} {X : Nat → Nat} {r1 r2 r3 r4 : Nat} (h : FMX g n0 H o cu fi F mi X r1 r2 r3 r4) (hf : FRM S H H') (hn : ∀ q, n0 q → ¬ S q) (h0 : ¬ S o) (h1 : ¬ S cu) (h2 : ¬ S fi) : FMX g n0 H' o cu fi F mi X r1 r2 r3 r4 := ⟨h.1.eq (hf.2 _ h0), h.2.1.frm hf h1 h2 (fun k hk => hn _ (h.2.1.2.1.2 k hk).1) (fun k hk => hn _ (h.2.1.2.2 k hk).1), h.2.2.1.frm hf (hn _ h.2.2.1.1), h.2.2.2.1.frm hf (hn _ h.2.2.2.1.1), h.2.2.2.2.1.frm hf (hn _ h.2.2.2.2.1.1), h.2.2.2.2.2.frm hf (hn _ h.2.2.2.2.2.1)⟩
abbrev y_Forms_writeCoordinate : MethodName := ⟨"KateDesk$Forms", "writeCoordinate", "(LKateDesk$Row;[JI)V"⟩
theorem hd_Forms_writeCoordinate : y_Forms_writeCoordinate.cls ≠ "java/lang/invoke/MethodHandle" ∧ y_Forms_writeCoordinate.cls ≠ "java/lang/invoke/VarHandle" ∧ (parseMethodDescriptor y_Forms_writeCoordinate.desc).map (fun d => d.parameters.length) = some 3 := by decide +kernel
theorem d_Forms_writeCoordinate_0 : decode prog_4_method_9_code 0 = .ok (.aload_n 0, 1) := by decide +kernel
theorem d_Forms_writeCoordinate_1 : decode prog_4_method_9_code 1 = .ok (.iload_n 2, 1) := by decide +kernel
theorem d_Forms_writeCoordinate_2 : decode prog_4_method_9_code 2 = .ok (.iconst 5, 1) := by decide +kernel
theorem d_Forms_writeCoordinate_3 : decode prog_4_method_9_code 3 = .ok (.ishl, 1) := by decide +kernel
theorem d_Forms_writeCoordinate_4 : decode prog_4_method_9_code 4 = .ok (.aload_n 1, 1) := by decide +kernel
theorem d_Forms_writeCoordinate_5 : decode prog_4_method_9_code 5 = .ok (.sipush 376, 3) := by decide +kernel
theorem d_Forms_writeCoordinate_8 : decode prog_4_method_9_code 8 = .ok (.bipush 8, 2) := by decide +kernel
theorem d_Forms_writeCoordinate_10 : decode prog_4_method_9_code 10 = .ok (.invokestatic 143, 3) := by decide +kernel
theorem d_Forms_writeCoordinate_13 : decode prog_4_method_9_code 13 = .ok (.l2i, 1) := by decide +kernel
theorem d_Forms_writeCoordinate_14 : decode prog_4_method_9_code 14 = .ok (.ior, 1) := by decide +kernel
theorem d_Forms_writeCoordinate_15 : decode prog_4_method_9_code 15 = .ok (.invokevirtual 132, 3) := by decide +kernel
theorem d_Forms_writeCoordinate_18 : decode prog_4_method_9_code 18 = .ok (.bipush 46, 2) := by decide +kernel
theorem d_Forms_writeCoordinate_20 : decode prog_4_method_9_code 20 = .ok (.istore_n 3, 1) := by decide +kernel
theorem d_Forms_writeCoordinate_21 : decode prog_4_method_9_code 21 = .ok (.iload_n 3, 1) := by decide +kernel
theorem d_Forms_writeCoordinate_22 : decode prog_4_method_9_code 22 = .ok (.ifCond .lt 24, 3) := by decide +kernel
theorem d_Forms_writeCoordinate_25 : decode prog_4_method_9_code 25 = .ok (.aload_n 0, 1) := by decide +kernel
theorem d_Forms_writeCoordinate_26 : decode prog_4_method_9_code 26 = .ok (.aload_n 1, 1) := by decide +kernel
theorem d_Forms_writeCoordinate_27 : decode prog_4_method_9_code 27 = .ok (.bipush 8, 2) := by decide +kernel
theorem d_Forms_writeCoordinate_29 : decode prog_4_method_9_code 29 = .ok (.iload_n 3, 1) := by decide +kernel
theorem d_Forms_writeCoordinate_30 : decode prog_4_method_9_code 30 = .ok (.imul, 1) := by decide +kernel
theorem d_Forms_writeCoordinate_31 : decode prog_4_method_9_code 31 = .ok (.bipush 8, 2) := by decide +kernel
theorem d_Forms_writeCoordinate_33 : decode prog_4_method_9_code 33 = .ok (.invokestatic 143, 3) := by decide +kernel
theorem d_Forms_writeCoordinate_36 : decode prog_4_method_9_code 36 = .ok (.l2i, 1) := by decide +kernel
theorem d_Forms_writeCoordinate_37 : decode prog_4_method_9_code 37 = .ok (.invokevirtual 132, 3) := by decide +kernel
theorem d_Forms_writeCoordinate_40 : decode prog_4_method_9_code 40 = .ok (.iinc 3 (-1), 3) := by decide +kernel
theorem d_Forms_writeCoordinate_43 : decode prog_4_method_9_code 43 = .ok (.goto (-22), 3) := by decide +kernel
theorem d_Forms_writeCoordinate_46 : decode prog_4_method_9_code 46 = .ok (.return_, 1) := by decide +kernel
theorem d_Forms_write_65 : decode prog_4_method_8_code 65 = .ok (.getfield 24, 3) := by decide +kernel
theorem d_Forms_write_68 : decode prog_4_method_8_code 68 = .ok (.aload_n 0, 1) := by decide +kernel
theorem d_Forms_write_69 : decode prog_4_method_8_code 69 = .ok (.getfield 15, 3) := by decide +kernel
theorem d_Forms_write_72 : decode prog_4_method_8_code 72 = .ok (.aload_n 2, 1) := by decide +kernel
theorem d_Forms_write_73 : decode prog_4_method_8_code 73 = .ok (.getfield 84, 3) := by decide +kernel
theorem d_Forms_write_76 : decode prog_4_method_8_code 76 = .ok (.invokevirtual 136, 3) := by decide +kernel
theorem d_Forms_write_79 : decode prog_4_method_8_code 79 = .ok (.aload_n 0, 1) := by decide +kernel
theorem d_Forms_write_80 : decode prog_4_method_8_code 80 = .ok (.getfield 24, 3) := by decide +kernel
theorem d_Forms_write_83 : decode prog_4_method_8_code 83 = .ok (.aload_n 0, 1) := by decide +kernel
theorem d_Forms_write_84 : decode prog_4_method_8_code 84 = .ok (.getfield 21, 3) := by decide +kernel
theorem d_Forms_write_87 : decode prog_4_method_8_code 87 = .ok (.aload_n 2, 1) := by decide +kernel
theorem d_Forms_write_88 : decode prog_4_method_8_code 88 = .ok (.getfield 71, 3) := by decide +kernel
theorem d_Forms_write_91 : decode prog_4_method_8_code 91 = .ok (.aload_n 0, 1) := by decide +kernel
theorem d_Forms_write_92 : decode prog_4_method_8_code 92 = .ok (.getfield 15, 3) := by decide +kernel
theorem d_Forms_write_95 : decode prog_4_method_8_code 95 = .ok (.invokevirtual 93, 3) := by decide +kernel
theorem d_Forms_write_98 : decode prog_4_method_8_code 98 = .ok (.aload_n 0, 1) := by decide +kernel
theorem d_Forms_write_99 : decode prog_4_method_8_code 99 = .ok (.getfield 24, 3) := by decide +kernel
theorem d_Forms_write_102 : decode prog_4_method_8_code 102 = .ok (.aload_n 0, 1) := by decide +kernel
theorem d_Forms_write_103 : decode prog_4_method_8_code 103 = .ok (.getfield 21, 3) := by decide +kernel
theorem d_Forms_write_106 : decode prog_4_method_8_code 106 = .ok (.aload_n 0, 1) := by decide +kernel
theorem d_Forms_write_107 : decode prog_4_method_8_code 107 = .ok (.getfield 21, 3) := by decide +kernel
theorem d_Forms_write_110 : decode prog_4_method_8_code 110 = .ok (.invokevirtual 118, 3) := by decide +kernel
theorem d_Forms_write_113 : decode prog_4_method_8_code 113 = .ok (.iload_n 3, 1) := by decide +kernel
theorem d_Forms_write_114 : decode prog_4_method_8_code 114 = .ok (.ifCond .eq 17, 3) := by decide +kernel
theorem d_Forms_write_117 : decode prog_4_method_8_code 117 = .ok (.aload_n 0, 1) := by decide +kernel
theorem d_Forms_write_118 : decode prog_4_method_8_code 118 = .ok (.aload_n 0, 1) := by decide +kernel
theorem d_Forms_write_119 : decode prog_4_method_8_code 119 = .ok (.getfield 21, 3) := by decide +kernel
theorem d_Forms_write_122 : decode prog_4_method_8_code 122 = .ok (.invokevirtual 121, 3) := by decide +kernel
theorem d_Forms_write_125 : decode prog_4_method_8_code 125 = .ok (.ifCond .eq 6, 3) := by decide +kernel
theorem d_Forms_write_128 : decode prog_4_method_8_code 128 = .ok (.iinc 4 1, 3) := by decide +kernel
theorem d_Forms_write_131 : decode prog_4_method_8_code 131 = .ok (.aload_n 0, 1) := by decide +kernel
theorem d_Forms_write_132 : decode prog_4_method_8_code 132 = .ok (.getfield 24, 3) := by decide +kernel
theorem d_Forms_write_135 : decode prog_4_method_8_code 135 = .ok (.aload_n 0, 1) := by decide +kernel
theorem d_Forms_write_136 : decode prog_4_method_8_code 136 = .ok (.getfield 18, 3) := by decide +kernel
theorem d_Forms_write_139 : decode prog_4_method_8_code 139 = .ok (.aload_n 2, 1) := by decide +kernel
theorem d_Forms_write_140 : decode prog_4_method_8_code 140 = .ok (.getfield 64, 3) := by decide +kernel
theorem d_Forms_write_143 : decode prog_4_method_8_code 143 = .ok (.aload_n 0, 1) := by decide +kernel
theorem d_Forms_write_144 : decode prog_4_method_8_code 144 = .ok (.getfield 15, 3) := by decide +kernel
theorem d_Forms_write_147 : decode prog_4_method_8_code 147 = .ok (.invokevirtual 93, 3) := by decide +kernel
theorem d_Forms_write_150 : decode prog_4_method_8_code 150 = .ok (.aload_n 0, 1) := by decide +kernel
theorem d_Forms_write_151 : decode prog_4_method_8_code 151 = .ok (.getfield 24, 3) := by decide +kernel
theorem d_Forms_write_154 : decode prog_4_method_8_code 154 = .ok (.aload_n 0, 1) := by decide +kernel
theorem d_Forms_write_155 : decode prog_4_method_8_code 155 = .ok (.getfield 18, 3) := by decide +kernel
theorem d_Forms_write_158 : decode prog_4_method_8_code 158 = .ok (.aload_n 0, 1) := by decide +kernel
theorem d_Forms_write_159 : decode prog_4_method_8_code 159 = .ok (.getfield 18, 3) := by decide +kernel
theorem d_Forms_write_162 : decode prog_4_method_8_code 162 = .ok (.invokevirtual 118, 3) := by decide +kernel
theorem d_Forms_write_165 : decode prog_4_method_8_code 165 = .ok (.aload_n 1, 1) := by decide +kernel
theorem d_Forms_write_166 : decode prog_4_method_8_code 166 = .ok (.aload_n 0, 1) := by decide +kernel
theorem d_Forms_write_167 : decode prog_4_method_8_code 167 = .ok (.getfield 18, 3) := by decide +kernel
theorem d_Forms_write_170 : decode prog_4_method_8_code 170 = .ok (.iload 4, 2) := by decide +kernel
theorem d_Forms_write_172 : decode prog_4_method_8_code 172 = .ok (.invokestatic 139, 3) := by decide +kernel
theorem d_Forms_write_175 : decode prog_4_method_8_code 175 = .ok (.iload_n 3, 1) := by decide +kernel
theorem d_Forms_write_176 : decode prog_4_method_8_code 176 = .ok (.ifCond .ne 12, 3) := by decide +kernel
theorem d_Forms_write_179 : decode prog_4_method_8_code 179 = .ok (.aload_n 1, 1) := by decide +kernel
theorem d_Forms_write_180 : decode prog_4_method_8_code 180 = .ok (.aload_n 0, 1) := by decide +kernel
theorem d_Forms_write_181 : decode prog_4_method_8_code 181 = .ok (.getfield 21, 3) := by decide +kernel
theorem d_Forms_write_184 : decode prog_4_method_8_code 184 = .ok (.iconst 0, 1) := by decide +kernel
theorem d_Forms_write_185 : decode prog_4_method_8_code 185 = .ok (.invokestatic 139, 3) := by decide +kernel
theorem d_Forms_write_188 : decode prog_4_method_8_code 188 = .ok (.return_, 1) := by decide +kernel
set_option maxHeartbeats 4000000 in
set_option maxRecDepth 100000 in
theorem v_Forms_writeCoordinate (l : Launch) (g : WG) (n0 : Nat → Prop) (rw ce ts a : Nat) (mk : Int32) (hts : ts ≤ 48) (hnr : n0 rw) (hnc : n0 ce) (h1 : a ≠ rw) (h2 : a ≠ ce) : Ctr l y_Forms_writeCoordinate (.code y_Forms_writeCoordinate prog_4_method_9_code 4 none) 1 26 0 0 n0 g [.ref rw, .ref a, .int mk] (fun H => RW9 g H rw ce ts ∧ J14 g n0 H a) (QV (fun H H' => FRM (fun q => q = rw ∨ q = ce) H H' ∧ RW9 g H' rw ce (ts + 48))) := by
  refine ctr_mk l (lv0 := [(0, .ref rw), (1, .ref a), (2, .int mk)]) (by decide) (Nat.le_of_ble_eq_true rfl) rfl ?_
  intro p e s m below meth c ls E hr hlk hnm hl hP
  have hx := E.1
  have hb := E.2.1
  have hK := E.2.2.2.2.2
  have hF : ∀ q ∈ ([] : List Loc), n0 q.base := fun q hq => absurd hq List.not_mem_nil
  obtain ⟨hrw, h_a⟩ := hP
  have hfr : FRM (fun q => q = rw ∨ q = ce) s.heap s.heap := FRM.rf
  refine lv_aload_n hx hb d_Forms_writeCoordinate_0 rfl (lv_at hl 0 rfl) ?_
  refine lv_iload_n hx hb d_Forms_writeCoordinate_1 rfl (lv_at hl 2 rfl) ?_
  refine lv_iconst (v := nI 5) hx hb d_Forms_writeCoordinate_2 (by decide) ?_
  refine lv_ishl hx hb d_Forms_writeCoordinate_3 ?_
  refine lv_aload_n hx hb d_Forms_writeCoordinate_4 rfl (lv_at hl 1 rfl) ?_
  refine lv_sipush (v := nI 376) hx hb d_Forms_writeCoordinate_5 (by decide) ?_
  refine lv_bipush (v := nI 8) hx hb d_Forms_writeCoordinate_8 (by decide) ?_
  refine q_cS (rest := [.int (mk <<< ((nI 5) &&& 31)), .ref rw]) E (c_Limbs_bits l g n0 a (nI 376) (nI 8)) w_271 w_5 w_748 w_270 hd_Limbs_bits rfl ⟨by decide, by decide⟩ (h_a.frm hfr (fun h => h.elim h1 h2)) hF hl.1 rfl (Nat.le_of_ble_eq_true rfl) d_Forms_writeCoordinate_10 ⟨by decide, by decide⟩ (ql (fun rz1 H1 locs hq hF => ?_))
  have hq := hq.symm
  subst hq
  refine lv_l2i (v := rz1.toInt32) hx hb d_Forms_writeCoordinate_13 rfl ?_
  refine lv_ior hx hb d_Forms_writeCoordinate_14 ?_
  refine lv_topi (fun v2 _ => ?_)
  refine q_cV (rest := []) E (c_Row_append l g n0 rw ce ts v2 (by omega)) w_484 w_3 w_743 w_482 w_483 hd_Row_append rfl ⟨by decide, by decide⟩ (OB.recv E.2.2.2.2.2 (by rfl) hrw.1) (⟨hrw.1, hrw.2, hnr, hnc⟩) hF hl.1 rfl (Nat.le_of_ble_eq_true rfl) d_Forms_writeCoordinate_15 ⟨by decide, by decide⟩ (qv (fun H2 locs hq hF => ?_))
  obtain ⟨hf9, ho9, hb9⟩ := hq
  have hfr := hfr.tr hf9
  have hrw : RW9 g H2 rw ce (ts + 1) := ⟨ho9, hb9⟩
  clear hf9 ho9 hb9
  have lp : ∀ (k : Nat) (i : Nat) (H : Heap) (locs : List Loc) (ls : Array Slot) (x : Int32), i + k = ts + 48 → x = nI k - 1 → FRM (fun q => q = rw ∨ q = ce) s.heap H → RW9 g H rw ce i → (∀ q ∈ locs, n0 q.base) → lv_has ls 4 [(3, .int x), (0, .ref rw), (1, .ref a), (2, .int mk)] → W p l e { frames := 1, cells := 0, slots := 0, locals := 26 } s m [.ref rw, .ref a, .int mk].toArray below meth c H locs 0 0 (MQ below (QcP (QV (fun H H' => FRM (fun q => q = rw ∨ q = ce) H H' ∧ RW9 g H' rw ce (ts + 48)))) [.ref rw, .ref a, .int mk].toArray s 0 0 (fun q => n0 q)) (F0 m 21 ls []) := by
    intro k
    induction k with
    | zero =>
      intro  i   H   locs   ls   x hi hxx hfr hrw hF hl
      subst hxx
      refine lv_iload_n hx hb d_Forms_writeCoordinate_21 rfl (lv_at hl 0 rfl) ?_
      refine lv_if_lt (tgt := 46) hx hb d_Forms_writeCoordinate_22 (by decide) (fun _ => ?_) (fun h9 => absurd (by decide) h9)
      obtain rfl : i = ts + 48 := by omega
      exact q_vret E hr hlk (⟨rfl, hfr, hrw⟩) hF d_Forms_writeCoordinate_46
    | succ k ih =>
      intro  i   H   locs   ls   x hi hxx hfr hrw hF hl
      rw [nI_pred] at hxx
      subst hxx
      refine lv_iload_n hx hb d_Forms_writeCoordinate_21 rfl (lv_at hl 0 rfl) ?_
      refine lv_if_lt (tgt := 46) hx hb d_Forms_writeCoordinate_22 (by decide) (fun h9 => absurd h9 (nI_pos (by omega))) (fun _ => ?_)
      refine lv_aload_n hx hb d_Forms_writeCoordinate_25 rfl (lv_at hl 1 rfl) ?_
      refine lv_aload_n hx hb d_Forms_writeCoordinate_26 rfl (lv_at hl 2 rfl) ?_
      refine lv_bipush (v := nI 8) hx hb d_Forms_writeCoordinate_27 (by decide) ?_
      refine lv_iload_n hx hb d_Forms_writeCoordinate_29 rfl (lv_at hl 0 rfl) ?_
      refine lv_imul hx hb d_Forms_writeCoordinate_30 ?_
      refine lv_bipush (v := nI 8) hx hb d_Forms_writeCoordinate_31 (by decide) ?_
      refine q_cS (rest := [.ref rw]) E (c_Limbs_bits l g n0 a ((nI 8) * (nI k)) (nI 8)) w_271 w_5 w_748 w_270 hd_Limbs_bits rfl ⟨by decide, by decide⟩ (h_a.frm hfr (fun h => h.elim h1 h2)) hF hl.1 rfl (Nat.le_of_ble_eq_true rfl) d_Forms_writeCoordinate_33 ⟨by decide, by decide⟩ (ql (fun rz1 H1 locs hq hF => ?_))
      have hq := hq.symm
      subst hq
      refine lv_l2i (v := rz1.toInt32) hx hb d_Forms_writeCoordinate_36 rfl ?_
      refine lv_topi (fun v2 _ => ?_)
      refine q_cV (rest := []) E (c_Row_append l g n0 rw ce i v2 (by omega)) w_484 w_3 w_743 w_482 w_483 hd_Row_append rfl ⟨by decide, by decide⟩ (OB.recv E.2.2.2.2.2 (by rfl) hrw.1) (⟨hrw.1, hrw.2, hnr, hnc⟩) hF hl.1 rfl (Nat.le_of_ble_eq_true rfl) d_Forms_writeCoordinate_37 ⟨by decide, by decide⟩ (qv (fun H2 locs hq hF => ?_))
      obtain ⟨hf9, ho9, hb9⟩ := hq
      have hfr := hfr.tr hf9
      have hrw : RW9 g H2 rw ce (i + 1) := ⟨ho9, hb9⟩
      clear hf9 ho9 hb9
      refine lv_iinc (k := 0) (v := nI k - 1) (lv' := [(3, .int (nI k - 1)), (0, .ref rw), (1, .ref a), (2, .int mk)]) hx hb d_Forms_writeCoordinate_40 hl rfl (i_dec (nI k)) (by decide) rfl (fun ls hl => ?_)
      refine lv_goto (tgt := 21) hx hb d_Forms_writeCoordinate_43 (by decide) ?_
      have hl : lv_has ls 4 [(3, .int (nI k - 1)), (0, .ref rw), (1, .ref a), (2, .int mk)] := lv_sub hl [0, 1, 2, 3] rfl
      exact ih (i + 1) _ _ ls _ (by omega) rfl hfr hrw hF hl
  refine lv_bipush (v := nI 46) hx hb d_Forms_writeCoordinate_18 (by decide) ?_
  refine lv_istore_n (lv' := [(3, .int (nI 46)), (0, .ref rw), (1, .ref a), (2, .int mk)]) hx hb d_Forms_writeCoordinate_20 rfl hl (by decide) rfl (fun ls hl => ?_)
  have hl : lv_has ls 4 [(3, .int (nI 46)), (0, .ref rw), (1, .ref a), (2, .int mk)] := lv_sub hl [0, 1, 2, 3] rfl
  exact lp 47 (ts + 1) _ _ ls _ (by omega) (by decide) hfr hrw hF hl
set_option maxHeartbeats 4000000 in
set_option maxRecDepth 100000 in
theorem v_Forms_write (l : Launch) (g : WG) (n0 : Nat → Prop) (o cu fi : Nat) (F : Nat → Nat) (mi : Int64) (X : Nat → Nat) (r1 r2 r3 r4 : Nat) (n1 : Nat → Prop) (t t1 t2 t3 rw ce ts : Nat) (sh : Int32) (hnr : n0 rw) (hnc : n0 ce) (hn1 : ∀ q, n1 q → n0 q ∧ q ≠ rw ∧ q ≠ ce) (ho : o ≠ rw ∧ o ≠ ce) (hcu : cu ≠ rw ∧ cu ≠ ce) (hfi : fi ≠ rw ∧ fi ≠ ce) (htn : t ≠ rw ∧ t ≠ ce) (hcr : ¬ ce = rw) : Ctr l y_Forms_write (.code y_Forms_write prog_4_method_8_code 6 none) 4 182 0 0 n0 g [.ref o, .ref rw, .ref t, .int sh] (fun H => FMX g n1 H o cu fi F mi X r1 r2 r3 r4 ∧ PT g n1 H t t1 t2 t3 ∧ RW9 g H rw ce ts) (QV (fun H H' => ∃ H1 H2 w9, FRM (fun q => q = rw ∨ q = ce) H H1 ∧ KJ g (fun q => n1 q) H1 H2 ∧ FRM (fun q => q = rw ∨ q = ce) H2 H' ∧ w9 ≤ 96 ∧ RW9 g H' rw ce w9)) := by
  refine ctr_mk l (lv0 := [(0, .ref o), (1, .ref rw), (2, .ref t), (3, .int sh)]) (by decide) (Nat.le_of_ble_eq_true rfl) rfl ?_
  intro p e s m below meth c ls E hr hlk hnm hl hP
  have hx := E.1
  have hb := E.2.1
  have hK := E.2.2.2.2.2
  have hF : ∀ q ∈ ([] : List Loc), n0 q.base := fun q hq => absurd hq List.not_mem_nil
  obtain ⟨hfm, h_t, hrw⟩ := hP
  have hdis : ∀ q, n1 q → ¬ q = rw := fun q h => (hn1 q h).2.1
  have sA : ∀ (mk : Int32) (ls : Array Slot), lv_has ls 6 [(4, .int mk), (0, .ref o), (1, .ref rw), (2, .ref t), (3, .int sh)] → W p l e { frames := 4, cells := 0, slots := 0, locals := 182 } s m [.ref o, .ref rw, .ref t, .int sh].toArray below meth c s.heap [] 0 0 (MQ below (QcP (QV (fun H H' => ∃ H1 H2 w9, FRM (fun q => q = rw ∨ q = ce) H H1 ∧ KJ g (fun q => n1 q) H1 H2 ∧ FRM (fun q => q = rw ∨ q = ce) H2 H' ∧ w9 ≤ 96 ∧ RW9 g H' rw ce w9))) [.ref o, .ref rw, .ref t, .int sh].toArray s 0 0 (fun q => n0 q)) (F0 m 11 ls []) := by
    intro  mk   ls  hl
    refine lv_aload_n hx hb d_Forms_write_11 rfl (lv_at hl 2 rfl) ?_
    refine lv_iconst (v := nI 0) hx hb d_Forms_write_12 (by decide) ?_
    refine q_put (C := "KateDesk$Row") (T := T_Row) (N := 2) (ci := 3) (ty := .int) E hrw.1 in_Row ty_Row tyok_Row nm_Row rfl 1 (by decide) w_73 rfl rfl (by decide +kernel) rfl rfl (Nat.le_of_ble_eq_true rfl) hnr hF d_Forms_write_13 (fun H1 locs hq ho2 hF => ?_)
    have hf1 : FRM (fun q => q = rw ∨ q = ce) s.heap H1 := hq.mono (fun q h => Or.inl h)
    have hfm := hfm.frm hq (fun q h => (hn1 q h).2.1) ho.1 hcu.1 hfi.1
    have h_t := h_t.frm hq htn.1 (hdis _ h_t.2.1.1) (hdis _ h_t.2.2.1.1) (hdis _ h_t.2.2.2.1)
    have hrw : RW9 g H1 rw ce 0 := ⟨ho2, hrw.2.imp (fun f hf => AB.off hq hcr hf)⟩
    clear hq ho2
    have hk : KJ g (fun q => n1 q) H1 H1 := KJ.rf
    have sB : ∀ (mk2 : Int32) (H : Heap) (locs : List Loc) (ls : Array Slot), KJ g (fun q => n1 q) H1 H → (∀ q ∈ locs, n0 q.base) → lv_has ls 6 [(4, .int mk2), (0, .ref o), (1, .ref rw), (2, .ref t), (3, .int sh)] → W p l e { frames := 4, cells := 0, slots := 0, locals := 182 } s m [.ref o, .ref rw, .ref t, .int sh].toArray below meth c H locs 0 0 (MQ below (QcP (QV (fun H H' => ∃ H1 H2 w9, FRM (fun q => q = rw ∨ q = ce) H H1 ∧ KJ g (fun q => n1 q) H1 H2 ∧ FRM (fun q => q = rw ∨ q = ce) H2 H' ∧ w9 ≤ 96 ∧ RW9 g H' rw ce w9))) [.ref o, .ref rw, .ref t, .int sh].toArray s 0 0 (fun q => n0 q)) (F0 m 131 ls []) := by
      intro  mk2   H   locs   ls hk hF hl
      refine lv_aload_n hx hb d_Forms_write_131 rfl (lv_at hl 1 rfl) ?_
      refine q_get (C := "KateDesk$Forms") (T := T_Forms) (N := 6) (ci := 6) E ((hk.fmx hK hfm).1) in_Forms rfl 0 (by decide) w_272 rfl rfl d_Forms_write_132 ?_
      refine lv_aload_n hx hb d_Forms_write_135 rfl (lv_at hl 1 rfl) ?_
      refine q_get (C := "KateDesk$Forms") (T := T_Forms) (N := 6) (ci := 6) E ((hk.fmx hK hfm).1) in_Forms rfl 4 (by decide) w_276 rfl rfl d_Forms_write_136 ?_
      refine lv_aload_n hx hb d_Forms_write_139 rfl (lv_at hl 3 rfl) ?_
      refine q_get (C := "KateDesk$Point") (T := T_Point) (N := 3) (ci := 2) E ((hk.pt hK h_t).1) in_Point rfl 0 (by decide) w_47 rfl rfl d_Forms_write_140 ?_
      refine lv_aload_n hx hb d_Forms_write_143 rfl (lv_at hl 1 rfl) ?_
      refine q_get (C := "KateDesk$Forms") (T := T_Forms) (N := 6) (ci := 6) E ((hk.fmx hK hfm).1) in_Forms rfl 3 (by decide) w_275 rfl rfl d_Forms_write_144 ?_
      refine q_cV (rest := []) E ((c_Field_multiply l g n1 fi r3 t1 r2 F mi).up (fun q h => (hn1 q h).1)) w_165 w_4 w_666 w_163 w_164 hd_Field_multiply rfl ⟨by decide, by decide⟩ (OB.recv E.2.2.2.2.2 (by rfl) (((hk.fmx hK hfm).2.1.2.1).1)) (⟨(hk.fmx hK hfm).2.1.2.1, ((hk.fmx hK hfm).2.2.2.2.1), ((hk.pt hK h_t).2.1), ((hk.fmx hK hfm).2.2.2.1)⟩) hF hl.1 rfl (Nat.le_of_ble_eq_true rfl) d_Forms_write_147 ⟨by decide, by decide⟩ (qv (fun H1 locs hq hF => ?_))
      have hk := hk.tr (hq.w1 (((hk.fmx hK hfm).2.2.2.2.1)).1)
      refine lv_aload_n hx hb d_Forms_write_150 rfl (lv_at hl 1 rfl) ?_
      refine q_get (C := "KateDesk$Forms") (T := T_Forms) (N := 6) (ci := 6) E ((hk.fmx hK hfm).1) in_Forms rfl 0 (by decide) w_272 rfl rfl d_Forms_write_151 ?_
      refine lv_aload_n hx hb d_Forms_write_154 rfl (lv_at hl 1 rfl) ?_
      refine q_get (C := "KateDesk$Forms") (T := T_Forms) (N := 6) (ci := 6) E ((hk.fmx hK hfm).1) in_Forms rfl 4 (by decide) w_276 rfl rfl d_Forms_write_155 ?_
      refine lv_aload_n hx hb d_Forms_write_158 rfl (lv_at hl 1 rfl) ?_
      refine q_get (C := "KateDesk$Forms") (T := T_Forms) (N := 6) (ci := 6) E ((hk.fmx hK hfm).1) in_Forms rfl 4 (by decide) w_276 rfl rfl d_Forms_write_159 ?_
      refine q_cV (rest := []) E ((c_Field_lower l g n1 fi r3 r3 F mi).up (fun q h => (hn1 q h).1)) w_589 w_4 w_659 w_587 w_588 hd_Field_lower rfl ⟨by decide, by decide⟩ (OB.recv E.2.2.2.2.2 (by rfl) (((hk.fmx hK hfm).2.1.2.1).1)) (⟨(hk.fmx hK hfm).2.1.2.1, ((hk.fmx hK hfm).2.2.2.2.1), ((hk.fmx hK hfm).2.2.2.2.1)⟩) hF hl.1 rfl (Nat.le_of_ble_eq_true rfl) d_Forms_write_162 ⟨by decide, by decide⟩ (qv (fun H2 locs hq hF => ?_))
      have hk := hk.tr (hq.w1 (((hk.fmx hK hfm).2.2.2.2.1)).1)
      refine lv_aload_n hx hb d_Forms_write_165 rfl (lv_at hl 2 rfl) ?_
      refine lv_aload_n hx hb d_Forms_write_166 rfl (lv_at hl 1 rfl) ?_
      refine q_get (C := "KateDesk$Forms") (T := T_Forms) (N := 6) (ci := 6) E ((hk.fmx hK hfm).1) in_Forms rfl 4 (by decide) w_276 rfl rfl d_Forms_write_167 ?_
      refine lv_iload hx hb d_Forms_write_170 (lv_at hl 0 rfl) ?_
      have hrw := hk.rw9 hK hrw
      have hfm := hk.fmx hK hfm
      refine q_cS (rest := []) E (v_Forms_writeCoordinate l g n0 rw ce 0 r3 mk2 (by decide) hnr hnc (hn1 _ (hfm.2.2.2.2.1).1).2.1 (hn1 _ (hfm.2.2.2.2.1).1).2.2) w_747 w_13 w_745 w_746 hd_Forms_writeCoordinate rfl ⟨by decide, by decide⟩ (⟨hrw, ⟨(hn1 _ (hfm.2.2.2.2.1).1).1, (hfm.2.2.2.2.1).2⟩⟩) hF hl.1 rfl (Nat.le_of_ble_eq_true rfl) d_Forms_write_172 ⟨by decide, by decide⟩ (qv (fun H3 locs hq hF => ?_))
      obtain ⟨hf3, hrw⟩ := hq
      refine lv_iload_n hx hb d_Forms_write_175 rfl (lv_at hl 4 rfl) ?_
      refine lv_if_ne (tgt := 188) hx hb d_Forms_write_176 (by decide) (fun h5 => ?_) (fun h5 => ?_)
      · skip
        exact q_vret E hr hlk (⟨rfl, _, _, 48, hf1, hk, hf3, by decide, hrw⟩) hF d_Forms_write_188
      · skip
        have hfm3 := hfm.frm hf3 (fun q h h9 => h9.elim (hn1 q h).2.1 (hn1 q h).2.2) (fun h => h.elim ho.1 ho.2) (fun h => h.elim hcu.1 hcu.2) (fun h => h.elim hfi.1 hfi.2)
        refine lv_aload_n hx hb d_Forms_write_179 rfl (lv_at hl 2 rfl) ?_
        refine lv_aload_n hx hb d_Forms_write_180 rfl (lv_at hl 1 rfl) ?_
        refine q_get (C := "KateDesk$Forms") (T := T_Forms) (N := 6) (ci := 6) E hfm3.1 in_Forms rfl 5 (by decide) w_277 rfl rfl d_Forms_write_181 ?_
        refine lv_iconst (v := nI 0) hx hb d_Forms_write_184 (by decide) ?_
        refine q_cS (rest := []) E (v_Forms_writeCoordinate l g n0 rw ce 48 r4 (nI 0) (by decide) hnr hnc (hn1 _ (hfm3.2.2.2.2.2).1).2.1 (hn1 _ (hfm3.2.2.2.2.2).1).2.2) w_747 w_13 w_745 w_746 hd_Forms_writeCoordinate rfl ⟨by decide, by decide⟩ (⟨hrw, ⟨(hn1 _ (hfm3.2.2.2.2.2).1).1, (hfm3.2.2.2.2.2).2⟩⟩) hF hl.1 rfl (Nat.le_of_ble_eq_true rfl) d_Forms_write_185 ⟨by decide, by decide⟩ (qv (fun H4 locs hq hF => ?_))
        obtain ⟨hf4, hrw⟩ := hq
        exact q_vret E hr hlk (⟨rfl, _, _, 96, hf1, hk, hf3.tr hf4, by decide, hrw⟩) hF d_Forms_write_188
    refine lv_aload_n hx hb d_Forms_write_16 rfl (lv_at hl 3 rfl) ?_
    refine q_cV (rest := []) E ((v_Point_isNothing l g n1 t t1 t2 t3).up (fun q h => (hn1 q h).1)) w_728 w_2 w_742 w_726 w_727 hd_Point_isNothing rfl ⟨by decide, by decide⟩ (OB.recv E.2.2.2.2.2 (by rfl) ((hk.pt hK h_t).1)) (hk.pt hK h_t) hF hl.1 rfl (Nat.le_of_ble_eq_true rfl) d_Forms_write_17 ⟨by decide, by decide⟩ (qi (fun rz1 H2 locs hq hF => ?_))
    obtain ⟨hbrz1, hq⟩ := hq
    have hq := hq.symm
    subst hq
    refine lv_if_eq (tgt := 64) hx hb d_Forms_write_20 (by decide) (fun h3 => ?_) (fun h3 => ?_)
    · skip
      refine lv_aload_n hx hb d_Forms_write_64 rfl (lv_at hl 1 rfl) ?_
      refine q_get (C := "KateDesk$Forms") (T := T_Forms) (N := 6) (ci := 6) E ((hk.fmx hK hfm).1) in_Forms rfl 0 (by decide) w_272 rfl rfl d_Forms_write_65 ?_
      refine lv_aload_n hx hb d_Forms_write_68 rfl (lv_at hl 1 rfl) ?_
      refine q_get (C := "KateDesk$Forms") (T := T_Forms) (N := 6) (ci := 6) E ((hk.fmx hK hfm).1) in_Forms rfl 3 (by decide) w_275 rfl rfl d_Forms_write_69 ?_
      refine lv_aload_n hx hb d_Forms_write_72 rfl (lv_at hl 3 rfl) ?_
      refine q_get (C := "KateDesk$Point") (T := T_Point) (N := 3) (ci := 2) E ((hk.pt hK h_t).1) in_Point rfl 2 (by decide) w_55 rfl rfl d_Forms_write_73 ?_
      refine q_cV (rest := []) E ((v_Field_invert l g n1 fi r2 t3 F mi).up (fun q h => (hn1 q h).1)) w_570 w_4 w_744 w_568 w_569 hd_Field_invert rfl ⟨by decide, by decide⟩ (OB.recv E.2.2.2.2.2 (by rfl) (((hk.fmx hK hfm).2.1.2.1).1)) (⟨(hk.fmx hK hfm).2.1.2.1, ((hk.fmx hK hfm).2.2.2.1), ((hk.pt hK h_t).2.2.2)⟩) hF hl.1 rfl (Nat.le_of_ble_eq_true rfl) d_Forms_write_76 ⟨by decide, by decide⟩ (qv (fun H3 locs hq hF => ?_))
      have hk := hk.tr (hq.w2 (((hk.fmx hK hfm).2.2.2.1)).1 ((hk.fmx hK hfm).2.1.2.1.2 5 (by decide)).1)
      refine lv_aload_n hx hb d_Forms_write_79 rfl (lv_at hl 1 rfl) ?_
      refine q_get (C := "KateDesk$Forms") (T := T_Forms) (N := 6) (ci := 6) E ((hk.fmx hK hfm).1) in_Forms rfl 0 (by decide) w_272 rfl rfl d_Forms_write_80 ?_
      refine lv_aload_n hx hb d_Forms_write_83 rfl (lv_at hl 1 rfl) ?_
      refine q_get (C := "KateDesk$Forms") (T := T_Forms) (N := 6) (ci := 6) E ((hk.fmx hK hfm).1) in_Forms rfl 5 (by decide) w_277 rfl rfl d_Forms_write_84 ?_
      refine lv_aload_n hx hb d_Forms_write_87 rfl (lv_at hl 3 rfl) ?_
      refine q_get (C := "KateDesk$Point") (T := T_Point) (N := 3) (ci := 2) E ((hk.pt hK h_t).1) in_Point rfl 1 (by decide) w_51 rfl rfl d_Forms_write_88 ?_
      refine lv_aload_n hx hb d_Forms_write_91 rfl (lv_at hl 1 rfl) ?_
      refine q_get (C := "KateDesk$Forms") (T := T_Forms) (N := 6) (ci := 6) E ((hk.fmx hK hfm).1) in_Forms rfl 3 (by decide) w_275 rfl rfl d_Forms_write_92 ?_
      refine q_cV (rest := []) E ((c_Field_multiply l g n1 fi r4 t2 r2 F mi).up (fun q h => (hn1 q h).1)) w_165 w_4 w_666 w_163 w_164 hd_Field_multiply rfl ⟨by decide, by decide⟩ (OB.recv E.2.2.2.2.2 (by rfl) (((hk.fmx hK hfm).2.1.2.1).1)) (⟨(hk.fmx hK hfm).2.1.2.1, ((hk.fmx hK hfm).2.2.2.2.2), ((hk.pt hK h_t).2.2.1), ((hk.fmx hK hfm).2.2.2.1)⟩) hF hl.1 rfl (Nat.le_of_ble_eq_true rfl) d_Forms_write_95 ⟨by decide, by decide⟩ (qv (fun H4 locs hq hF => ?_))
      have hk := hk.tr (hq.w1 (((hk.fmx hK hfm).2.2.2.2.2)).1)
      refine lv_aload_n hx hb d_Forms_write_98 rfl (lv_at hl 1 rfl) ?_
      refine q_get (C := "KateDesk$Forms") (T := T_Forms) (N := 6) (ci := 6) E ((hk.fmx hK hfm).1) in_Forms rfl 0 (by decide) w_272 rfl rfl d_Forms_write_99 ?_
      refine lv_aload_n hx hb d_Forms_write_102 rfl (lv_at hl 1 rfl) ?_
      refine q_get (C := "KateDesk$Forms") (T := T_Forms) (N := 6) (ci := 6) E ((hk.fmx hK hfm).1) in_Forms rfl 5 (by decide) w_277 rfl rfl d_Forms_write_103 ?_
      refine lv_aload_n hx hb d_Forms_write_106 rfl (lv_at hl 1 rfl) ?_
      refine q_get (C := "KateDesk$Forms") (T := T_Forms) (N := 6) (ci := 6) E ((hk.fmx hK hfm).1) in_Forms rfl 5 (by decide) w_277 rfl rfl d_Forms_write_107 ?_
      refine q_cV (rest := []) E ((c_Field_lower l g n1 fi r4 r4 F mi).up (fun q h => (hn1 q h).1)) w_589 w_4 w_659 w_587 w_588 hd_Field_lower rfl ⟨by decide, by decide⟩ (OB.recv E.2.2.2.2.2 (by rfl) (((hk.fmx hK hfm).2.1.2.1).1)) (⟨(hk.fmx hK hfm).2.1.2.1, ((hk.fmx hK hfm).2.2.2.2.2), ((hk.fmx hK hfm).2.2.2.2.2)⟩) hF hl.1 rfl (Nat.le_of_ble_eq_true rfl) d_Forms_write_110 ⟨by decide, by decide⟩ (qv (fun H5 locs hq hF => ?_))
      have hk := hk.tr (hq.w1 (((hk.fmx hK hfm).2.2.2.2.2)).1)
      refine lv_iload_n hx hb d_Forms_write_113 rfl (lv_at hl 4 rfl) ?_
      refine lv_if_eq (tgt := 131) hx hb d_Forms_write_114 (by decide) (fun _ => ?_) (fun _ => ?_)
      · skip
        have hl : lv_has ls 6 [(4, .int mk), (0, .ref o), (1, .ref rw), (2, .ref t), (3, .int sh)] := lv_sub hl [0, 1, 2, 3, 4] rfl
        exact sB _ _ _ ls hk hF hl
      · skip
        refine lv_aload_n hx hb d_Forms_write_117 rfl (lv_at hl 1 rfl) ?_
        refine lv_aload_n hx hb d_Forms_write_118 rfl (lv_at hl 1 rfl) ?_
        refine q_get (C := "KateDesk$Forms") (T := T_Forms) (N := 6) (ci := 6) E ((hk.fmx hK hfm).1) in_Forms rfl 5 (by decide) w_277 rfl rfl d_Forms_write_119 ?_
        refine q_cV (rest := []) E ((v_Forms_isGreater l g n1 o cu fi F mi X r1 r2 r3 r4 r4).up (fun q h => (hn1 q h).1)) w_663 w_13 w_660 w_662 (bw_s 6 rfl) hd_Forms_isGreater rfl ⟨by decide, by decide⟩ (OB.recv E.2.2.2.2.2 (by rfl) ((hk.fmx hK hfm).1)) (⟨(hk.fmx hK hfm), ((hk.fmx hK hfm).2.2.2.2.2)⟩) hF hl.1 rfl (Nat.le_of_ble_eq_true rfl) d_Forms_write_122 ⟨by decide, by decide⟩ (qi (fun rz2 H6 locs hq hF => ?_))
        obtain ⟨hbrz2, hq⟩ := hq
        have hk := hk.tr hq
        refine lv_if_eq (tgt := 131) hx hb d_Forms_write_125 (by decide) (fun _ => ?_) (fun _ => ?_)
        · skip
          have hl : lv_has ls 6 [(4, .int mk), (0, .ref o), (1, .ref rw), (2, .ref t), (3, .int sh)] := lv_sub hl [0, 1, 2, 3, 4] rfl
          exact sB _ _ _ ls hk hF hl
        · skip
          refine lv_iinc (k := 0) (v := mk + Int32.ofInt 1) (lv' := [(4, .int (mk + Int32.ofInt 1)), (0, .ref o), (1, .ref rw), (2, .ref t), (3, .int sh)]) hx hb d_Forms_write_128 hl rfl (rfl) (by decide) rfl (fun ls hl => ?_)
          have hl : lv_has ls 6 [(4, .int (mk + Int32.ofInt 1)), (0, .ref o), (1, .ref rw), (2, .ref t), (3, .int sh)] := lv_sub hl [0, 1, 2, 3, 4] rfl
          exact sB _ _ _ ls hk hF hl
    · skip
      have hf3 : FRM (fun q => q = rw ∨ q = ce) H1 H1 := FRM.rf
      refine lv_aload_n hx hb d_Forms_write_23 rfl (lv_at hl 2 rfl) ?_
      refine lv_iload hx hb d_Forms_write_24 (lv_at hl 0 rfl) ?_
      refine lv_iconst (v := nI 2) hx hb d_Forms_write_26 (by decide) ?_
      refine lv_iadd hx hb d_Forms_write_27 ?_
      refine lv_iconst (v := nI 5) hx hb d_Forms_write_28 (by decide) ?_
      refine lv_ishl hx hb d_Forms_write_29 ?_
      refine lv_topi (fun v2 _ => ?_)
      refine q_cV (rest := []) E (c_Row_append l g n0 rw ce 0 v2 (by decide)) w_484 w_3 w_743 w_482 w_483 hd_Row_append rfl ⟨by decide, by decide⟩ (OB.recv E.2.2.2.2.2 (by rfl) hrw.1) (⟨hrw.1, hrw.2, hnr, hnc⟩) hF hl.1 rfl (Nat.le_of_ble_eq_true rfl) d_Forms_write_30 ⟨by decide, by decide⟩ (qv (fun H3 locs hq hF => ?_))
      obtain ⟨hf9, ho9, hb9⟩ := hq
      have hf3 := hf3.tr hf9
      have hrw : RW9 g H3 rw ce (0 + 1) := ⟨ho9, hb9⟩
      clear hf9 ho9 hb9
      refine lv_iconst (v := nI 1) hx hb d_Forms_write_33 (by decide) ?_
      refine lv_istore (lv' := [(5, .int (nI 1)), (4, .int mk), (0, .ref o), (1, .ref rw), (2, .ref t), (3, .int sh)]) hx hb d_Forms_write_34 hl (by decide) rfl (fun ls hl => ?_)
      have hl : lv_has ls 6 [(5, .int (nI 1)), (0, .ref o), (1, .ref rw), (2, .ref t), (3, .int sh)] := lv_sub hl [0, 2, 3, 4, 5] rfl
      by_cases hs0 : sh = 0
      · skip
        have lp : ∀ (k : Nat) (i : Nat) (H : Heap) (locs : List Loc) (ls : Array Slot), i + k = 96 → FRM (fun q => q = rw ∨ q = ce) H1 H → RW9 g H rw ce i → (∀ q ∈ locs, n0 q.base) → lv_has ls 6 [(5, .int (nI i)), (0, .ref o), (1, .ref rw), (2, .ref t), (3, .int sh)] → W p l e { frames := 4, cells := 0, slots := 0, locals := 182 } s m [.ref o, .ref rw, .ref t, .int sh].toArray below meth c H locs 0 0 (MQ below (QcP (QV (fun H H' => ∃ H1 H2 w9, FRM (fun q => q = rw ∨ q = ce) H H1 ∧ KJ g (fun q => n1 q) H1 H2 ∧ FRM (fun q => q = rw ∨ q = ce) H2 H' ∧ w9 ≤ 96 ∧ RW9 g H' rw ce w9))) [.ref o, .ref rw, .ref t, .int sh].toArray s 0 0 (fun q => n0 q)) (F0 m 36 ls []) := by
          intro k
          induction k with
          | zero =>
            intro  i   H   locs   ls hi hf3 hrw hF hl
            obtain rfl : i = 96 := by omega
            refine lv_iload hx hb d_Forms_write_36 (lv_at hl 0 rfl) ?_
            refine lv_iload_n hx hb d_Forms_write_38 rfl (lv_at hl 4 rfl) ?_
            refine lv_if_eq (tgt := 47) hx hb d_Forms_write_39 (by decide) (fun _ => ?_) (fun h9 => absurd (hs0) h9)
            refine lv_bipush (v := nI 96) hx hb d_Forms_write_47 (by decide) ?_
            refine lv_icmp_ge (tgt := 63) hx hb d_Forms_write_49 (by decide) (fun _ => ?_) (fun h9 => absurd (by decide) h9)
            exact q_vret E hr hlk (⟨rfl, _, _, 96, hf1, KJ.rf, hf3, by decide, hrw⟩) hF d_Forms_write_63
          | succ k ih =>
            intro  i   H   locs   ls hi hf3 hrw hF hl
            refine lv_iload hx hb d_Forms_write_36 (lv_at hl 0 rfl) ?_
            refine lv_iload_n hx hb d_Forms_write_38 rfl (lv_at hl 4 rfl) ?_
            refine lv_if_eq (tgt := 47) hx hb d_Forms_write_39 (by decide) (fun _ => ?_) (fun h9 => absurd (hs0) h9)
            refine lv_bipush (v := nI 96) hx hb d_Forms_write_47 (by decide) ?_
            refine lv_icmp_ge (tgt := 63) hx hb d_Forms_write_49 (by decide) (fun h9 => absurd h9 (nI_ge (by omega) (by decide))) (fun _ => ?_)
            refine lv_aload_n hx hb d_Forms_write_52 rfl (lv_at hl 2 rfl) ?_
            refine lv_iconst (v := nI 0) hx hb d_Forms_write_53 (by decide) ?_
            refine q_cV (rest := []) E (c_Row_append l g n0 rw ce i (nI 0) (by omega)) w_484 w_3 w_743 w_482 w_483 hd_Row_append rfl ⟨by decide, by decide⟩ (OB.recv E.2.2.2.2.2 (by rfl) hrw.1) (⟨hrw.1, hrw.2, hnr, hnc⟩) hF hl.1 rfl (Nat.le_of_ble_eq_true rfl) d_Forms_write_54 ⟨by decide, by decide⟩ (qv (fun H1 locs hq hF => ?_))
            obtain ⟨hf9, ho9, hb9⟩ := hq
            have hf3 := hf3.tr hf9
            have hrw : RW9 g H1 rw ce (i + 1) := ⟨ho9, hb9⟩
            clear hf9 ho9 hb9
            refine lv_iinc (k := 0) (v := nI (i + 1)) (lv' := [(5, .int (nI (i + 1))), (0, .ref o), (1, .ref rw), (2, .ref t), (3, .int sh)]) hx hb d_Forms_write_57 hl rfl (i_inc i) (by decide) rfl (fun ls hl => ?_)
            refine lv_goto (tgt := 36) hx hb d_Forms_write_60 (by decide) ?_
            have hl : lv_has ls 6 [(5, .int (nI (i + 1))), (0, .ref o), (1, .ref rw), (2, .ref t), (3, .int sh)] := lv_sub hl [0, 1, 2, 3, 4] rfl
            exact ih (i + 1) _ _ ls (by omega) hf3 hrw hF hl
        exact lp 95 1 _ _ ls (by omega) hf3 hrw hF hl
      · skip
        have lp : ∀ (k : Nat) (i : Nat) (H : Heap) (locs : List Loc) (ls : Array Slot), i + k = 48 → FRM (fun q => q = rw ∨ q = ce) H1 H → RW9 g H rw ce i → (∀ q ∈ locs, n0 q.base) → lv_has ls 6 [(5, .int (nI i)), (0, .ref o), (1, .ref rw), (2, .ref t), (3, .int sh)] → W p l e { frames := 4, cells := 0, slots := 0, locals := 182 } s m [.ref o, .ref rw, .ref t, .int sh].toArray below meth c H locs 0 0 (MQ below (QcP (QV (fun H H' => ∃ H1 H2 w9, FRM (fun q => q = rw ∨ q = ce) H H1 ∧ KJ g (fun q => n1 q) H1 H2 ∧ FRM (fun q => q = rw ∨ q = ce) H2 H' ∧ w9 ≤ 96 ∧ RW9 g H' rw ce w9))) [.ref o, .ref rw, .ref t, .int sh].toArray s 0 0 (fun q => n0 q)) (F0 m 36 ls []) := by
          intro k
          induction k with
          | zero =>
            intro  i   H   locs   ls hi hf3 hrw hF hl
            obtain rfl : i = 48 := by omega
            refine lv_iload hx hb d_Forms_write_36 (lv_at hl 0 rfl) ?_
            refine lv_iload_n hx hb d_Forms_write_38 rfl (lv_at hl 4 rfl) ?_
            refine lv_if_eq (tgt := 47) hx hb d_Forms_write_39 (by decide) (fun h9 => absurd h9 (hs0)) (fun _ => ?_)
            refine lv_bipush (v := nI 48) hx hb d_Forms_write_42 (by decide) ?_
            refine lv_goto (tgt := 49) hx hb d_Forms_write_44 (by decide) ?_
            refine lv_icmp_ge (tgt := 63) hx hb d_Forms_write_49 (by decide) (fun _ => ?_) (fun h9 => absurd (by decide) h9)
            exact q_vret E hr hlk (⟨rfl, _, _, 48, hf1, KJ.rf, hf3, by decide, hrw⟩) hF d_Forms_write_63
          | succ k ih =>
            intro  i   H   locs   ls hi hf3 hrw hF hl
            refine lv_iload hx hb d_Forms_write_36 (lv_at hl 0 rfl) ?_
            refine lv_iload_n hx hb d_Forms_write_38 rfl (lv_at hl 4 rfl) ?_
            refine lv_if_eq (tgt := 47) hx hb d_Forms_write_39 (by decide) (fun h9 => absurd h9 (hs0)) (fun _ => ?_)
            refine lv_bipush (v := nI 48) hx hb d_Forms_write_42 (by decide) ?_
            refine lv_goto (tgt := 49) hx hb d_Forms_write_44 (by decide) ?_
            refine lv_icmp_ge (tgt := 63) hx hb d_Forms_write_49 (by decide) (fun h9 => absurd h9 (nI_ge (by omega) (by decide))) (fun _ => ?_)
            refine lv_aload_n hx hb d_Forms_write_52 rfl (lv_at hl 2 rfl) ?_
            refine lv_iconst (v := nI 0) hx hb d_Forms_write_53 (by decide) ?_
            refine q_cV (rest := []) E (c_Row_append l g n0 rw ce i (nI 0) (by omega)) w_484 w_3 w_743 w_482 w_483 hd_Row_append rfl ⟨by decide, by decide⟩ (OB.recv E.2.2.2.2.2 (by rfl) hrw.1) (⟨hrw.1, hrw.2, hnr, hnc⟩) hF hl.1 rfl (Nat.le_of_ble_eq_true rfl) d_Forms_write_54 ⟨by decide, by decide⟩ (qv (fun H1 locs hq hF => ?_))
            obtain ⟨hf9, ho9, hb9⟩ := hq
            have hf3 := hf3.tr hf9
            have hrw : RW9 g H1 rw ce (i + 1) := ⟨ho9, hb9⟩
            clear hf9 ho9 hb9
            refine lv_iinc (k := 0) (v := nI (i + 1)) (lv' := [(5, .int (nI (i + 1))), (0, .ref o), (1, .ref rw), (2, .ref t), (3, .int sh)]) hx hb d_Forms_write_57 hl rfl (i_inc i) (by decide) rfl (fun ls hl => ?_)
            refine lv_goto (tgt := 36) hx hb d_Forms_write_60 (by decide) ?_
            have hl : lv_has ls 6 [(5, .int (nI (i + 1))), (0, .ref o), (1, .ref rw), (2, .ref t), (3, .int sh)] := lv_sub hl [0, 1, 2, 3, 4] rfl
            exact ih (i + 1) _ _ ls (by omega) hf3 hrw hF hl
        exact lp 47 1 _ _ ls (by omega) hf3 hrw hF hl
  refine lv_iload_n hx hb d_Forms_write_0 rfl (lv_at hl 3 rfl) ?_
  refine lv_if_eq (tgt := 8) hx hb d_Forms_write_1 (by decide) (fun _ => ?_) (fun _ => ?_)
  · skip
    refine lv_iconst (v := nI 0) hx hb d_Forms_write_8 (by decide) ?_
    refine lv_istore (lv' := [(4, .int (nI 0)), (0, .ref o), (1, .ref rw), (2, .ref t), (3, .int sh)]) hx hb d_Forms_write_9 hl (by decide) rfl (fun ls hl => ?_)
    have hl : lv_has ls 6 [(4, .int (nI 0)), (0, .ref o), (1, .ref rw), (2, .ref t), (3, .int sh)] := lv_sub hl [0, 1, 2, 3, 4] rfl
    exact sA _ ls hl
  · skip
    refine lv_iconst (v := nI 4) hx hb d_Forms_write_4 (by decide) ?_
    refine lv_goto (tgt := 9) hx hb d_Forms_write_5 (by decide) ?_
    refine lv_istore (lv' := [(4, .int (nI 4)), (0, .ref o), (1, .ref rw), (2, .ref t), (3, .int sh)]) hx hb d_Forms_write_9 hl (by decide) rfl (fun ls hl => ?_)
    have hl : lv_has ls 6 [(4, .int (nI 4)), (0, .ref o), (1, .ref rw), (2, .ref t), (3, .int sh)] := lv_sub hl [0, 1, 2, 3, 4] rfl
    exact sA _ ls hl
