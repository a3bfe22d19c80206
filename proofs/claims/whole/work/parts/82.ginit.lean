section KRNE
variable {p : Program} {l : Launch} {e : Env} {R : Room} {s : State} {m : MethodId} {args : Array Value} {below : List Frame} {meth : Method} {c : Code} {H : Heap} {locs : List Loc} {cells slots : Nat} {Q : State → Prop}
variable {cc : ByteArray} {nL : Nat} {pc : Nat} {ls : Array Slot} {rest : List Value} {g : WG} {own host : String} {n0 : Nat → Prop} {a : Nat} {s0 : State}
theorem q_runN {mc ms : Nat} {st0 : List Value} {Qp : Option Value → Heap → Heap → Prop} {av : Array Value} (hr : va_Run p l e R s m args below meth c H locs cells slots mc ms (F0 m pc ls st0) rest (QcP Qp av) (fun q => n0 q)) (hF : ∀ q ∈ locs, n0 q.base)
    (kk : ∀ (v : Option Value) (H' : Heap) (locs' : List Loc), Qp v H H' → (∀ q ∈ locs', n0 q.base) → W p l e R s m args below meth c H' locs' (cells + mc) (slots + ms) Q (F0 m (pc + 3) ls (v.toList ++ rest))) : W p l e R s m args below meth c H locs cells slots Q (F0 m pc ls st0) := by
  intro T hT X
  obtain ⟨v, st₀, t, T', L, h0, X', hL, e1, -, ⟨r, hr1, hq⟩, st⟩ := hr T hT X
  have hv : v = r := by injection hr1
  subst hv
  obtain ⟨t2, a1, b1⟩ := kk v t.heap (locs ++ L) (by rw [← h0]; exact hq) (fun q hq => (List.mem_append.mp hq).elim (hF q) (hL q)) T' e1 X'
  exact ⟨t2, st t2 a1, b1⟩
theorem q_cn {index maxL fr lo mc ms : Nat} {y : MethodName} {bytes : ByteArray} {ret : Option FieldType} (E : EV p m c cc nL s args own g) (n : Nat) (hcw : Cond.code y bytes maxL ret ∈ BW) (hini : Cond.initialized y.cls ∈ BW) (hl : va_Nw (.methodLinkNest own index y host) s)
    (hd : y.cls ≠ "java/lang/invoke/MethodHandle" ∧ y.cls ≠ "java/lang/invoke/VarHandle" ∧ (parseMethodDescriptor y.desc).map (fun d => d.parameters.length) = some n) (hR : fr + 1 ≤ R.frames ∧ 8 + (maxL + 11) + lo ≤ R.locals) :
    va_CN R s args own index y host bytes maxL ret (Cond.code y bytes maxL ret :: BW) { frames := fr, cells := mc, slots := ms, locals := lo } mc ms n :=
  va_cnB (Ts := BW) n E.2.2.2.2.1 (fun w hw => by
    rcases List.mem_cons.mp hw with rfl | hw
    · exact ⟨hcw, good_of_word (bw_good _ hcw)⟩
    · exact ⟨hw, good_of_word (bw_good _ hw)⟩) rfl rfl rfl hl (E.2.2.2.2.1 _ hini) hd hR
theorem q_cSN {index maxL fr lo mc ms n : Nat} {y : MethodName} {bytes : ByteArray} {ret : Option FieldType} {As st0 : List Value} {P : Heap → Prop} {Qp : Option Value → Heap → Heap → Prop} (E : EV p m c cc nL s args own g)
    (hM : Ctr l y (.code y bytes maxL ret) fr lo mc ms n0 g As P Qp) (hcw : Cond.code y bytes maxL ret ∈ BW) (hini : Cond.initialized y.cls ∈ BW) (hl : va_Nw (.methodLinkNest own index y host) s) (him : Cond.static y ∈ BW)
    (hd : y.cls ≠ "java/lang/invoke/MethodHandle" ∧ y.cls ≠ "java/lang/invoke/VarHandle" ∧ (parseMethodDescriptor y.desc).map (fun d => d.parameters.length) = some n) (hn : As.length = n) (hR : fr + 1 ≤ R.frames ∧ 8 + (maxL + 11) + lo ≤ R.locals)
    (hP : P H) (hF : ∀ q ∈ locs, n0 q.base) (hls : ls.size = nL) (hst : st0 = As.reverse ++ rest) (hW : (rest.map fun v => v.category).sum ≤ 8) (hdg : decode cc pc = .ok (.invokestatic index, 3)) (hf : cells + mc ≤ R.cells ∧ slots + ms ≤ R.slots)
    (kk : ∀ (v : Option Value) (H' : Heap) (locs' : List Loc), Qp v H H' → (∀ q ∈ locs', n0 q.base) → W p l e R s m args below meth c H' locs' (cells + mc) (slots + ms) Q (F0 m (pc + 3) ls (v.toList ++ rest))) : W p l e R s m args below meth c H locs cells slots Q (F0 m pc ls st0) :=
  q_runN (va_runSN (Ts := BW) ⟨E.1, E.2.1, E.2.2.1, E.2.2.2.1, E.2.2.2.2.1⟩ hM ⟨q_cn E n hcw hini hl hd hR, E.2.2.2.2.1 _ him, trivial⟩ (q_pre E.2.2.2.2.2 hP) rfl hn hls hst (lv_room hW) hdg hf) hF kk
theorem q_cIN {index maxL fr lo mc ms n : Nat} {y : MethodName} {bytes : ByteArray} {b : Nat} {As st0 : List Value} {P : Heap → Prop} {Qp : Option Value → Heap → Heap → Prop} (E : EV p m c cc nL s args own g)
    (hM : Ctr l y (.code y bytes maxL none) fr lo mc ms n0 g (.ref b :: As) P Qp) (hcw : Cond.code y bytes maxL none ∈ BW) (hini : Cond.initialized y.cls ∈ BW) (hl : va_Nw (.methodLinkNest own index y host) s) (him : Cond.instanceMethod y ∈ BW) (hyn : y.name = "<init>")
    (hd : y.cls ≠ "java/lang/invoke/MethodHandle" ∧ y.cls ≠ "java/lang/invoke/VarHandle" ∧ (parseMethodDescriptor y.desc).map (fun d => d.parameters.length) = some n) (hn : As.length = n) (hR : fr + 1 ≤ R.frames ∧ 8 + (maxL + 11) + lo ≤ R.locals)
    (hP : P H) (hF : ∀ q ∈ locs, n0 q.base) (hls : ls.size = nL) (hst : st0 = As.reverse ++ .ref b :: rest) (hW : (rest.map fun v => v.category).sum ≤ 8) (hdg : decode cc pc = .ok (.invokespecial index, 3)) (hf : cells + mc ≤ R.cells ∧ slots + ms ≤ R.slots)
    (kk : ∀ (v : Option Value) (H' : Heap) (locs' : List Loc), Qp v H H' → (∀ q ∈ locs', n0 q.base) → W p l e R s m args below meth c H' locs' (cells + mc) (slots + ms) Q (F0 m (pc + 3) ls (v.toList ++ rest))) : W p l e R s m args below meth c H locs cells slots Q (F0 m pc ls st0) :=
  q_runN (va_runIN (Ts := BW) ⟨E.1, E.2.1, E.2.2.1, E.2.2.2.1, E.2.2.2.2.1⟩ hM ⟨q_cn E n hcw hini hl hd hR, hyn, E.2.2.2.2.1 _ him⟩ (q_pre E.2.2.2.2.2 hP) rfl hn hls hst (lv_room hW) hdg hf) hF kk
end KRNE
theorem FD.on {g : WG} {n0 : Nat → Prop} {H H' : Heap} {o fo : Nat} {F : Nat → Nat} {mi : Int64} (hA : FD g n0 H fo F mi) (he : ∀ q, q < o → H'[q]? = H[q]?) (h0 : fo < o) (h1 : ∀ k, k < 6 → F k < o) : FD g n0 H' fo F mi := ⟨hA.1.eq (he _ h0), fun k hk => ⟨(hA.2 k hk).1, (hA.2 k hk).2.imp (fun f hf => hf.eq (he _ (h1 k hk)))⟩⟩
theorem tn_a_0 (o : Nat) : o + 1 ≤ o + 258 := by omega
theorem tn_a_1 (o : Nat) : o < o + 1 := by omega
theorem tn_a_2 (o : Nat) : o ≤ o + 1 := by omega
theorem tn_a_3 (o : Nat) : o + 1 ≠ o := by omega
theorem tn_a_4 (o k : Nat) : o < o + 1 + 1 + 4 * k := by omega
theorem tn_a_5 (o k : Nat) : o < o + 1 + 1 + 4 * k := by omega
theorem tn_a_6 (o : Nat) : o + 258 ≤ o + 275 := by omega
theorem tn_a_7 (o : Nat) : o < o + 258 := by omega
theorem tn_a_8 (o : Nat) : o ≤ o + 258 := by omega
theorem tn_a_9 (o : Nat) : o + 258 ≠ o := by omega
theorem tn_a_10 (o k : Nat) : o + 258 + 1 + k ≠ o := by omega
theorem tn_a_11 (o : Nat) : o + 275 ≤ o + 276 := by omega
theorem tn_a_12 (o : Nat) : o < o + 275 := by omega
theorem tn_a_13 (o : Nat) : o ≤ o + 275 := by omega
theorem tn_a_14 (o : Nat) : o < o + 275 := by omega
theorem tn_a_15 (o : Nat) : o + 1 < o + 275 := by omega
theorem tn_a_16 (o : Nat) : o + 258 < o + 275 := by omega
theorem tn_su1 (o k q : Nat) (hk : k < 64) (h2 : q < o + 1 + 1 + 4 * k + 4) : q < o + 275 := by omega
theorem tn_su2 (o j : Nat) (hj : j < 16) : o + 258 + 1 + j < o + 275 := by omega
theorem tn_a_19 (o : Nat) : o < o + 275 := by omega
theorem tn_po1 (o j : Nat) : o ≤ o + 8 + 1 + j := by omega
theorem tn_po2 (o j : Nat) : o + 8 + 1 + j ≠ o := by omega
theorem tn_po3 (o j : Nat) : o + 1 + j ≠ o := by omega
theorem tn_a_23 (o : Nat) : o + 8 ≠ o := by omega
theorem tn_a_24 (o : Nat) : o + 8 ≠ o := by omega
abbrev y_Sums_init : MethodName := ⟨"KateDesk$Sums", "<init>", "(LKateDesk$Curve;)V"⟩
theorem hd_Sums_init : y_Sums_init.cls ≠ "java/lang/invoke/MethodHandle" ∧ y_Sums_init.cls ≠ "java/lang/invoke/VarHandle" ∧ (parseMethodDescriptor y_Sums_init.desc).map (fun d => d.parameters.length) = some 1 := by decide +kernel
theorem d_Sums_init_0 : decode prog_9_method_1_code 0 = .ok (.aload_n 0, 1) := by decide +kernel
theorem d_Sums_init_1 : decode prog_9_method_1_code 1 = .ok (.invokespecial 1, 3) := by decide +kernel
theorem d_Sums_init_4 : decode prog_9_method_1_code 4 = .ok (.aload_n 0, 1) := by decide +kernel
theorem d_Sums_init_5 : decode prog_9_method_1_code 5 = .ok (.bipush 64, 2) := by decide +kernel
theorem d_Sums_init_7 : decode prog_9_method_1_code 7 = .ok (.invokestatic 9, 3) := by decide +kernel
theorem d_Sums_init_10 : decode prog_9_method_1_code 10 = .ok (.putfield 15, 3) := by decide +kernel
theorem d_Sums_init_13 : decode prog_9_method_1_code 13 = .ok (.aload_n 0, 1) := by decide +kernel
theorem d_Sums_init_14 : decode prog_9_method_1_code 14 = .ok (.bipush 16, 2) := by decide +kernel
theorem d_Sums_init_16 : decode prog_9_method_1_code 16 = .ok (.sipush 257, 3) := by decide +kernel
theorem d_Sums_init_19 : decode prog_9_method_1_code 19 = .ok (.multianewarray 19 2, 4) := by decide +kernel
theorem d_Sums_init_23 : decode prog_9_method_1_code 23 = .ok (.putfield 21, 3) := by decide +kernel
theorem d_Sums_init_26 : decode prog_9_method_1_code 26 = .ok (.aload_n 0, 1) := by decide +kernel
theorem d_Sums_init_27 : decode prog_9_method_1_code 27 = .ok (.new 24, 3) := by decide +kernel
theorem d_Sums_init_30 : decode prog_9_method_1_code 30 = .ok (.dup, 1) := by decide +kernel
theorem d_Sums_init_31 : decode prog_9_method_1_code 31 = .ok (.invokespecial 26, 3) := by decide +kernel
theorem d_Sums_init_34 : decode prog_9_method_1_code 34 = .ok (.putfield 27, 3) := by decide +kernel
theorem d_Sums_init_37 : decode prog_9_method_1_code 37 = .ok (.aload_n 0, 1) := by decide +kernel
theorem d_Sums_init_38 : decode prog_9_method_1_code 38 = .ok (.aload_n 1, 1) := by decide +kernel
theorem d_Sums_init_39 : decode prog_9_method_1_code 39 = .ok (.putfield 31, 3) := by decide +kernel
theorem d_Sums_init_42 : decode prog_9_method_1_code 42 = .ok (.return_, 1) := by decide +kernel
abbrev y_Forms_init : MethodName := ⟨"KateDesk$Forms", "<init>", "(LKateDesk$Field;LKateDesk$Curve;)V"⟩
theorem hd_Forms_init : y_Forms_init.cls ≠ "java/lang/invoke/MethodHandle" ∧ y_Forms_init.cls ≠ "java/lang/invoke/VarHandle" ∧ (parseMethodDescriptor y_Forms_init.desc).map (fun d => d.parameters.length) = some 2 := by decide +kernel
theorem d_Forms_init_0 : decode prog_4_method_1_code 0 = .ok (.aload_n 0, 1) := by decide +kernel
theorem d_Forms_init_1 : decode prog_4_method_1_code 1 = .ok (.invokespecial 1, 3) := by decide +kernel
theorem d_Forms_init_4 : decode prog_4_method_1_code 4 = .ok (.aload_n 0, 1) := by decide +kernel
theorem d_Forms_init_5 : decode prog_4_method_1_code 5 = .ok (.bipush 14, 2) := by decide +kernel
theorem d_Forms_init_7 : decode prog_4_method_1_code 7 = .ok (.newarray .long, 2) := by decide +kernel
theorem d_Forms_init_9 : decode prog_4_method_1_code 9 = .ok (.putfield 9, 3) := by decide +kernel
theorem d_Forms_init_12 : decode prog_4_method_1_code 12 = .ok (.aload_n 0, 1) := by decide +kernel
theorem d_Forms_init_13 : decode prog_4_method_1_code 13 = .ok (.bipush 14, 2) := by decide +kernel
theorem d_Forms_init_15 : decode prog_4_method_1_code 15 = .ok (.newarray .long, 2) := by decide +kernel
theorem d_Forms_init_17 : decode prog_4_method_1_code 17 = .ok (.putfield 15, 3) := by decide +kernel
theorem d_Forms_init_20 : decode prog_4_method_1_code 20 = .ok (.aload_n 0, 1) := by decide +kernel
theorem d_Forms_init_21 : decode prog_4_method_1_code 21 = .ok (.bipush 14, 2) := by decide +kernel
theorem d_Forms_init_23 : decode prog_4_method_1_code 23 = .ok (.newarray .long, 2) := by decide +kernel
theorem d_Forms_init_25 : decode prog_4_method_1_code 25 = .ok (.putfield 18, 3) := by decide +kernel
theorem d_Forms_init_28 : decode prog_4_method_1_code 28 = .ok (.aload_n 0, 1) := by decide +kernel
theorem d_Forms_init_29 : decode prog_4_method_1_code 29 = .ok (.bipush 14, 2) := by decide +kernel
theorem d_Forms_init_31 : decode prog_4_method_1_code 31 = .ok (.newarray .long, 2) := by decide +kernel
theorem d_Forms_init_33 : decode prog_4_method_1_code 33 = .ok (.putfield 21, 3) := by decide +kernel
theorem d_Forms_init_36 : decode prog_4_method_1_code 36 = .ok (.aload_n 0, 1) := by decide +kernel
theorem d_Forms_init_37 : decode prog_4_method_1_code 37 = .ok (.aload_n 1, 1) := by decide +kernel
theorem d_Forms_init_38 : decode prog_4_method_1_code 38 = .ok (.putfield 24, 3) := by decide +kernel
theorem d_Forms_init_41 : decode prog_4_method_1_code 41 = .ok (.aload_n 0, 1) := by decide +kernel
theorem d_Forms_init_42 : decode prog_4_method_1_code 42 = .ok (.aload_n 2, 1) := by decide +kernel
theorem d_Forms_init_43 : decode prog_4_method_1_code 43 = .ok (.putfield 28, 3) := by decide +kernel
theorem d_Forms_init_46 : decode prog_4_method_1_code 46 = .ok (.aload_n 0, 1) := by decide +kernel
theorem d_Forms_init_47 : decode prog_4_method_1_code 47 = .ok (.getfield 9, 3) := by decide +kernel
theorem d_Forms_init_50 : decode prog_4_method_1_code 50 = .ok (.aload_n 1, 1) := by decide +kernel
theorem d_Forms_init_51 : decode prog_4_method_1_code 51 = .ok (.getfield 32, 3) := by decide +kernel
theorem d_Forms_init_54 : decode prog_4_method_1_code 54 = .ok (.iconst 2, 1) := by decide +kernel
theorem d_Forms_init_55 : decode prog_4_method_1_code 55 = .ok (.invokestatic 37, 3) := by decide +kernel
theorem d_Forms_init_58 : decode prog_4_method_1_code 58 = .ok (.aload_n 0, 1) := by decide +kernel
theorem d_Forms_init_59 : decode prog_4_method_1_code 59 = .ok (.getfield 9, 3) := by decide +kernel
theorem d_Forms_init_62 : decode prog_4_method_1_code 62 = .ok (.iconst 0, 1) := by decide +kernel
theorem d_Forms_init_63 : decode prog_4_method_1_code 63 = .ok (.dup2, 1) := by decide +kernel
theorem d_Forms_init_64 : decode prog_4_method_1_code 64 = .ok (.laload, 1) := by decide +kernel
theorem d_Forms_init_65 : decode prog_4_method_1_code 65 = .ok (.lconst 1, 1) := by decide +kernel
theorem d_Forms_init_66 : decode prog_4_method_1_code 66 = .ok (.ladd, 1) := by decide +kernel
theorem d_Forms_init_67 : decode prog_4_method_1_code 67 = .ok (.lastore, 1) := by decide +kernel
theorem d_Forms_init_68 : decode prog_4_method_1_code 68 = .ok (.return_, 1) := by decide +kernel
abbrev y_Polys_init : MethodName := ⟨"KateDesk$Polynomials", "<init>", "(LKateDesk$Field;)V"⟩
theorem hd_Polys_init : y_Polys_init.cls ≠ "java/lang/invoke/MethodHandle" ∧ y_Polys_init.cls ≠ "java/lang/invoke/VarHandle" ∧ (parseMethodDescriptor y_Polys_init.desc).map (fun d => d.parameters.length) = some 1 := by decide +kernel
theorem d_Polys_init_0 : decode prog_7_method_1_code 0 = .ok (.aload_n 0, 1) := by decide +kernel
theorem d_Polys_init_1 : decode prog_7_method_1_code 1 = .ok (.invokespecial 1, 3) := by decide +kernel
theorem d_Polys_init_4 : decode prog_7_method_1_code 4 = .ok (.aload_n 0, 1) := by decide +kernel
theorem d_Polys_init_5 : decode prog_7_method_1_code 5 = .ok (.bipush 14, 2) := by decide +kernel
theorem d_Polys_init_7 : decode prog_7_method_1_code 7 = .ok (.newarray .long, 2) := by decide +kernel
theorem d_Polys_init_9 : decode prog_7_method_1_code 9 = .ok (.putfield 9, 3) := by decide +kernel
theorem d_Polys_init_12 : decode prog_7_method_1_code 12 = .ok (.aload_n 0, 1) := by decide +kernel
theorem d_Polys_init_13 : decode prog_7_method_1_code 13 = .ok (.bipush 14, 2) := by decide +kernel
theorem d_Polys_init_15 : decode prog_7_method_1_code 15 = .ok (.newarray .long, 2) := by decide +kernel
theorem d_Polys_init_17 : decode prog_7_method_1_code 17 = .ok (.putfield 15, 3) := by decide +kernel
theorem d_Polys_init_20 : decode prog_7_method_1_code 20 = .ok (.aload_n 0, 1) := by decide +kernel
theorem d_Polys_init_21 : decode prog_7_method_1_code 21 = .ok (.bipush 14, 2) := by decide +kernel
theorem d_Polys_init_23 : decode prog_7_method_1_code 23 = .ok (.newarray .long, 2) := by decide +kernel
theorem d_Polys_init_25 : decode prog_7_method_1_code 25 = .ok (.putfield 18, 3) := by decide +kernel
theorem d_Polys_init_28 : decode prog_7_method_1_code 28 = .ok (.aload_n 0, 1) := by decide +kernel
theorem d_Polys_init_29 : decode prog_7_method_1_code 29 = .ok (.bipush 14, 2) := by decide +kernel
theorem d_Polys_init_31 : decode prog_7_method_1_code 31 = .ok (.newarray .long, 2) := by decide +kernel
theorem d_Polys_init_33 : decode prog_7_method_1_code 33 = .ok (.putfield 21, 3) := by decide +kernel
theorem d_Polys_init_36 : decode prog_7_method_1_code 36 = .ok (.aload_n 0, 1) := by decide +kernel
theorem d_Polys_init_37 : decode prog_7_method_1_code 37 = .ok (.bipush 14, 2) := by decide +kernel
theorem d_Polys_init_39 : decode prog_7_method_1_code 39 = .ok (.newarray .long, 2) := by decide +kernel
theorem d_Polys_init_41 : decode prog_7_method_1_code 41 = .ok (.putfield 24, 3) := by decide +kernel
theorem d_Polys_init_44 : decode prog_7_method_1_code 44 = .ok (.aload_n 0, 1) := by decide +kernel
theorem d_Polys_init_45 : decode prog_7_method_1_code 45 = .ok (.bipush 14, 2) := by decide +kernel
theorem d_Polys_init_47 : decode prog_7_method_1_code 47 = .ok (.newarray .long, 2) := by decide +kernel
theorem d_Polys_init_49 : decode prog_7_method_1_code 49 = .ok (.putfield 27, 3) := by decide +kernel
theorem d_Polys_init_52 : decode prog_7_method_1_code 52 = .ok (.aload_n 0, 1) := by decide +kernel
theorem d_Polys_init_53 : decode prog_7_method_1_code 53 = .ok (.bipush 14, 2) := by decide +kernel
theorem d_Polys_init_55 : decode prog_7_method_1_code 55 = .ok (.newarray .long, 2) := by decide +kernel
theorem d_Polys_init_57 : decode prog_7_method_1_code 57 = .ok (.putfield 30, 3) := by decide +kernel
theorem d_Polys_init_60 : decode prog_7_method_1_code 60 = .ok (.aload_n 0, 1) := by decide +kernel
theorem d_Polys_init_61 : decode prog_7_method_1_code 61 = .ok (.bipush 16, 2) := by decide +kernel
theorem d_Polys_init_63 : decode prog_7_method_1_code 63 = .ok (.bipush 14, 2) := by decide +kernel
theorem d_Polys_init_65 : decode prog_7_method_1_code 65 = .ok (.multianewarray 33 2, 4) := by decide +kernel
theorem d_Polys_init_69 : decode prog_7_method_1_code 69 = .ok (.putfield 35, 3) := by decide +kernel
theorem d_Polys_init_72 : decode prog_7_method_1_code 72 = .ok (.aload_n 0, 1) := by decide +kernel
theorem d_Polys_init_73 : decode prog_7_method_1_code 73 = .ok (.aload_n 1, 1) := by decide +kernel
theorem d_Polys_init_74 : decode prog_7_method_1_code 74 = .ok (.putfield 38, 3) := by decide +kernel
theorem d_Polys_init_77 : decode prog_7_method_1_code 77 = .ok (.aload_n 0, 1) := by decide +kernel
theorem d_Polys_init_78 : decode prog_7_method_1_code 78 = .ok (.getfield 15, 3) := by decide +kernel
theorem d_Polys_init_81 : decode prog_7_method_1_code 81 = .ok (.iconst 0, 1) := by decide +kernel
theorem d_Polys_init_82 : decode prog_7_method_1_code 82 = .ok (.lconst 1, 1) := by decide +kernel
theorem d_Polys_init_83 : decode prog_7_method_1_code 83 = .ok (.lastore, 1) := by decide +kernel
theorem d_Polys_init_84 : decode prog_7_method_1_code 84 = .ok (.aload_n 0, 1) := by decide +kernel
theorem d_Polys_init_85 : decode prog_7_method_1_code 85 = .ok (.getfield 9, 3) := by decide +kernel
theorem d_Polys_init_88 : decode prog_7_method_1_code 88 = .ok (.iconst 0, 1) := by decide +kernel
theorem d_Polys_init_89 : decode prog_7_method_1_code 89 = .ok (.ldc2_w 42, 3) := by decide +kernel
theorem d_Polys_init_92 : decode prog_7_method_1_code 92 = .ok (.lastore, 1) := by decide +kernel
theorem d_Polys_init_93 : decode prog_7_method_1_code 93 = .ok (.aload_n 1, 1) := by decide +kernel
theorem d_Polys_init_94 : decode prog_7_method_1_code 94 = .ok (.aload_n 0, 1) := by decide +kernel
theorem d_Polys_init_95 : decode prog_7_method_1_code 95 = .ok (.getfield 9, 3) := by decide +kernel
theorem d_Polys_init_98 : decode prog_7_method_1_code 98 = .ok (.aload_n 0, 1) := by decide +kernel
theorem d_Polys_init_99 : decode prog_7_method_1_code 99 = .ok (.getfield 9, 3) := by decide +kernel
theorem d_Polys_init_102 : decode prog_7_method_1_code 102 = .ok (.invokevirtual 44, 3) := by decide +kernel
theorem d_Polys_init_105 : decode prog_7_method_1_code 105 = .ok (.return_, 1) := by decide +kernel
set_option maxHeartbeats 4000000 in
set_option maxRecDepth 100000 in
theorem c_Sums_init (l : Launch) (g : WG) (n0 : Nat → Prop) (s0 : State) (o cu : Nat) (hna : ∀ q, o ≤ q → n0 q) (hne : va_Nw (.methodLinkNest "KateDesk$Sums" 9 y_Desk_newPoints "KateDesk") s0) : CtrW l y_Sums_init (.code y_Sums_init prog_9_method_1_code 2 none) 3 82 278 7117 n0 g s0 [.ref o, .ref cu] (fun H => OB g H o 4 [.null, .null, .null, .null] ∧ H.size = o + 1) (QV (fun H H' => (OB g H' o 4 [.ref cu, .ref (o + 1), .ref (o + 258), .ref (o + 275)] ∧ AR g.2.2.2.2.1 H' (o + 1) 64 (fun k => o + 1 + 1 + 4 * k) ∧ (∀ k, k < 64 → PZ g H' (o + 1 + 1 + 4 * k)) ∧ AR g.2.2.2.2.2.2 H' (o + 258) 16 (fun j => o + 258 + 1 + j) ∧ (∀ j, j < 16 → AB g H' (o + 258 + 1 + j) 257 (fun _ => 0)) ∧ PZ g H' (o + 275)) ∧ H'.size = o + 279 ∧ ∀ q, q < o → H'[q]? = H[q]?)) := by
  refine ctrW_mk l (lv0 := [(0, .ref o), (1, .ref cu)]) (by decide) (Nat.le_of_ble_eq_true rfl) rfl ?_
  intro p e s m below meth c ls E hw0 hr hlk hnm hl hP
  have hx := E.1
  have hb := E.2.1
  have hK := E.2.2.2.2.2
  have hF : ∀ q ∈ ([] : List Loc), n0 q.base := fun q hq => absurd hq List.not_mem_nil
  obtain ⟨ho, hsz⟩ := hP
  have hlow : ∀ q, q < o → s.heap[q]? = s.heap[q]? := fun _ _ => rfl
  have na0 : n0 o := hna o (Nat.le_refl _)
  refine lv_aload_n hx hb d_Sums_init_0 rfl (lv_at hl 0 rfl) ?_
  refine W.objInit hx hb E.2.2.2.1 (E.2.2.2.2.1 _ w_241) (E.2.2.2.2.1 _ w_31) (E.2.2.2.2.1 _ w_32) rfl (by rw [E.2.2.1]; exact hl.1) rfl d_Sums_init_1 (Nat.le_of_ble_eq_true rfl) (Nat.le_of_ble_eq_true rfl) ?_
  refine lv_aload_n hx hb d_Sums_init_4 rfl (lv_at hl 0 rfl) ?_
  refine lv_bipush (v := nI 64) hx hb d_Sums_init_5 (by decide) ?_
  refine q_cSN (rest := [.ref o]) E (c_Desk_newPoints l g n0 (o + 1) 64 (by decide) (fun q h1 => hna q (Nat.le_trans (Nat.le_succ o) h1))) w_37 w_1 (va_Nw.warmM hw0 hne) w_36 hd_Desk_newPoints rfl ⟨by decide, by decide⟩ hsz hF hl.1 rfl (Nat.le_of_ble_eq_true rfl) d_Sums_init_7 ⟨by decide, by decide⟩ (qr (fun r1 H1 locs hq hF => ?_))
  obtain ⟨hr9, hsz2, hnw, hod, hop⟩ := hq
  subst hr9
  have hs : SB o s.heap H1 := SB.grow hsz (by rw [hsz2]; exact tn_a_0 o) hnw
  have hsz : H1.size = o + 258 := hsz2
  have ho := ho.eq (hnw o (tn_a_1 o))
  have hlow : ∀ q, q < o → H1[q]? = s.heap[q]? := fun q hq9 => (hnw q (Nat.lt_of_lt_of_le hq9 (tn_a_2 o))).trans (hlow q hq9)
  clear hs hsz2 hnw
  refine q_putF (C := "KateDesk$Sums") (T := T_Sums) (N := 4) (ci := 4) (ty := .array (.object "KateDesk$Point")) E ho in_Sums ty_Sums tyok_Sums nm_Sums rfl 1 (by decide) w_248 rfl rfl hnm rfl (by decide +kernel) rfl rfl (Nat.le_of_ble_eq_true rfl) na0 hF d_Sums_init_10 (fun H2 locs hq ho2 hF => ?_)
  have hsz := hq.1.trans hsz
  have ho := ho2
  have hs := SB.frm hq
  have hlow : ∀ q, q < o → H2[q]? = s.heap[q]? := fun q hq9 => (hq.2 q (Nat.ne_of_lt hq9)).trans (hlow q hq9)
  have hod := hod.sb hs (tn_a_3 o)
  have hop := (fun k hk => (hop k hk).sb hs (tn_a_5 o k) : ∀ k, k < 64 → PZ g _ (o + 1 + 1 + 4 * k))
  clear hs hq ho2
  refine lv_aload_n hx hb d_Sums_init_13 rfl (lv_at hl 0 rfl) ?_
  refine lv_bipush (v := nI 16) hx hb d_Sums_init_14 (by decide) ?_
  refine lv_sipush (v := nI 257) hx hb d_Sums_init_16 (by decide) ?_
  refine q_maB E (nI_pos (by decide)) (nI_pos (by decide)) (N := 16) (M := 257) (nI_clamp (by decide)) (nI_clamp (by decide)) (by decide) (by decide) w_243 (by decide) (by decide) hsz d_Sums_init_19 (fun H3 hsz2 hnw hdo hdi => ?_)
  have hs : SB o H2 H3 := SB.grow hsz (by rw [hsz2]; exact tn_a_6 o) hnw
  have hsz : H3.size = o + 275 := hsz2
  have ho := ho.eq (hnw o (tn_a_7 o))
  have hlow : ∀ q, q < o → H3[q]? = s.heap[q]? := fun q hq9 => (hnw q (Nat.lt_of_lt_of_le hq9 (tn_a_8 o))).trans (hlow q hq9)
  have hod := hod.sb hs (tn_a_3 o)
  have hop := (fun k hk => (hop k hk).sb hs (tn_a_5 o k) : ∀ k, k < 64 → PZ g _ (o + 1 + 1 + 4 * k))
  clear hs hsz2 hnw
  refine q_putF (C := "KateDesk$Sums") (T := T_Sums) (N := 4) (ci := 4) (ty := .array (.array (.byte))) E ho in_Sums ty_Sums tyok_Sums nm_Sums rfl 2 (by decide) w_249 rfl rfl hnm rfl (by decide +kernel) rfl rfl (Nat.le_of_ble_eq_true rfl) na0 hF d_Sums_init_23 (fun H4 locs hq ho2 hF => ?_)
  have hsz := hq.1.trans hsz
  have ho := ho2
  have hs := SB.frm hq
  have hlow : ∀ q, q < o → H4[q]? = s.heap[q]? := fun q hq9 => (hq.2 q (Nat.ne_of_lt hq9)).trans (hlow q hq9)
  have hod := hod.sb hs (tn_a_3 o)
  have hop := (fun k hk => (hop k hk).sb hs (tn_a_5 o k) : ∀ k, k < 64 → PZ g _ (o + 1 + 1 + 4 * k))
  have hdo := hdo.sb hs (tn_a_9 o)
  have hdi := (fun j hj => (hdi j hj).sb hs (tn_a_10 o j) : ∀ j, j < 16 → AB g _ (o + 258 + 1 + j) 257 (fun _ => 0))
  clear hs hq ho2
  refine lv_aload_n hx hb d_Sums_init_26 rfl (lv_at hl 0 rfl) ?_
  refine q_new (C := "KateDesk$Point") (T := T_Point) (N := 3) (ci := 2) (fs := [.null, .null, .null]) E in_Point ty_Point tyok_Point rfl w_245 w_40 w_2 (by decide +kernel) (by decide) (by decide) hsz d_Sums_init_27 (fun H5 hsz2 hnw hp => ?_)
  have hs : SB o H4 H5 := SB.grow hsz (by rw [hsz2]; exact tn_a_11 o) hnw
  have hsz : H5.size = o + 276 := hsz2
  have ho := ho.eq (hnw o (tn_a_12 o))
  have hlow : ∀ q, q < o → H5[q]? = s.heap[q]? := fun q hq9 => (hnw q (Nat.lt_of_lt_of_le hq9 (tn_a_13 o))).trans (hlow q hq9)
  have hod := hod.sb hs (tn_a_3 o)
  have hop := (fun k hk => (hop k hk).sb hs (tn_a_5 o k) : ∀ k, k < 64 → PZ g _ (o + 1 + 1 + 4 * k))
  have hdo := hdo.sb hs (tn_a_9 o)
  have hdi := (fun j hj => (hdi j hj).sb hs (tn_a_10 o j) : ∀ j, j < 16 → AB g _ (o + 258 + 1 + j) 257 (fun _ => 0))
  clear hs hsz2 hnw
  refine lv_dup hx hb d_Sums_init_30 rfl ?_
  refine q_cI (rest := [.ref (o + 275), .ref o]) E (c_Point_init l g n0 (o + 275) (fun q h1 _ => hna q (Nat.le_trans (Nat.le_add_right _ _) h1))) w_43 w_2 w_246 w_42 rfl hd_Point_init rfl ⟨by decide, by decide⟩ (⟨hp, hsz⟩) hF hl.1 rfl (Nat.le_of_ble_eq_true rfl) d_Sums_init_31 ⟨by decide, by decide⟩ (qv (fun H6 locs hq hF => ?_))
  obtain ⟨hpz, hsz2, hnw⟩ := hq
  clear hp
  have hsz : H6.size = o + 279 := hsz2
  have ho := ho.eq (hnw o (tn_a_14 o))
  have hlow : ∀ q, q < o → H6[q]? = s.heap[q]? := fun q hq9 => (hnw q (Nat.lt_of_lt_of_le hq9 (Nat.le_add_right _ _))).trans (hlow q hq9)
  have hod := hod.eq (hnw _ (tn_a_15 o))
  have hdo := hdo.eq (hnw _ (tn_a_16 o))
  have hop : ∀ k, k < 64 → PZ g H6 (o + 1 + 1 + 4 * k) := fun k hk => (hop k hk).on (fun q h1 h2 => hnw q (tn_su1 o k q hk h2))
  have hdi : ∀ j, j < 16 → AB g H6 (o + 258 + 1 + j) 257 (fun _ => 0) := fun j hj => (hdi j hj).eq (hnw _ (tn_su2 o j hj))
  clear hnw hsz2
  have hpz : PZ g H6 (o + 275) := hpz
  refine q_putF (C := "KateDesk$Sums") (T := T_Sums) (N := 4) (ci := 4) (ty := .object "KateDesk$Point") E ho in_Sums ty_Sums tyok_Sums nm_Sums rfl 3 (by decide) w_250 rfl rfl hnm rfl (by decide +kernel) rfl rfl (Nat.le_of_ble_eq_true rfl) na0 hF d_Sums_init_34 (fun H7 locs hq ho2 hF => ?_)
  have hsz := hq.1.trans hsz
  have ho := ho2
  have hs := SB.frm hq
  have hlow : ∀ q, q < o → H7[q]? = s.heap[q]? := fun q hq9 => (hq.2 q (Nat.ne_of_lt hq9)).trans (hlow q hq9)
  have hod := hod.sb hs (tn_a_3 o)
  have hop := (fun k hk => (hop k hk).sb hs (tn_a_5 o k) : ∀ k, k < 64 → PZ g _ (o + 1 + 1 + 4 * k))
  have hdo := hdo.sb hs (tn_a_9 o)
  have hdi := (fun j hj => (hdi j hj).sb hs (tn_a_10 o j) : ∀ j, j < 16 → AB g _ (o + 258 + 1 + j) 257 (fun _ => 0))
  have hpz := hpz.sb hs (tn_a_19 o)
  clear hs hq ho2
  refine lv_aload_n hx hb d_Sums_init_37 rfl (lv_at hl 0 rfl) ?_
  refine lv_aload_n hx hb d_Sums_init_38 rfl (lv_at hl 1 rfl) ?_
  refine q_putF (C := "KateDesk$Sums") (T := T_Sums) (N := 4) (ci := 4) (ty := .object "KateDesk$Curve") E ho in_Sums ty_Sums tyok_Sums nm_Sums rfl 0 (by decide) w_247 rfl rfl hnm rfl (by decide +kernel) rfl rfl (Nat.le_of_ble_eq_true rfl) na0 hF d_Sums_init_39 (fun H8 locs hq ho2 hF => ?_)
  have hsz := hq.1.trans hsz
  have ho := ho2
  have hs := SB.frm hq
  have hlow : ∀ q, q < o → H8[q]? = s.heap[q]? := fun q hq9 => (hq.2 q (Nat.ne_of_lt hq9)).trans (hlow q hq9)
  have hod := hod.sb hs (tn_a_3 o)
  have hop := (fun k hk => (hop k hk).sb hs (tn_a_5 o k) : ∀ k, k < 64 → PZ g _ (o + 1 + 1 + 4 * k))
  have hdo := hdo.sb hs (tn_a_9 o)
  have hdi := (fun j hj => (hdi j hj).sb hs (tn_a_10 o j) : ∀ j, j < 16 → AB g _ (o + 258 + 1 + j) 257 (fun _ => 0))
  have hpz := hpz.sb hs (tn_a_19 o)
  clear hs hq ho2
  exact q_vret E hr hlk (⟨rfl, ⟨ho, hod, hop, hdo, hdi, hpz⟩, hsz, hlow⟩) hF d_Sums_init_42