/-! heaps that grow -/
theorem AJ.eq {g : WG} {H H' : Heap} {a N : Nat} {f : Nat → Int64} (hA : AJ g H a N f) (h : H'[a]? = H[a]?) : AJ g H' a N f := by unfold AJ at hA ⊢; rw [h]; exact hA
theorem AI.eq {g : WG} {H H' : Heap} {a N : Nat} {f : Nat → Int32} (hA : AI g H a N f) (h : H'[a]? = H[a]?) : AI g H' a N f := by unfold AI at hA ⊢; rw [h]; exact hA
theorem OB.eq {g : WG} {H H' : Heap} {a ci : Nat} {fs : List Value} (ho : OB g H a ci fs) (h : H'[a]? = H[a]?) : OB g H' a ci fs := by
  obtain ⟨r, hc, cell, h1, h2, h3⟩ := ho
  exact ⟨r, hc, cell, by rw [h]; exact h1, h2, h3⟩
section KRN
variable {p : Program} {l : Launch} {e : Env} {R : Room} {s : State} {m : MethodId} {args : Array Value} {below : List Frame} {meth : Method} {c : Code} {H : Heap} {locs : List Loc} {cells slots : Nat} {Q : State → Prop}
variable {cc : ByteArray} {nL : Nat} {pc : Nat} {ls : Array Slot} {rest : List Value} {g : WG} {own : String} {n0 : Nat → Prop} {a : Nat}
theorem q_newJ (E : EV p m c cc nL s args own g) {n : Int32} (N : Nat) (hn : n = nI N) (hN : N ≤ 10000) (harr : Cond.arrayClass .long ∈ BW) (hc : cells + 1 ≤ R.cells) (hs : slots + N ≤ R.slots) {h : Nat} (hh : H.size = h) (hdg : decode cc pc = .ok (.newarray .long, 2))
    (kk : ∀ H' : Heap, H'.size = h + 1 → (∀ q, q < h → H'[q]? = H[q]?) → AJ g H' h N (fun _ => 0) → W p l e R s m args below meth c H' locs (cells + 1) (slots + N) Q (F0 m (pc + 2) ls (.ref h :: rest))) : W p l e R s m args below meth c H locs cells slots Q (F0 m pc ls (.int n :: rest)) := by
  subst hn
  refine va_newaK E.1 E.2.1 (atype := .long) (E.2.2.2.2.1 _ harr) rfl hdg rfl (nI_pos (by omega)) (nI_clamp (by omega)) (by show N * 8 ≤ _; omega) hc hs hh fun H1 cA e1 z1 o1 hAr hNm => ?_
  have hcA : cA = g.2.1 := Option.some.inj (hNm.symm.trans (E.2.2.2.2.2.1.2 0 _ rfl).2)
  subst hcA
  exact kk H1 z1 o1 e1
theorem q_newI (E : EV p m c cc nL s args own g) {n : Int32} (N : Nat) (hn : n = nI N) (hN : N ≤ 10000) (harr : Cond.arrayClass .int ∈ BW) (hc : cells + 1 ≤ R.cells) (hs : slots + N ≤ R.slots) {h : Nat} (hh : H.size = h) (hdg : decode cc pc = .ok (.newarray .int, 2))
    (kk : ∀ H' : Heap, H'.size = h + 1 → (∀ q, q < h → H'[q]? = H[q]?) → AI g H' h N (fun _ => 0) → W p l e R s m args below meth c H' locs (cells + 1) (slots + N) Q (F0 m (pc + 2) ls (.ref h :: rest))) : W p l e R s m args below meth c H locs cells slots Q (F0 m pc ls (.int n :: rest)) := by
  subst hn
  refine va_newaK E.1 E.2.1 (atype := .int) (E.2.2.2.2.1 _ harr) rfl hdg rfl (nI_pos (by omega)) (nI_clamp (by omega)) (by show N * 4 ≤ _; omega) hc hs hh fun H1 cA e1 z1 o1 hAr hNm => ?_
  have hcA : cA = g.2.2.2.1 := Option.some.inj (hNm.symm.trans (E.2.2.2.2.2.1.2 2 _ rfl).2)
  subst hcA
  exact kk H1 z1 o1 e1
end KRN
theorem MS.above {g : WG} {n0 : Nat → Prop} {H H' : Heap} {mo : Nat} {th pw td wr : Int32} {w n : Nat} {fd fa : Nat → Int64} {U : State} (hK : KW g U) (h : MS g n0 H mo th pw td wr w n fd) (hk : KJ g (fun q => q = mo + 4) H H') (ha : AJ g H' (mo + 4) 420 fa) (hd : ∀ k, k < 420 → dg (fa k)) : MS g n0 H' mo th pw td wr w n fd := by
  obtain ⟨h1, h2, _, ⟨f5, h5⟩, h6, h7, h8, h9⟩ := h
  exact ⟨hk.ob hK h1, hk.ajo (by omega) h2, ⟨fa, ha, hd⟩, hk.aj h5, hk.ajo (by omega) h6, h7, h8, h9⟩
def kBa (k : Nat) : Int64 := ([186828475, 61800621, 169537531, 243531671, 207121493, 66154938, 94457402, 158813072, 57183311, 177914108, 90410063, 226050665, 61288855, 98077, 113633249, 178401940, 143320076, 208947752, 65916988, 213041227, 100719384, 224198831, 217440405, 30977615, 238087540, 168761865, 75621290, 35647] : List Int64).getD k 0
theorem kBa_dg : ∀ k, k < 28 → dg (kBa k) := by
  have h : ∀ k : Fin 28, 0 ≤ (kBa k.val).toInt ∧ (kBa k.val).toInt < 268435456 := by decide +kernel
  exact fun k hk => h ⟨k, hk⟩
def prU : Nat → Nat → Int64
  | 0 => fun _ => 0
  | n + 1 => vp_updL (prU n) n (kPr n)
theorem prU_eq : ∀ j, j < 28 → prU 28 j = kPr j := by
  have h : ∀ j : Fin 28, prU 28 j.val = kPr j.val := by decide +kernel
  exact fun j hj => h ⟨j, hj⟩
def baU : Nat → Nat → Int64
  | 0 => fun _ => 0
  | n + 1 => vp_updL (baU n) n (kBa n)
theorem baU_eq : ∀ j, j < 28 → baU 28 j = kBa j := by
  have h : ∀ j : Fin 28, baU 28 j.val = kBa j.val := by decide +kernel
  exact fun j hj => h ⟨j, hj⟩
abbrev y_Model_init : MethodName := ⟨"KateDeskModel", "<init>", "()V"⟩
theorem hd_Model_init : y_Model_init.cls ≠ "java/lang/invoke/MethodHandle" ∧ y_Model_init.cls ≠ "java/lang/invoke/VarHandle" ∧ (parseMethodDescriptor y_Model_init.desc).map (fun d => d.parameters.length) = some 0 := by decide +kernel
theorem d_Model_init_0 : decode prog_11_method_1_code 0 = .ok (.aload_n 0, 1) := by decide +kernel
theorem d_Model_init_1 : decode prog_11_method_1_code 1 = .ok (.invokespecial 1, 3) := by decide +kernel
theorem d_Model_init_4 : decode prog_11_method_1_code 4 = .ok (.aload_n 0, 1) := by decide +kernel
theorem d_Model_init_5 : decode prog_11_method_1_code 5 = .ok (.sipush 2380, 3) := by decide +kernel
theorem d_Model_init_8 : decode prog_11_method_1_code 8 = .ok (.newarray .long, 2) := by decide +kernel
theorem d_Model_init_10 : decode prog_11_method_1_code 10 = .ok (.putfield 7, 3) := by decide +kernel
theorem d_Model_init_13 : decode prog_11_method_1_code 13 = .ok (.aload_n 0, 1) := by decide +kernel
theorem d_Model_init_14 : decode prog_11_method_1_code 14 = .ok (.bipush 28, 2) := by decide +kernel
theorem d_Model_init_16 : decode prog_11_method_1_code 16 = .ok (.newarray .long, 2) := by decide +kernel
theorem d_Model_init_18 : decode prog_11_method_1_code 18 = .ok (.dup, 1) := by decide +kernel
theorem d_Model_init_19 : decode prog_11_method_1_code 19 = .ok (.iconst 0, 1) := by decide +kernel
theorem d_Model_init_20 : decode prog_11_method_1_code 20 = .ok (.ldc2_w 13, 3) := by decide +kernel
theorem d_Model_init_23 : decode prog_11_method_1_code 23 = .ok (.lastore, 1) := by decide +kernel
theorem d_Model_init_24 : decode prog_11_method_1_code 24 = .ok (.dup, 1) := by decide +kernel
theorem d_Model_init_25 : decode prog_11_method_1_code 25 = .ok (.iconst 1, 1) := by decide +kernel
theorem d_Model_init_26 : decode prog_11_method_1_code 26 = .ok (.ldc2_w 15, 3) := by decide +kernel
theorem d_Model_init_29 : decode prog_11_method_1_code 29 = .ok (.lastore, 1) := by decide +kernel
theorem d_Model_init_30 : decode prog_11_method_1_code 30 = .ok (.dup, 1) := by decide +kernel
theorem d_Model_init_31 : decode prog_11_method_1_code 31 = .ok (.iconst 2, 1) := by decide +kernel
theorem d_Model_init_32 : decode prog_11_method_1_code 32 = .ok (.ldc2_w 17, 3) := by decide +kernel
theorem d_Model_init_35 : decode prog_11_method_1_code 35 = .ok (.lastore, 1) := by decide +kernel
theorem d_Model_init_36 : decode prog_11_method_1_code 36 = .ok (.dup, 1) := by decide +kernel
theorem d_Model_init_37 : decode prog_11_method_1_code 37 = .ok (.iconst 3, 1) := by decide +kernel
theorem d_Model_init_38 : decode prog_11_method_1_code 38 = .ok (.ldc2_w 19, 3) := by decide +kernel
theorem d_Model_init_41 : decode prog_11_method_1_code 41 = .ok (.lastore, 1) := by decide +kernel
theorem d_Model_init_42 : decode prog_11_method_1_code 42 = .ok (.dup, 1) := by decide +kernel
theorem d_Model_init_43 : decode prog_11_method_1_code 43 = .ok (.iconst 4, 1) := by decide +kernel
theorem d_Model_init_44 : decode prog_11_method_1_code 44 = .ok (.ldc2_w 21, 3) := by decide +kernel
theorem d_Model_init_47 : decode prog_11_method_1_code 47 = .ok (.lastore, 1) := by decide +kernel
theorem d_Model_init_48 : decode prog_11_method_1_code 48 = .ok (.dup, 1) := by decide +kernel
theorem d_Model_init_49 : decode prog_11_method_1_code 49 = .ok (.iconst 5, 1) := by decide +kernel
theorem d_Model_init_50 : decode prog_11_method_1_code 50 = .ok (.ldc2_w 23, 3) := by decide +kernel
theorem d_Model_init_53 : decode prog_11_method_1_code 53 = .ok (.lastore, 1) := by decide +kernel
theorem d_Model_init_54 : decode prog_11_method_1_code 54 = .ok (.dup, 1) := by decide +kernel
theorem d_Model_init_55 : decode prog_11_method_1_code 55 = .ok (.bipush 6, 2) := by decide +kernel
theorem d_Model_init_57 : decode prog_11_method_1_code 57 = .ok (.ldc2_w 25, 3) := by decide +kernel
theorem d_Model_init_60 : decode prog_11_method_1_code 60 = .ok (.lastore, 1) := by decide +kernel
theorem d_Model_init_61 : decode prog_11_method_1_code 61 = .ok (.dup, 1) := by decide +kernel
theorem d_Model_init_62 : decode prog_11_method_1_code 62 = .ok (.bipush 7, 2) := by decide +kernel
theorem d_Model_init_64 : decode prog_11_method_1_code 64 = .ok (.ldc2_w 27, 3) := by decide +kernel
theorem d_Model_init_67 : decode prog_11_method_1_code 67 = .ok (.lastore, 1) := by decide +kernel
theorem d_Model_init_68 : decode prog_11_method_1_code 68 = .ok (.dup, 1) := by decide +kernel
theorem d_Model_init_69 : decode prog_11_method_1_code 69 = .ok (.bipush 8, 2) := by decide +kernel
theorem d_Model_init_71 : decode prog_11_method_1_code 71 = .ok (.ldc2_w 29, 3) := by decide +kernel
theorem d_Model_init_74 : decode prog_11_method_1_code 74 = .ok (.lastore, 1) := by decide +kernel
theorem d_Model_init_75 : decode prog_11_method_1_code 75 = .ok (.dup, 1) := by decide +kernel
theorem d_Model_init_76 : decode prog_11_method_1_code 76 = .ok (.bipush 9, 2) := by decide +kernel
theorem d_Model_init_78 : decode prog_11_method_1_code 78 = .ok (.ldc2_w 31, 3) := by decide +kernel
theorem d_Model_init_81 : decode prog_11_method_1_code 81 = .ok (.lastore, 1) := by decide +kernel
theorem d_Model_init_82 : decode prog_11_method_1_code 82 = .ok (.dup, 1) := by decide +kernel
theorem d_Model_init_83 : decode prog_11_method_1_code 83 = .ok (.bipush 10, 2) := by decide +kernel
theorem d_Model_init_85 : decode prog_11_method_1_code 85 = .ok (.ldc2_w 33, 3) := by decide +kernel
theorem d_Model_init_88 : decode prog_11_method_1_code 88 = .ok (.lastore, 1) := by decide +kernel
theorem d_Model_init_89 : decode prog_11_method_1_code 89 = .ok (.dup, 1) := by decide +kernel
theorem d_Model_init_90 : decode prog_11_method_1_code 90 = .ok (.bipush 11, 2) := by decide +kernel
theorem d_Model_init_92 : decode prog_11_method_1_code 92 = .ok (.ldc2_w 35, 3) := by decide +kernel
theorem d_Model_init_95 : decode prog_11_method_1_code 95 = .ok (.lastore, 1) := by decide +kernel
theorem d_Model_init_96 : decode prog_11_method_1_code 96 = .ok (.dup, 1) := by decide +kernel
theorem d_Model_init_97 : decode prog_11_method_1_code 97 = .ok (.bipush 12, 2) := by decide +kernel
theorem d_Model_init_99 : decode prog_11_method_1_code 99 = .ok (.ldc2_w 37, 3) := by decide +kernel
theorem d_Model_init_102 : decode prog_11_method_1_code 102 = .ok (.lastore, 1) := by decide +kernel
theorem d_Model_init_103 : decode prog_11_method_1_code 103 = .ok (.dup, 1) := by decide +kernel
theorem d_Model_init_104 : decode prog_11_method_1_code 104 = .ok (.bipush 13, 2) := by decide +kernel
theorem d_Model_init_106 : decode prog_11_method_1_code 106 = .ok (.ldc2_w 39, 3) := by decide +kernel
theorem d_Model_init_109 : decode prog_11_method_1_code 109 = .ok (.lastore, 1) := by decide +kernel
theorem d_Model_init_110 : decode prog_11_method_1_code 110 = .ok (.dup, 1) := by decide +kernel
theorem d_Model_init_111 : decode prog_11_method_1_code 111 = .ok (.bipush 14, 2) := by decide +kernel
theorem d_Model_init_113 : decode prog_11_method_1_code 113 = .ok (.lconst 1, 1) := by decide +kernel
theorem d_Model_init_114 : decode prog_11_method_1_code 114 = .ok (.lastore, 1) := by decide +kernel
theorem d_Model_init_115 : decode prog_11_method_1_code 115 = .ok (.dup, 1) := by decide +kernel
theorem d_Model_init_116 : decode prog_11_method_1_code 116 = .ok (.bipush 15, 2) := by decide +kernel
theorem d_Model_init_118 : decode prog_11_method_1_code 118 = .ok (.ldc2_w 41, 3) := by decide +kernel
theorem d_Model_init_121 : decode prog_11_method_1_code 121 = .ok (.lastore, 1) := by decide +kernel
theorem d_Model_init_122 : decode prog_11_method_1_code 122 = .ok (.dup, 1) := by decide +kernel
theorem d_Model_init_123 : decode prog_11_method_1_code 123 = .ok (.bipush 16, 2) := by decide +kernel
theorem d_Model_init_125 : decode prog_11_method_1_code 125 = .ok (.ldc2_w 43, 3) := by decide +kernel
theorem d_Model_init_128 : decode prog_11_method_1_code 128 = .ok (.lastore, 1) := by decide +kernel
theorem d_Model_init_129 : decode prog_11_method_1_code 129 = .ok (.dup, 1) := by decide +kernel
theorem d_Model_init_130 : decode prog_11_method_1_code 130 = .ok (.bipush 17, 2) := by decide +kernel
theorem d_Model_init_132 : decode prog_11_method_1_code 132 = .ok (.ldc2_w 45, 3) := by decide +kernel
theorem d_Model_init_135 : decode prog_11_method_1_code 135 = .ok (.lastore, 1) := by decide +kernel
theorem d_Model_init_136 : decode prog_11_method_1_code 136 = .ok (.dup, 1) := by decide +kernel
theorem d_Model_init_137 : decode prog_11_method_1_code 137 = .ok (.bipush 18, 2) := by decide +kernel
theorem d_Model_init_139 : decode prog_11_method_1_code 139 = .ok (.ldc2_w 47, 3) := by decide +kernel
theorem d_Model_init_142 : decode prog_11_method_1_code 142 = .ok (.lastore, 1) := by decide +kernel
theorem d_Model_init_143 : decode prog_11_method_1_code 143 = .ok (.dup, 1) := by decide +kernel
theorem d_Model_init_144 : decode prog_11_method_1_code 144 = .ok (.bipush 19, 2) := by decide +kernel
theorem d_Model_init_146 : decode prog_11_method_1_code 146 = .ok (.ldc2_w 49, 3) := by decide +kernel
theorem d_Model_init_149 : decode prog_11_method_1_code 149 = .ok (.lastore, 1) := by decide +kernel
theorem d_Model_init_150 : decode prog_11_method_1_code 150 = .ok (.dup, 1) := by decide +kernel
theorem d_Model_init_151 : decode prog_11_method_1_code 151 = .ok (.bipush 20, 2) := by decide +kernel
theorem d_Model_init_153 : decode prog_11_method_1_code 153 = .ok (.ldc2_w 51, 3) := by decide +kernel
theorem d_Model_init_156 : decode prog_11_method_1_code 156 = .ok (.lastore, 1) := by decide +kernel
theorem d_Model_init_157 : decode prog_11_method_1_code 157 = .ok (.dup, 1) := by decide +kernel
theorem d_Model_init_158 : decode prog_11_method_1_code 158 = .ok (.bipush 21, 2) := by decide +kernel
theorem d_Model_init_160 : decode prog_11_method_1_code 160 = .ok (.ldc2_w 53, 3) := by decide +kernel
theorem d_Model_init_163 : decode prog_11_method_1_code 163 = .ok (.lastore, 1) := by decide +kernel
theorem d_Model_init_164 : decode prog_11_method_1_code 164 = .ok (.dup, 1) := by decide +kernel
theorem d_Model_init_165 : decode prog_11_method_1_code 165 = .ok (.bipush 22, 2) := by decide +kernel
theorem d_Model_init_167 : decode prog_11_method_1_code 167 = .ok (.ldc2_w 55, 3) := by decide +kernel
theorem d_Model_init_170 : decode prog_11_method_1_code 170 = .ok (.lastore, 1) := by decide +kernel
theorem d_Model_init_171 : decode prog_11_method_1_code 171 = .ok (.dup, 1) := by decide +kernel
theorem d_Model_init_172 : decode prog_11_method_1_code 172 = .ok (.bipush 23, 2) := by decide +kernel
theorem d_Model_init_174 : decode prog_11_method_1_code 174 = .ok (.ldc2_w 57, 3) := by decide +kernel
theorem d_Model_init_177 : decode prog_11_method_1_code 177 = .ok (.lastore, 1) := by decide +kernel
theorem d_Model_init_178 : decode prog_11_method_1_code 178 = .ok (.dup, 1) := by decide +kernel
theorem d_Model_init_179 : decode prog_11_method_1_code 179 = .ok (.bipush 24, 2) := by decide +kernel
theorem d_Model_init_181 : decode prog_11_method_1_code 181 = .ok (.lconst 0, 1) := by decide +kernel
theorem d_Model_init_182 : decode prog_11_method_1_code 182 = .ok (.lastore, 1) := by decide +kernel
theorem d_Model_init_183 : decode prog_11_method_1_code 183 = .ok (.dup, 1) := by decide +kernel
theorem d_Model_init_184 : decode prog_11_method_1_code 184 = .ok (.bipush 25, 2) := by decide +kernel
theorem d_Model_init_186 : decode prog_11_method_1_code 186 = .ok (.lconst 0, 1) := by decide +kernel
theorem d_Model_init_187 : decode prog_11_method_1_code 187 = .ok (.lastore, 1) := by decide +kernel
theorem d_Model_init_188 : decode prog_11_method_1_code 188 = .ok (.dup, 1) := by decide +kernel
theorem d_Model_init_189 : decode prog_11_method_1_code 189 = .ok (.bipush 26, 2) := by decide +kernel
theorem d_Model_init_191 : decode prog_11_method_1_code 191 = .ok (.lconst 0, 1) := by decide +kernel
theorem d_Model_init_192 : decode prog_11_method_1_code 192 = .ok (.lastore, 1) := by decide +kernel
theorem d_Model_init_193 : decode prog_11_method_1_code 193 = .ok (.dup, 1) := by decide +kernel
theorem d_Model_init_194 : decode prog_11_method_1_code 194 = .ok (.bipush 27, 2) := by decide +kernel
theorem d_Model_init_196 : decode prog_11_method_1_code 196 = .ok (.lconst 0, 1) := by decide +kernel
theorem d_Model_init_197 : decode prog_11_method_1_code 197 = .ok (.lastore, 1) := by decide +kernel
theorem d_Model_init_198 : decode prog_11_method_1_code 198 = .ok (.putfield 59, 3) := by decide +kernel
theorem d_Model_init_201 : decode prog_11_method_1_code 201 = .ok (.aload_n 0, 1) := by decide +kernel
theorem d_Model_init_202 : decode prog_11_method_1_code 202 = .ok (.bipush 28, 2) := by decide +kernel
theorem d_Model_init_204 : decode prog_11_method_1_code 204 = .ok (.newarray .long, 2) := by decide +kernel
theorem d_Model_init_206 : decode prog_11_method_1_code 206 = .ok (.dup, 1) := by decide +kernel
theorem d_Model_init_207 : decode prog_11_method_1_code 207 = .ok (.iconst 0, 1) := by decide +kernel
theorem d_Model_init_208 : decode prog_11_method_1_code 208 = .ok (.ldc2_w 62, 3) := by decide +kernel
theorem d_Model_init_211 : decode prog_11_method_1_code 211 = .ok (.lastore, 1) := by decide +kernel
theorem d_Model_init_212 : decode prog_11_method_1_code 212 = .ok (.dup, 1) := by decide +kernel
theorem d_Model_init_213 : decode prog_11_method_1_code 213 = .ok (.iconst 1, 1) := by decide +kernel
theorem d_Model_init_214 : decode prog_11_method_1_code 214 = .ok (.ldc2_w 64, 3) := by decide +kernel
theorem d_Model_init_217 : decode prog_11_method_1_code 217 = .ok (.lastore, 1) := by decide +kernel
theorem d_Model_init_218 : decode prog_11_method_1_code 218 = .ok (.dup, 1) := by decide +kernel
theorem d_Model_init_219 : decode prog_11_method_1_code 219 = .ok (.iconst 2, 1) := by decide +kernel
theorem d_Model_init_220 : decode prog_11_method_1_code 220 = .ok (.ldc2_w 66, 3) := by decide +kernel
theorem d_Model_init_223 : decode prog_11_method_1_code 223 = .ok (.lastore, 1) := by decide +kernel
theorem d_Model_init_224 : decode prog_11_method_1_code 224 = .ok (.dup, 1) := by decide +kernel
theorem d_Model_init_225 : decode prog_11_method_1_code 225 = .ok (.iconst 3, 1) := by decide +kernel
theorem d_Model_init_226 : decode prog_11_method_1_code 226 = .ok (.ldc2_w 68, 3) := by decide +kernel
theorem d_Model_init_229 : decode prog_11_method_1_code 229 = .ok (.lastore, 1) := by decide +kernel
theorem d_Model_init_230 : decode prog_11_method_1_code 230 = .ok (.dup, 1) := by decide +kernel
theorem d_Model_init_231 : decode prog_11_method_1_code 231 = .ok (.iconst 4, 1) := by decide +kernel
theorem d_Model_init_232 : decode prog_11_method_1_code 232 = .ok (.ldc2_w 70, 3) := by decide +kernel
theorem d_Model_init_235 : decode prog_11_method_1_code 235 = .ok (.lastore, 1) := by decide +kernel
theorem d_Model_init_236 : decode prog_11_method_1_code 236 = .ok (.dup, 1) := by decide +kernel
theorem d_Model_init_237 : decode prog_11_method_1_code 237 = .ok (.iconst 5, 1) := by decide +kernel
theorem d_Model_init_238 : decode prog_11_method_1_code 238 = .ok (.ldc2_w 72, 3) := by decide +kernel
theorem d_Model_init_241 : decode prog_11_method_1_code 241 = .ok (.lastore, 1) := by decide +kernel
theorem d_Model_init_242 : decode prog_11_method_1_code 242 = .ok (.dup, 1) := by decide +kernel
theorem d_Model_init_243 : decode prog_11_method_1_code 243 = .ok (.bipush 6, 2) := by decide +kernel
theorem d_Model_init_245 : decode prog_11_method_1_code 245 = .ok (.ldc2_w 74, 3) := by decide +kernel
theorem d_Model_init_248 : decode prog_11_method_1_code 248 = .ok (.lastore, 1) := by decide +kernel
theorem d_Model_init_249 : decode prog_11_method_1_code 249 = .ok (.dup, 1) := by decide +kernel
theorem d_Model_init_250 : decode prog_11_method_1_code 250 = .ok (.bipush 7, 2) := by decide +kernel
theorem d_Model_init_252 : decode prog_11_method_1_code 252 = .ok (.ldc2_w 76, 3) := by decide +kernel
theorem d_Model_init_255 : decode prog_11_method_1_code 255 = .ok (.lastore, 1) := by decide +kernel
theorem d_Model_init_256 : decode prog_11_method_1_code 256 = .ok (.dup, 1) := by decide +kernel
theorem d_Model_init_257 : decode prog_11_method_1_code 257 = .ok (.bipush 8, 2) := by decide +kernel
theorem d_Model_init_259 : decode prog_11_method_1_code 259 = .ok (.ldc2_w 78, 3) := by decide +kernel
theorem d_Model_init_262 : decode prog_11_method_1_code 262 = .ok (.lastore, 1) := by decide +kernel
theorem d_Model_init_263 : decode prog_11_method_1_code 263 = .ok (.dup, 1) := by decide +kernel
theorem d_Model_init_264 : decode prog_11_method_1_code 264 = .ok (.bipush 9, 2) := by decide +kernel
theorem d_Model_init_266 : decode prog_11_method_1_code 266 = .ok (.ldc2_w 80, 3) := by decide +kernel
theorem d_Model_init_269 : decode prog_11_method_1_code 269 = .ok (.lastore, 1) := by decide +kernel
theorem d_Model_init_270 : decode prog_11_method_1_code 270 = .ok (.dup, 1) := by decide +kernel
theorem d_Model_init_271 : decode prog_11_method_1_code 271 = .ok (.bipush 10, 2) := by decide +kernel
theorem d_Model_init_273 : decode prog_11_method_1_code 273 = .ok (.ldc2_w 82, 3) := by decide +kernel
theorem d_Model_init_276 : decode prog_11_method_1_code 276 = .ok (.lastore, 1) := by decide +kernel
theorem d_Model_init_277 : decode prog_11_method_1_code 277 = .ok (.dup, 1) := by decide +kernel
theorem d_Model_init_278 : decode prog_11_method_1_code 278 = .ok (.bipush 11, 2) := by decide +kernel
theorem d_Model_init_280 : decode prog_11_method_1_code 280 = .ok (.ldc2_w 84, 3) := by decide +kernel
theorem d_Model_init_283 : decode prog_11_method_1_code 283 = .ok (.lastore, 1) := by decide +kernel
theorem d_Model_init_284 : decode prog_11_method_1_code 284 = .ok (.dup, 1) := by decide +kernel
theorem d_Model_init_285 : decode prog_11_method_1_code 285 = .ok (.bipush 12, 2) := by decide +kernel
theorem d_Model_init_287 : decode prog_11_method_1_code 287 = .ok (.ldc2_w 86, 3) := by decide +kernel
theorem d_Model_init_290 : decode prog_11_method_1_code 290 = .ok (.lastore, 1) := by decide +kernel
theorem d_Model_init_291 : decode prog_11_method_1_code 291 = .ok (.dup, 1) := by decide +kernel
theorem d_Model_init_292 : decode prog_11_method_1_code 292 = .ok (.bipush 13, 2) := by decide +kernel
theorem d_Model_init_294 : decode prog_11_method_1_code 294 = .ok (.ldc2_w 88, 3) := by decide +kernel
theorem d_Model_init_297 : decode prog_11_method_1_code 297 = .ok (.lastore, 1) := by decide +kernel
theorem d_Model_init_298 : decode prog_11_method_1_code 298 = .ok (.dup, 1) := by decide +kernel
theorem d_Model_init_299 : decode prog_11_method_1_code 299 = .ok (.bipush 14, 2) := by decide +kernel
theorem d_Model_init_301 : decode prog_11_method_1_code 301 = .ok (.ldc2_w 90, 3) := by decide +kernel
theorem d_Model_init_304 : decode prog_11_method_1_code 304 = .ok (.lastore, 1) := by decide +kernel
theorem d_Model_init_305 : decode prog_11_method_1_code 305 = .ok (.dup, 1) := by decide +kernel
theorem d_Model_init_306 : decode prog_11_method_1_code 306 = .ok (.bipush 15, 2) := by decide +kernel
theorem d_Model_init_308 : decode prog_11_method_1_code 308 = .ok (.ldc2_w 92, 3) := by decide +kernel
theorem d_Model_init_311 : decode prog_11_method_1_code 311 = .ok (.lastore, 1) := by decide +kernel
theorem d_Model_init_312 : decode prog_11_method_1_code 312 = .ok (.dup, 1) := by decide +kernel
theorem d_Model_init_313 : decode prog_11_method_1_code 313 = .ok (.bipush 16, 2) := by decide +kernel
theorem d_Model_init_315 : decode prog_11_method_1_code 315 = .ok (.ldc2_w 94, 3) := by decide +kernel
theorem d_Model_init_318 : decode prog_11_method_1_code 318 = .ok (.lastore, 1) := by decide +kernel
theorem d_Model_init_319 : decode prog_11_method_1_code 319 = .ok (.dup, 1) := by decide +kernel
theorem d_Model_init_320 : decode prog_11_method_1_code 320 = .ok (.bipush 17, 2) := by decide +kernel
theorem d_Model_init_322 : decode prog_11_method_1_code 322 = .ok (.ldc2_w 96, 3) := by decide +kernel
theorem d_Model_init_325 : decode prog_11_method_1_code 325 = .ok (.lastore, 1) := by decide +kernel
theorem d_Model_init_326 : decode prog_11_method_1_code 326 = .ok (.dup, 1) := by decide +kernel
theorem d_Model_init_327 : decode prog_11_method_1_code 327 = .ok (.bipush 18, 2) := by decide +kernel
theorem d_Model_init_329 : decode prog_11_method_1_code 329 = .ok (.ldc2_w 98, 3) := by decide +kernel
theorem d_Model_init_332 : decode prog_11_method_1_code 332 = .ok (.lastore, 1) := by decide +kernel
theorem d_Model_init_333 : decode prog_11_method_1_code 333 = .ok (.dup, 1) := by decide +kernel
theorem d_Model_init_334 : decode prog_11_method_1_code 334 = .ok (.bipush 19, 2) := by decide +kernel
theorem d_Model_init_336 : decode prog_11_method_1_code 336 = .ok (.ldc2_w 100, 3) := by decide +kernel
theorem d_Model_init_339 : decode prog_11_method_1_code 339 = .ok (.lastore, 1) := by decide +kernel
theorem d_Model_init_340 : decode prog_11_method_1_code 340 = .ok (.dup, 1) := by decide +kernel
theorem d_Model_init_341 : decode prog_11_method_1_code 341 = .ok (.bipush 20, 2) := by decide +kernel
theorem d_Model_init_343 : decode prog_11_method_1_code 343 = .ok (.ldc2_w 102, 3) := by decide +kernel
theorem d_Model_init_346 : decode prog_11_method_1_code 346 = .ok (.lastore, 1) := by decide +kernel
theorem d_Model_init_347 : decode prog_11_method_1_code 347 = .ok (.dup, 1) := by decide +kernel
theorem d_Model_init_348 : decode prog_11_method_1_code 348 = .ok (.bipush 21, 2) := by decide +kernel
theorem d_Model_init_350 : decode prog_11_method_1_code 350 = .ok (.ldc2_w 104, 3) := by decide +kernel
theorem d_Model_init_353 : decode prog_11_method_1_code 353 = .ok (.lastore, 1) := by decide +kernel
theorem d_Model_init_354 : decode prog_11_method_1_code 354 = .ok (.dup, 1) := by decide +kernel
theorem d_Model_init_355 : decode prog_11_method_1_code 355 = .ok (.bipush 22, 2) := by decide +kernel
theorem d_Model_init_357 : decode prog_11_method_1_code 357 = .ok (.ldc2_w 106, 3) := by decide +kernel
theorem d_Model_init_360 : decode prog_11_method_1_code 360 = .ok (.lastore, 1) := by decide +kernel
theorem d_Model_init_361 : decode prog_11_method_1_code 361 = .ok (.dup, 1) := by decide +kernel
theorem d_Model_init_362 : decode prog_11_method_1_code 362 = .ok (.bipush 23, 2) := by decide +kernel
theorem d_Model_init_364 : decode prog_11_method_1_code 364 = .ok (.ldc2_w 108, 3) := by decide +kernel
theorem d_Model_init_367 : decode prog_11_method_1_code 367 = .ok (.lastore, 1) := by decide +kernel
theorem d_Model_init_368 : decode prog_11_method_1_code 368 = .ok (.dup, 1) := by decide +kernel
theorem d_Model_init_369 : decode prog_11_method_1_code 369 = .ok (.bipush 24, 2) := by decide +kernel
theorem d_Model_init_371 : decode prog_11_method_1_code 371 = .ok (.ldc2_w 110, 3) := by decide +kernel
theorem d_Model_init_374 : decode prog_11_method_1_code 374 = .ok (.lastore, 1) := by decide +kernel
theorem d_Model_init_375 : decode prog_11_method_1_code 375 = .ok (.dup, 1) := by decide +kernel
theorem d_Model_init_376 : decode prog_11_method_1_code 376 = .ok (.bipush 25, 2) := by decide +kernel
theorem d_Model_init_378 : decode prog_11_method_1_code 378 = .ok (.ldc2_w 112, 3) := by decide +kernel
theorem d_Model_init_381 : decode prog_11_method_1_code 381 = .ok (.lastore, 1) := by decide +kernel
theorem d_Model_init_382 : decode prog_11_method_1_code 382 = .ok (.dup, 1) := by decide +kernel
theorem d_Model_init_383 : decode prog_11_method_1_code 383 = .ok (.bipush 26, 2) := by decide +kernel
theorem d_Model_init_385 : decode prog_11_method_1_code 385 = .ok (.ldc2_w 114, 3) := by decide +kernel
theorem d_Model_init_388 : decode prog_11_method_1_code 388 = .ok (.lastore, 1) := by decide +kernel
theorem d_Model_init_389 : decode prog_11_method_1_code 389 = .ok (.dup, 1) := by decide +kernel
theorem d_Model_init_390 : decode prog_11_method_1_code 390 = .ok (.bipush 27, 2) := by decide +kernel
theorem d_Model_init_392 : decode prog_11_method_1_code 392 = .ok (.ldc2_w 116, 3) := by decide +kernel
theorem d_Model_init_395 : decode prog_11_method_1_code 395 = .ok (.lastore, 1) := by decide +kernel
theorem d_Model_init_396 : decode prog_11_method_1_code 396 = .ok (.putfield 118, 3) := by decide +kernel
theorem d_Model_init_399 : decode prog_11_method_1_code 399 = .ok (.aload_n 0, 1) := by decide +kernel
theorem d_Model_init_400 : decode prog_11_method_1_code 400 = .ok (.sipush 420, 3) := by decide +kernel
theorem d_Model_init_403 : decode prog_11_method_1_code 403 = .ok (.newarray .long, 2) := by decide +kernel
theorem d_Model_init_405 : decode prog_11_method_1_code 405 = .ok (.putfield 121, 3) := by decide +kernel
theorem d_Model_init_408 : decode prog_11_method_1_code 408 = .ok (.aload_n 0, 1) := by decide +kernel
theorem d_Model_init_409 : decode prog_11_method_1_code 409 = .ok (.bipush 32, 2) := by decide +kernel
theorem d_Model_init_411 : decode prog_11_method_1_code 411 = .ok (.newarray .long, 2) := by decide +kernel
theorem d_Model_init_413 : decode prog_11_method_1_code 413 = .ok (.putfield 124, 3) := by decide +kernel
theorem d_Model_init_416 : decode prog_11_method_1_code 416 = .ok (.aload_n 0, 1) := by decide +kernel
theorem d_Model_init_417 : decode prog_11_method_1_code 417 = .ok (.bipush 96, 2) := by decide +kernel
theorem d_Model_init_419 : decode prog_11_method_1_code 419 = .ok (.newarray .int, 2) := by decide +kernel
theorem d_Model_init_421 : decode prog_11_method_1_code 421 = .ok (.putfield 127, 3) := by decide +kernel
theorem d_Model_init_424 : decode prog_11_method_1_code 424 = .ok (.aload_n 0, 1) := by decide +kernel
theorem d_Model_init_425 : decode prog_11_method_1_code 425 = .ok (.bipush 96, 2) := by decide +kernel
theorem d_Model_init_427 : decode prog_11_method_1_code 427 = .ok (.newarray .int, 2) := by decide +kernel
theorem d_Model_init_429 : decode prog_11_method_1_code 429 = .ok (.putfield 131, 3) := by decide +kernel
theorem d_Model_init_432 : decode prog_11_method_1_code 432 = .ok (.aload_n 0, 1) := by decide +kernel
theorem d_Model_init_433 : decode prog_11_method_1_code 433 = .ok (.sipush 224, 3) := by decide +kernel
theorem d_Model_init_436 : decode prog_11_method_1_code 436 = .ok (.newarray .long, 2) := by decide +kernel
theorem d_Model_init_438 : decode prog_11_method_1_code 438 = .ok (.putfield 134, 3) := by decide +kernel
theorem d_Model_init_441 : decode prog_11_method_1_code 441 = .ok (.iconst 0, 1) := by decide +kernel
theorem d_Model_init_442 : decode prog_11_method_1_code 442 = .ok (.istore_n 1, 1) := by decide +kernel
theorem d_Model_init_443 : decode prog_11_method_1_code 443 = .ok (.iload_n 1, 1) := by decide +kernel
theorem d_Model_init_444 : decode prog_11_method_1_code 444 = .ok (.iconst 2, 1) := by decide +kernel
theorem d_Model_init_445 : decode prog_11_method_1_code 445 = .ok (.if_icmp .ge 122, 3) := by decide +kernel
theorem d_Model_init_448 : decode prog_11_method_1_code 448 = .ok (.aload_n 0, 1) := by decide +kernel
theorem d_Model_init_449 : decode prog_11_method_1_code 449 = .ok (.iload_n 1, 1) := by decide +kernel
theorem d_Model_init_450 : decode prog_11_method_1_code 450 = .ok (.invokevirtual 137, 3) := by decide +kernel
theorem d_Model_init_453 : decode prog_11_method_1_code 453 = .ok (.aload_n 0, 1) := by decide +kernel
theorem d_Model_init_454 : decode prog_11_method_1_code 454 = .ok (.bipush 120, 2) := by decide +kernel
theorem d_Model_init_456 : decode prog_11_method_1_code 456 = .ok (.invokevirtual 141, 3) := by decide +kernel
theorem d_Model_init_459 : decode prog_11_method_1_code 459 = .ok (.iconst 0, 1) := by decide +kernel
theorem d_Model_init_460 : decode prog_11_method_1_code 460 = .ok (.istore_n 2, 1) := by decide +kernel
theorem d_Model_init_461 : decode prog_11_method_1_code 461 = .ok (.iload_n 2, 1) := by decide +kernel
theorem d_Model_init_462 : decode prog_11_method_1_code 462 = .ok (.bipush 28, 2) := by decide +kernel
theorem d_Model_init_464 : decode prog_11_method_1_code 464 = .ok (.iconst 2, 1) := by decide +kernel
theorem d_Model_init_465 : decode prog_11_method_1_code 465 = .ok (.aload_n 0, 1) := by decide +kernel
theorem d_Model_init_466 : decode prog_11_method_1_code 466 = .ok (.getfield 144, 3) := by decide +kernel
theorem d_Model_init_469 : decode prog_11_method_1_code 469 = .ok (.imul, 1) := by decide +kernel
theorem d_Model_init_470 : decode prog_11_method_1_code 470 = .ok (.iconst 1, 1) := by decide +kernel
theorem d_Model_init_471 : decode prog_11_method_1_code 471 = .ok (.iadd, 1) := by decide +kernel
theorem d_Model_init_472 : decode prog_11_method_1_code 472 = .ok (.imul, 1) := by decide +kernel
theorem d_Model_init_473 : decode prog_11_method_1_code 473 = .ok (.if_icmp .ge 88, 3) := by decide +kernel
theorem d_Model_init_476 : decode prog_11_method_1_code 476 = .ok (.iload_n 2, 1) := by decide +kernel
theorem d_Model_init_477 : decode prog_11_method_1_code 477 = .ok (.bipush 28, 2) := by decide +kernel
theorem d_Model_init_479 : decode prog_11_method_1_code 479 = .ok (.aload_n 0, 1) := by decide +kernel
theorem d_Model_init_480 : decode prog_11_method_1_code 480 = .ok (.getfield 144, 3) := by decide +kernel
theorem d_Model_init_483 : decode prog_11_method_1_code 483 = .ok (.imul, 1) := by decide +kernel
theorem d_Model_init_484 : decode prog_11_method_1_code 484 = .ok (.if_icmp .lt 61, 3) := by decide +kernel
theorem d_Model_init_487 : decode prog_11_method_1_code 487 = .ok (.iload_n 2, 1) := by decide +kernel
theorem d_Model_init_488 : decode prog_11_method_1_code 488 = .ok (.bipush 28, 2) := by decide +kernel
theorem d_Model_init_490 : decode prog_11_method_1_code 490 = .ok (.irem, 1) := by decide +kernel
theorem d_Model_init_491 : decode prog_11_method_1_code 491 = .ok (.ifCond .ne 54, 3) := by decide +kernel
theorem d_Model_init_494 : decode prog_11_method_1_code 494 = .ok (.iconst 0, 1) := by decide +kernel
theorem d_Model_init_495 : decode prog_11_method_1_code 495 = .ok (.istore_n 3, 1) := by decide +kernel
theorem d_Model_init_496 : decode prog_11_method_1_code 496 = .ok (.iload_n 3, 1) := by decide +kernel
theorem d_Model_init_497 : decode prog_11_method_1_code 497 = .ok (.aload_n 0, 1) := by decide +kernel
theorem d_Model_init_498 : decode prog_11_method_1_code 498 = .ok (.getfield 144, 3) := by decide +kernel
theorem d_Model_init_501 : decode prog_11_method_1_code 501 = .ok (.if_icmp .ge 44, 3) := by decide +kernel
theorem d_Model_init_504 : decode prog_11_method_1_code 504 = .ok (.aload_n 0, 1) := by decide +kernel
theorem d_Model_init_505 : decode prog_11_method_1_code 505 = .ok (.getfield 121, 3) := by decide +kernel
theorem d_Model_init_508 : decode prog_11_method_1_code 508 = .ok (.sipush 210, 3) := by decide +kernel
theorem d_Model_init_511 : decode prog_11_method_1_code 511 = .ok (.iload_n 1, 1) := by decide +kernel
theorem d_Model_init_512 : decode prog_11_method_1_code 512 = .ok (.imul, 1) := by decide +kernel
theorem d_Model_init_513 : decode prog_11_method_1_code 513 = .ok (.bipush 14, 2) := by decide +kernel
theorem d_Model_init_515 : decode prog_11_method_1_code 515 = .ok (.iload_n 2, 1) := by decide +kernel
theorem d_Model_init_516 : decode prog_11_method_1_code 516 = .ok (.bipush 28, 2) := by decide +kernel
theorem d_Model_init_518 : decode prog_11_method_1_code 518 = .ok (.idiv, 1) := by decide +kernel
theorem d_Model_init_519 : decode prog_11_method_1_code 519 = .ok (.aload_n 0, 1) := by decide +kernel
theorem d_Model_init_520 : decode prog_11_method_1_code 520 = .ok (.getfield 144, 3) := by decide +kernel
theorem d_Model_init_523 : decode prog_11_method_1_code 523 = .ok (.isub, 1) := by decide +kernel
theorem d_Model_init_524 : decode prog_11_method_1_code 524 = .ok (.imul, 1) := by decide +kernel
theorem d_Model_init_525 : decode prog_11_method_1_code 525 = .ok (.iadd, 1) := by decide +kernel
theorem d_Model_init_526 : decode prog_11_method_1_code 526 = .ok (.iload_n 3, 1) := by decide +kernel
theorem d_Model_init_527 : decode prog_11_method_1_code 527 = .ok (.iadd, 1) := by decide +kernel
theorem d_Model_init_528 : decode prog_11_method_1_code 528 = .ok (.aload_n 0, 1) := by decide +kernel
theorem d_Model_init_529 : decode prog_11_method_1_code 529 = .ok (.getfield 7, 3) := by decide +kernel
theorem d_Model_init_532 : decode prog_11_method_1_code 532 = .ok (.sipush 1680, 3) := by decide +kernel
theorem d_Model_init_535 : decode prog_11_method_1_code 535 = .ok (.iload_n 3, 1) := by decide +kernel
theorem d_Model_init_536 : decode prog_11_method_1_code 536 = .ok (.iadd, 1) := by decide +kernel
theorem d_Model_init_537 : decode prog_11_method_1_code 537 = .ok (.laload, 1) := by decide +kernel
theorem d_Model_init_538 : decode prog_11_method_1_code 538 = .ok (.lastore, 1) := by decide +kernel
theorem d_Model_init_539 : decode prog_11_method_1_code 539 = .ok (.iinc 3 1, 3) := by decide +kernel
theorem d_Model_init_542 : decode prog_11_method_1_code 542 = .ok (.goto (-46), 3) := by decide +kernel
theorem d_Model_init_545 : decode prog_11_method_1_code 545 = .ok (.aload_n 0, 1) := by decide +kernel
theorem d_Model_init_546 : decode prog_11_method_1_code 546 = .ok (.bipush 120, 2) := by decide +kernel
theorem d_Model_init_548 : decode prog_11_method_1_code 548 = .ok (.bipush 120, 2) := by decide +kernel
theorem d_Model_init_550 : decode prog_11_method_1_code 550 = .ok (.bipush 120, 2) := by decide +kernel
theorem d_Model_init_552 : decode prog_11_method_1_code 552 = .ok (.invokevirtual 148, 3) := by decide +kernel
theorem d_Model_init_555 : decode prog_11_method_1_code 555 = .ok (.iinc 2 1, 3) := by decide +kernel
theorem d_Model_init_558 : decode prog_11_method_1_code 558 = .ok (.goto (-97), 3) := by decide +kernel
theorem d_Model_init_561 : decode prog_11_method_1_code 561 = .ok (.iinc 1 1, 3) := by decide +kernel
theorem d_Model_init_564 : decode prog_11_method_1_code 564 = .ok (.goto (-121), 3) := by decide +kernel
theorem d_Model_init_567 : decode prog_11_method_1_code 567 = .ok (.aload_n 0, 1) := by decide +kernel
theorem d_Model_init_568 : decode prog_11_method_1_code 568 = .ok (.iconst 0, 1) := by decide +kernel
theorem d_Model_init_569 : decode prog_11_method_1_code 569 = .ok (.invokevirtual 137, 3) := by decide +kernel
theorem d_Model_init_572 : decode prog_11_method_1_code 572 = .ok (.iconst 0, 1) := by decide +kernel
theorem d_Model_init_573 : decode prog_11_method_1_code 573 = .ok (.istore_n 1, 1) := by decide +kernel
theorem d_Model_init_574 : decode prog_11_method_1_code 574 = .ok (.iload_n 1, 1) := by decide +kernel
theorem d_Model_init_575 : decode prog_11_method_1_code 575 = .ok (.bipush 14, 2) := by decide +kernel
theorem d_Model_init_577 : decode prog_11_method_1_code 577 = .ok (.if_icmp .ge 44, 3) := by decide +kernel
theorem d_Model_init_580 : decode prog_11_method_1_code 580 = .ok (.aload_n 0, 1) := by decide +kernel
theorem d_Model_init_581 : decode prog_11_method_1_code 581 = .ok (.getfield 7, 3) := by decide +kernel
theorem d_Model_init_584 : decode prog_11_method_1_code 584 = .ok (.sipush 1624, 3) := by decide +kernel
theorem d_Model_init_587 : decode prog_11_method_1_code 587 = .ok (.iload_n 1, 1) := by decide +kernel
theorem d_Model_init_588 : decode prog_11_method_1_code 588 = .ok (.iadd, 1) := by decide +kernel
theorem d_Model_init_589 : decode prog_11_method_1_code 589 = .ok (.aload_n 0, 1) := by decide +kernel
theorem d_Model_init_590 : decode prog_11_method_1_code 590 = .ok (.getfield 118, 3) := by decide +kernel
theorem d_Model_init_593 : decode prog_11_method_1_code 593 = .ok (.iload_n 1, 1) := by decide +kernel
theorem d_Model_init_594 : decode prog_11_method_1_code 594 = .ok (.laload, 1) := by decide +kernel
theorem d_Model_init_595 : decode prog_11_method_1_code 595 = .ok (.lastore, 1) := by decide +kernel
theorem d_Model_init_596 : decode prog_11_method_1_code 596 = .ok (.aload_n 0, 1) := by decide +kernel
theorem d_Model_init_597 : decode prog_11_method_1_code 597 = .ok (.getfield 7, 3) := by decide +kernel
theorem d_Model_init_600 : decode prog_11_method_1_code 600 = .ok (.sipush 1638, 3) := by decide +kernel
theorem d_Model_init_603 : decode prog_11_method_1_code 603 = .ok (.iload_n 1, 1) := by decide +kernel
theorem d_Model_init_604 : decode prog_11_method_1_code 604 = .ok (.iadd, 1) := by decide +kernel
theorem d_Model_init_605 : decode prog_11_method_1_code 605 = .ok (.aload_n 0, 1) := by decide +kernel
theorem d_Model_init_606 : decode prog_11_method_1_code 606 = .ok (.getfield 118, 3) := by decide +kernel
theorem d_Model_init_609 : decode prog_11_method_1_code 609 = .ok (.bipush 14, 2) := by decide +kernel
theorem d_Model_init_611 : decode prog_11_method_1_code 611 = .ok (.iload_n 1, 1) := by decide +kernel
theorem d_Model_init_612 : decode prog_11_method_1_code 612 = .ok (.iadd, 1) := by decide +kernel
theorem d_Model_init_613 : decode prog_11_method_1_code 613 = .ok (.laload, 1) := by decide +kernel
theorem d_Model_init_614 : decode prog_11_method_1_code 614 = .ok (.lastore, 1) := by decide +kernel
theorem d_Model_init_615 : decode prog_11_method_1_code 615 = .ok (.iinc 1 1, 3) := by decide +kernel
theorem d_Model_init_618 : decode prog_11_method_1_code 618 = .ok (.goto (-44), 3) := by decide +kernel
theorem d_Model_init_621 : decode prog_11_method_1_code 621 = .ok (.aload_n 0, 1) := by decide +kernel
theorem d_Model_init_622 : decode prog_11_method_1_code 622 = .ok (.bipush 118, 2) := by decide +kernel
theorem d_Model_init_624 : decode prog_11_method_1_code 624 = .ok (.invokevirtual 141, 3) := by decide +kernel
theorem d_Model_init_627 : decode prog_11_method_1_code 627 = .ok (.iconst 0, 1) := by decide +kernel
theorem d_Model_init_628 : decode prog_11_method_1_code 628 = .ok (.istore_n 1, 1) := by decide +kernel
theorem d_Model_init_629 : decode prog_11_method_1_code 629 = .ok (.iload_n 1, 1) := by decide +kernel
theorem d_Model_init_630 : decode prog_11_method_1_code 630 = .ok (.bipush 12, 2) := by decide +kernel
theorem d_Model_init_632 : decode prog_11_method_1_code 632 = .ok (.if_icmp .ge 19, 3) := by decide +kernel
theorem d_Model_init_635 : decode prog_11_method_1_code 635 = .ok (.aload_n 0, 1) := by decide +kernel
theorem d_Model_init_636 : decode prog_11_method_1_code 636 = .ok (.bipush 32, 2) := by decide +kernel
theorem d_Model_init_638 : decode prog_11_method_1_code 638 = .ok (.iconst 3, 1) := by decide +kernel
theorem d_Model_init_639 : decode prog_11_method_1_code 639 = .ok (.iload_n 1, 1) := by decide +kernel
theorem d_Model_init_640 : decode prog_11_method_1_code 640 = .ok (.imul, 1) := by decide +kernel
theorem d_Model_init_641 : decode prog_11_method_1_code 641 = .ok (.iadd, 1) := by decide +kernel
theorem d_Model_init_642 : decode prog_11_method_1_code 642 = .ok (.invokevirtual 152, 3) := by decide +kernel
theorem d_Model_init_645 : decode prog_11_method_1_code 645 = .ok (.iinc 1 1, 3) := by decide +kernel
theorem d_Model_init_648 : decode prog_11_method_1_code 648 = .ok (.goto (-19), 3) := by decide +kernel
theorem d_Model_init_651 : decode prog_11_method_1_code 651 = .ok (.aload_n 0, 1) := by decide +kernel
theorem d_Model_init_652 : decode prog_11_method_1_code 652 = .ok (.iconst 0, 1) := by decide +kernel
theorem d_Model_init_653 : decode prog_11_method_1_code 653 = .ok (.putfield 155, 3) := by decide +kernel
theorem d_Model_init_656 : decode prog_11_method_1_code 656 = .ok (.return_, 1) := by decide +kernel
