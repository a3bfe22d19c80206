def T_Curve : u_T := fun k => match k with
  | 0 => ("KateDesk$Curve", "field", "LKateDesk$Field;", true)
  | 1 => ("KateDesk$Curve", "xx", "[J", true)
  | 2 => ("KateDesk$Curve", "yy", "[J", true)
  | 3 => ("KateDesk$Curve", "zz", "[J", true)
  | 4 => ("KateDesk$Curve", "xy", "[J", true)
  | 5 => ("KateDesk$Curve", "yz", "[J", true)
  | 6 => ("KateDesk$Curve", "xz", "[J", true)
  | 7 => ("KateDesk$Curve", "left", "[J", true)
  | 8 => ("KateDesk$Curve", "right", "[J", true)
  | _ => ("KateDesk$Curve", "opposite", "[J", true)
def ty_Curve : Nat → FieldType := fun k => match k with
  | 0 => .object "KateDesk$Field"
  | 1 => .array (.long)
  | 2 => .array (.long)
  | 3 => .array (.long)
  | 4 => .array (.long)
  | 5 => .array (.long)
  | 6 => .array (.long)
  | 7 => .array (.long)
  | 8 => .array (.long)
  | _ => .array (.long)
theorem in_Curve : ∀ w ∈ u_ws "KateDesk$Curve" T_Curve 10, w ∈ BW := (List.forall_mem_cons.mpr ⟨w_215, List.forall_mem_cons.mpr ⟨w_217, List.forall_mem_cons.mpr ⟨w_219, List.forall_mem_cons.mpr ⟨w_221, List.forall_mem_cons.mpr ⟨w_223, List.forall_mem_cons.mpr ⟨w_225, List.forall_mem_cons.mpr ⟨w_227, List.forall_mem_cons.mpr ⟨w_229, List.forall_mem_cons.mpr ⟨w_231, List.forall_mem_cons.mpr ⟨w_233, fun _ h => absurd h List.not_mem_nil⟩⟩⟩⟩⟩⟩⟩⟩⟩⟩)
theorem nm_Curve : ∀ a, a < 10 → ∀ b, b < 10 → a ≠ b → (T_Curve a).2.1 ≠ (T_Curve b).2.1 := by decide +kernel
theorem tyok_Curve : ∀ k, k < 10 → parseFieldDescriptor (T_Curve k).2.2.1 = some (ty_Curve k) := by decide +kernel
def T_Field : u_T := fun k => match k with
  | 0 => ("KateDesk$Field", "modulus", "[J", true)
  | 1 => ("KateDesk$Field", "one", "[J", true)
  | 2 => ("KateDesk$Field", "plainOne", "[J", true)
  | 3 => ("KateDesk$Field", "liftedLift", "[J", true)
  | 4 => ("KateDesk$Field", "inverseExponent", "[J", true)
  | 5 => ("KateDesk$Field", "base", "[J", true)
  | _ => ("KateDesk$Field", "minusInverse", "J", true)
def ty_Field : Nat → FieldType := fun k => match k with
  | 0 => .array (.long)
  | 1 => .array (.long)
  | 2 => .array (.long)
  | 3 => .array (.long)
  | 4 => .array (.long)
  | 5 => .array (.long)
  | _ => .long
theorem in_Field : ∀ w ∈ u_ws "KateDesk$Field" T_Field 7, w ∈ BW := (List.forall_mem_cons.mpr ⟨w_183, List.forall_mem_cons.mpr ⟨w_185, List.forall_mem_cons.mpr ⟨w_187, List.forall_mem_cons.mpr ⟨w_189, List.forall_mem_cons.mpr ⟨w_191, List.forall_mem_cons.mpr ⟨w_193, List.forall_mem_cons.mpr ⟨w_195, fun _ h => absurd h List.not_mem_nil⟩⟩⟩⟩⟩⟩⟩)
theorem nm_Field : ∀ a, a < 7 → ∀ b, b < 7 → a ≠ b → (T_Field a).2.1 ≠ (T_Field b).2.1 := by decide +kernel
theorem tyok_Field : ∀ k, k < 7 → parseFieldDescriptor (T_Field k).2.2.1 = some (ty_Field k) := by decide +kernel
def T_Point : u_T := fun k => match k with
  | 0 => ("KateDesk$Point", "x", "[J", true)
  | 1 => ("KateDesk$Point", "y", "[J", true)
  | _ => ("KateDesk$Point", "z", "[J", true)
def ty_Point : Nat → FieldType := fun k => match k with
  | 0 => .array (.long)
  | 1 => .array (.long)
  | _ => .array (.long)
theorem in_Point : ∀ w ∈ u_ws "KateDesk$Point" T_Point 3, w ∈ BW := (List.forall_mem_cons.mpr ⟨w_57, List.forall_mem_cons.mpr ⟨w_59, List.forall_mem_cons.mpr ⟨w_61, fun _ h => absurd h List.not_mem_nil⟩⟩⟩)
theorem nm_Point : ∀ a, a < 3 → ∀ b, b < 3 → a ≠ b → (T_Point a).2.1 ≠ (T_Point b).2.1 := by decide +kernel
theorem tyok_Point : ∀ k, k < 3 → parseFieldDescriptor (T_Point k).2.2.1 = some (ty_Point k) := by decide +kernel
def T_Row : u_T := fun k => match k with
  | 0 => ("KateDesk$Row", "cells", "[B", true)
  | _ => ("KateDesk$Row", "size", "I", false)
def ty_Row : Nat → FieldType := fun k => match k with
  | 0 => .array (.byte)
  | _ => .int
theorem in_Row : ∀ w ∈ u_ws "KateDesk$Row" T_Row 2, w ∈ BW := (List.forall_mem_cons.mpr ⟨w_75, List.forall_mem_cons.mpr ⟨w_77, fun _ h => absurd h List.not_mem_nil⟩⟩)
theorem nm_Row : ∀ a, a < 2 → ∀ b, b < 2 → a ≠ b → (T_Row a).2.1 ≠ (T_Row b).2.1 := by decide +kernel
theorem tyok_Row : ∀ k, k < 2 → parseFieldDescriptor (T_Row k).2.2.1 = some (ty_Row k) := by decide +kernel
def T_Sums : u_T := fun k => match k with
  | 0 => ("KateDesk$Sums", "curve", "LKateDesk$Curve;", true)
  | 1 => ("KateDesk$Sums", "odds", "[LKateDesk$Point;", true)
  | 2 => ("KateDesk$Sums", "digits", "[[B", true)
  | _ => ("KateDesk$Sums", "sum", "LKateDesk$Point;", true)
def ty_Sums : Nat → FieldType := fun k => match k with
  | 0 => .object "KateDesk$Curve"
  | 1 => .array (.object "KateDesk$Point")
  | 2 => .array (.array (.byte))
  | _ => .object "KateDesk$Point"
theorem in_Sums : ∀ w ∈ u_ws "KateDesk$Sums" T_Sums 4, w ∈ BW := (List.forall_mem_cons.mpr ⟨w_251, List.forall_mem_cons.mpr ⟨w_253, List.forall_mem_cons.mpr ⟨w_255, List.forall_mem_cons.mpr ⟨w_257, fun _ h => absurd h List.not_mem_nil⟩⟩⟩⟩)
theorem nm_Sums : ∀ a, a < 4 → ∀ b, b < 4 → a ≠ b → (T_Sums a).2.1 ≠ (T_Sums b).2.1 := by decide +kernel
theorem tyok_Sums : ∀ k, k < 4 → parseFieldDescriptor (T_Sums k).2.2.1 = some (ty_Sums k) := by decide +kernel
def T_Desk : u_T := fun k => match k with
  | 0 => ("KateDesk", "scalarField", "LKateDesk$Field;", true)
  | 1 => ("KateDesk", "curve", "LKateDesk$Curve;", true)
  | 2 => ("KateDesk", "sums", "LKateDesk$Sums;", true)
  | 3 => ("KateDesk", "forms", "LKateDesk$Forms;", true)
  | 4 => ("KateDesk", "polynomials", "LKateDesk$Polynomials;", true)
  | 5 => ("KateDesk", "scalars", "[[J", true)
  | 6 => ("KateDesk", "points", "[LKateDesk$Point;", true)
  | 7 => ("KateDesk", "powers", "[LKateDesk$Point;", true)
  | 8 => ("KateDesk", "powerCount", "I", false)
  | 9 => ("KateDesk", "tape", "LKateDesk$Row;", true)
  | 10 => ("KateDesk", "written", "LKateDesk$Row;", true)
  | 11 => ("KateDesk", "generator", "LKateDesk$Point;", true)
  | 12 => ("KateDesk", "handPoint", "LKateDesk$Point;", true)
  | 13 => ("KateDesk", "multiple", "LKateDesk$Point;", true)
  | 14 => ("KateDesk", "handScalar", "[J", true)
  | _ => ("KateDesk", "factor", "[J", true)
def ty_Desk : Nat → FieldType := fun k => match k with
  | 0 => .object "KateDesk$Field"
  | 1 => .object "KateDesk$Curve"
  | 2 => .object "KateDesk$Sums"
  | 3 => .object "KateDesk$Forms"
  | 4 => .object "KateDesk$Polynomials"
  | 5 => .array (.array (.long))
  | 6 => .array (.object "KateDesk$Point")
  | 7 => .array (.object "KateDesk$Point")
  | 8 => .int
  | 9 => .object "KateDesk$Row"
  | 10 => .object "KateDesk$Row"
  | 11 => .object "KateDesk$Point"
  | 12 => .object "KateDesk$Point"
  | 13 => .object "KateDesk$Point"
  | 14 => .array (.long)
  | _ => .array (.long)
theorem in_Desk : ∀ w ∈ u_ws "KateDesk" T_Desk 16, w ∈ BW := (List.forall_mem_cons.mpr ⟨w_355, List.forall_mem_cons.mpr ⟨w_357, List.forall_mem_cons.mpr ⟨w_359, List.forall_mem_cons.mpr ⟨w_361, List.forall_mem_cons.mpr ⟨w_363, List.forall_mem_cons.mpr ⟨w_365, List.forall_mem_cons.mpr ⟨w_367, List.forall_mem_cons.mpr ⟨w_369, List.forall_mem_cons.mpr ⟨w_371, List.forall_mem_cons.mpr ⟨w_373, List.forall_mem_cons.mpr ⟨w_375, List.forall_mem_cons.mpr ⟨w_377, List.forall_mem_cons.mpr ⟨w_379, List.forall_mem_cons.mpr ⟨w_381, List.forall_mem_cons.mpr ⟨w_383, List.forall_mem_cons.mpr ⟨w_385, fun _ h => absurd h List.not_mem_nil⟩⟩⟩⟩⟩⟩⟩⟩⟩⟩⟩⟩⟩⟩⟩⟩)
theorem nm_Desk : ∀ a, a < 16 → ∀ b, b < 16 → a ≠ b → (T_Desk a).2.1 ≠ (T_Desk b).2.1 := by decide +kernel
theorem tyok_Desk : ∀ k, k < 16 → parseFieldDescriptor (T_Desk k).2.2.1 = some (ty_Desk k) := by decide +kernel
def T_Forms : u_T := fun k => match k with
  | 0 => ("KateDesk$Forms", "field", "LKateDesk$Field;", true)
  | 1 => ("KateDesk$Forms", "curve", "LKateDesk$Curve;", true)
  | 2 => ("KateDesk$Forms", "rootExponent", "[J", true)
  | 3 => ("KateDesk$Forms", "square", "[J", true)
  | 4 => ("KateDesk$Forms", "found", "[J", true)
  | _ => ("KateDesk$Forms", "plain", "[J", true)
def ty_Forms : Nat → FieldType := fun k => match k with
  | 0 => .object "KateDesk$Field"
  | 1 => .object "KateDesk$Curve"
  | 2 => .array (.long)
  | 3 => .array (.long)
  | 4 => .array (.long)
  | _ => .array (.long)
theorem in_Forms : ∀ w ∈ u_ws "KateDesk$Forms" T_Forms 6, w ∈ BW := (List.forall_mem_cons.mpr ⟨w_278, List.forall_mem_cons.mpr ⟨w_280, List.forall_mem_cons.mpr ⟨w_282, List.forall_mem_cons.mpr ⟨w_284, List.forall_mem_cons.mpr ⟨w_286, List.forall_mem_cons.mpr ⟨w_288, fun _ h => absurd h List.not_mem_nil⟩⟩⟩⟩⟩⟩)
theorem nm_Forms : ∀ a, a < 6 → ∀ b, b < 6 → a ≠ b → (T_Forms a).2.1 ≠ (T_Forms b).2.1 := by decide +kernel
theorem tyok_Forms : ∀ k, k < 6 → parseFieldDescriptor (T_Forms k).2.2.1 = some (ty_Forms k) := by decide +kernel
def T_Polys : u_T := fun k => match k with
  | 0 => ("KateDesk$Polynomials", "field", "LKateDesk$Field;", true)
  | 1 => ("KateDesk$Polynomials", "seven", "[J", true)
  | 2 => ("KateDesk$Polynomials", "plainOne", "[J", true)
  | 3 => ("KateDesk$Polynomials", "exponent", "[J", true)
  | 4 => ("KateDesk$Polynomials", "root", "[J", true)
  | 5 => ("KateDesk$Polynomials", "place", "[J", true)
  | 6 => ("KateDesk$Polynomials", "share", "[J", true)
  | 7 => ("KateDesk$Polynomials", "next", "[J", true)
  | _ => ("KateDesk$Polynomials", "values", "[[J", true)
def ty_Polys : Nat → FieldType := fun k => match k with
  | 0 => .object "KateDesk$Field"
  | 1 => .array (.long)
  | 2 => .array (.long)
  | 3 => .array (.long)
  | 4 => .array (.long)
  | 5 => .array (.long)
  | 6 => .array (.long)
  | 7 => .array (.long)
  | _ => .array (.array (.long))
theorem in_Polys : ∀ w ∈ u_ws "KateDesk$Polynomials" T_Polys 9, w ∈ BW := (List.forall_mem_cons.mpr ⟨w_312, List.forall_mem_cons.mpr ⟨w_314, List.forall_mem_cons.mpr ⟨w_316, List.forall_mem_cons.mpr ⟨w_318, List.forall_mem_cons.mpr ⟨w_320, List.forall_mem_cons.mpr ⟨w_322, List.forall_mem_cons.mpr ⟨w_324, List.forall_mem_cons.mpr ⟨w_326, List.forall_mem_cons.mpr ⟨w_328, fun _ h => absurd h List.not_mem_nil⟩⟩⟩⟩⟩⟩⟩⟩⟩)
theorem nm_Polys : ∀ a, a < 9 → ∀ b, b < 9 → a ≠ b → (T_Polys a).2.1 ≠ (T_Polys b).2.1 := by decide +kernel
theorem tyok_Polys : ∀ k, k < 9 → parseFieldDescriptor (T_Polys k).2.2.1 = some (ty_Polys k) := by decide +kernel
def T_Model : u_T := fun k => match k with
  | 0 => ("KateDeskModel", "thrown", "I", false)
  | 1 => ("KateDeskModel", "d", "[J", true)
  | 2 => ("KateDeskModel", "prime", "[J", true)
  | 3 => ("KateDeskModel", "base", "[J", true)
  | 4 => ("KateDeskModel", "above", "[J", true)
  | 5 => ("KateDeskModel", "acc", "[J", true)
  | 6 => ("KateDeskModel", "which", "I", false)
  | 7 => ("KateDeskModel", "n", "I", false)
  | 8 => ("KateDeskModel", "powers", "I", false)
  | 9 => ("KateDeskModel", "tape", "[I", true)
  | 10 => ("KateDeskModel", "taped", "I", false)
  | 11 => ("KateDeskModel", "text", "[I", true)
  | 12 => ("KateDeskModel", "written", "I", false)
  | _ => ("KateDeskModel", "hold", "[J", true)
def ty_Model : Nat → FieldType := fun k => match k with
  | 0 => .int
  | 1 => .array (.long)
  | 2 => .array (.long)
  | 3 => .array (.long)
  | 4 => .array (.long)
  | 5 => .array (.long)
  | 6 => .int
  | 7 => .int
  | 8 => .int
  | 9 => .array (.int)
  | 10 => .int
  | 11 => .array (.int)
  | 12 => .int
  | _ => .array (.long)
theorem in_Model : ∀ w ∈ u_ws "KateDeskModel" T_Model 14, w ∈ BW := (List.forall_mem_cons.mpr ⟨w_1015, List.forall_mem_cons.mpr ⟨w_1017, List.forall_mem_cons.mpr ⟨w_1019, List.forall_mem_cons.mpr ⟨w_1021, List.forall_mem_cons.mpr ⟨w_1023, List.forall_mem_cons.mpr ⟨w_1025, List.forall_mem_cons.mpr ⟨w_1027, List.forall_mem_cons.mpr ⟨w_1029, List.forall_mem_cons.mpr ⟨w_1031, List.forall_mem_cons.mpr ⟨w_1033, List.forall_mem_cons.mpr ⟨w_1035, List.forall_mem_cons.mpr ⟨w_1037, List.forall_mem_cons.mpr ⟨w_1039, List.forall_mem_cons.mpr ⟨w_1041, fun _ h => absurd h List.not_mem_nil⟩⟩⟩⟩⟩⟩⟩⟩⟩⟩⟩⟩⟩⟩)
theorem nm_Model : ∀ a, a < 14 → ∀ b, b < 14 → a ≠ b → (T_Model a).2.1 ≠ (T_Model b).2.1 := by decide +kernel
theorem tyok_Model : ∀ k, k < 14 → parseFieldDescriptor (T_Model k).2.2.1 = some (ty_Model k) := by decide +kernel
def CL : List vw_C := [("KateDesk$Curve", T_Curve, 10), ("KateDesk$Field", T_Field, 7), ("KateDesk$Point", T_Point, 3), ("KateDesk$Row", T_Row, 2), ("KateDesk$Sums", T_Sums, 4), ("KateDesk", T_Desk, 16), ("KateDesk$Forms", T_Forms, 6), ("KateDesk$Polynomials", T_Polys, 9), ("KateDeskModel", T_Model, 14)]
abbrev WG : Type := va_G × ClassId × ClassId × ClassId × ClassId × ClassId × ClassId
def kd_AOA (t : FieldType) (U : State) : Prop := (Cond.arrayOver (.array t)).before #[] U = true
theorem kd_AOA.moved {t : FieldType} {u U : State} (hvm : u.vm.Alike U.vm) (h : kd_AOA t u) : kd_AOA t U := by
  obtain ⟨comp, c, k, h1, h2, h3, h4, h5⟩ := arrayOverA_spec h
  obtain ⟨k', hk', he⟩ := hvm.2.2 _ _ h3
  have hi : (U.vm.classes.findIdx? fun (x : Class) => match x.kind with | .array component _ => component == comp | _ => false) = some c := by
    have e1 := va_idx_bare U.vm comp
    have e2 := va_idx_bare u.vm comp
    have e3 : U.vm.bare = u.vm.bare := by first | exact hvm.bare_eq | exact hvm.bare_eq.symm
    rw [e3] at e1
    exact (e1.symm.trans e2).trans h2
  have hkind : k'.kind = .array comp (.array t) := by rw [he]; exact h4
  have f1 : U.vm.findClass (FieldType.array t).toString = some comp := by rw [hvm.findClass]; exact h1
  have f2 : U.vm.findClass ("[" ++ (FieldType.array t).toString) = some c := by rw [hvm.findClass]; exact h5
  unfold kd_AOA Cond.before Cond.holds
  simp only [Cond.value]
  rw [f1, Option.bind_some]
  refine (congrArg (fun o : Option Nat => (o.bind (fun c => (U.vm.classes[c]?).map fun (k : Class) => match k.kind with | .array _ ty => decide (ty = FieldType.array t) && decide (U.vm.findClass ("[" ++ (FieldType.array t).toString) = some c) | _ => false) == some true)) hi).trans ?_
  simp [hk', hkind, f2]
/-- the tables' classes, and the arrays of longs, bytes, ints -/
def KW (g : WG) (U : State) : Prop := va_K g.1 CL [(g.2.1, .long), (g.2.2.1, .byte), (g.2.2.2.1, .int), (g.2.2.2.2.1, .object "KateDesk$Point"), (g.2.2.2.2.2.1, .array .long), (g.2.2.2.2.2.2, .array .byte)] U ∧ va_AO "KateDesk$Point" U ∧ kd_AOA .long U ∧ kd_AOA .byte U
theorem KW.moved {g : WG} {u U : State} (hvm : u.vm.Alike U.vm) (h : KW g u) : KW g U := ⟨va_K.moved hvm h.1, h.2.1.moved hvm, h.2.2.1.moved hvm, h.2.2.2.moved hvm⟩
def OB (g : WG) (H : Heap) (a ci : Nat) (fs : List Value) : Prop := va_at g.1 CL (a, .inr (ci, fs)) H
def AJ (g : WG) (H : Heap) (a N : Nat) (f : Nat → Int64) : Prop := H[a]? = some (arrV g.2.1 N (fun j => .long (f j)))
def AB (g : WG) (H : Heap) (a N : Nat) (f : Nat → Int32) : Prop := H[a]? = some (arrV g.2.2.1 N (fun j => .int (f j)))
def AR (cA : ClassId) (H : Heap) (a N : Nat) (f : Nat → Nat) : Prop := H[a]? = some (arrV cA N (fun j => .ref (f j)))
def AI (g : WG) (H : Heap) (a N : Nat) (f : Nat → Int32) : Prop := H[a]? = some (arrV g.2.2.2.1 N (fun j => .int (f j)))
theorem arrV_ext {cA : ClassId} {N : Nat} {f f' : Nat → Value} (h : ∀ j, j < N → f j = f' j) : arrV cA N f = arrV cA N f' := by
  unfold arrV
  congr 1
  apply Array.ext
  · simp
  · intro i h1 h2
    simp at h1 ⊢
    exact h i h1
theorem AJ.ext {g : WG} {H : Heap} {a N : Nat} {f f' : Nat → Int64} (h : AJ g H a N f) (e : ∀ j, j < N → f j = f' j) : AJ g H a N f' := by
  unfold AJ at h ⊢
  rw [h, arrV_ext (fun j hj => by rw [e j hj])]
theorem AJ.same {g : WG} {H : Heap} {a N M : Nat} {f f' : Nat → Int64} (h : AJ g H a N f) (h' : AJ g H a M f') : N = M ∧ ∀ j, j < N → f j = f' j := by
  have e : arrV g.2.1 N (fun j => .long (f j)) = arrV g.2.1 M (fun j => .long (f' j)) := Option.some.inj (h.symm.trans h')
  have hN : N = M := by
    have := congrArg (fun c : Cell => c.slots.size) e
    simpa [arrV] using this
  subst hN
  refine ⟨rfl, fun j hj => ?_⟩
  have h1 := arrV_read g.2.1 (fun j => Value.long (f j)) hj
  rw [e, arrV_read g.2.1 (fun j => Value.long (f' j)) hj] at h1
  injection h1 with h2
  injection h2 with h3
  exact h3.symm
theorem AB.same {g : WG} {H : Heap} {a N M : Nat} {f f' : Nat → Int32} (h : AB g H a N f) (h' : AB g H a M f') : N = M ∧ ∀ j, j < N → f j = f' j := by
  have e : arrV g.2.2.1 N (fun j => .int (f j)) = arrV g.2.2.1 M (fun j => .int (f' j)) := Option.some.inj (h.symm.trans h')
  have hN : N = M := by
    have := congrArg (fun c : Cell => c.slots.size) e
    simpa [arrV] using this
  subst hN
  refine ⟨rfl, fun j hj => ?_⟩
  have h1 := arrV_read g.2.2.1 (fun j => Value.int (f j)) hj
  rw [e, arrV_read g.2.2.1 (fun j => Value.int (f' j)) hj] at h1
  injection h1 with h2
  injection h2 with h3
  exact h3.symm
theorem AB.ext {g : WG} {H : Heap} {a N : Nat} {f f' : Nat → Int32} (h : AB g H a N f) (e : ∀ j, j < N → f j = f' j) : AB g H a N f' := by
  unfold AB at h ⊢
  rw [h, arrV_ext (fun j hj => by rw [e j hj])]
theorem AJ.notAB {g : WG} {H : Heap} {a N M : Nat} {f : Nat → Int64} {f' : Nat → Int32} (h : AJ g H a N f) (hne : g.2.1 ≠ g.2.2.1) (h' : AB g H a M f') : False := by
  have e : arrV g.2.1 N (fun j => .long (f j)) = arrV g.2.2.1 M (fun j => .int (f' j)) := Option.some.inj (h.symm.trans h')
  exact hne (congrArg (fun c : Cell => c.cls) e)
/-- from H to H' nothing changed but the contents of arrays of longs, or of bytes, at places of S -/
def KJ (g : WG) (S : Nat → Prop) (H H' : Heap) : Prop := H'.size = H.size ∧ ∀ q, H'[q]? = H[q]? ∨ (S q ∧ ((∃ N f f', AJ g H q N f ∧ AJ g H' q N f') ∨ (g.2.1 ≠ g.2.2.1 ∧ ∃ N f f', AB g H q N f ∧ AB g H' q N f')))
theorem KJ.rf {g : WG} {S : Nat → Prop} {H : Heap} : KJ g S H H := ⟨rfl, fun _ => Or.inl rfl⟩
theorem KJ.mono {g : WG} {S S' : Nat → Prop} {H H' : Heap} (h : KJ g S H H') (hs : ∀ q, S q → S' q) : KJ g S' H H' := ⟨h.1, fun q => (h.2 q).imp id (fun ⟨a, b⟩ => ⟨hs q a, b⟩)⟩
theorem KJ.tr {g : WG} {S : Nat → Prop} {H H1 H2 : Heap} (h : KJ g S H H1) (h' : KJ g S H1 H2) : KJ g S H H2 := by
  refine ⟨h'.1.trans h.1, fun q => ?_⟩
  rcases h.2 q with a | ⟨a, b⟩ <;> rcases h'.2 q with c | ⟨c, d⟩
  · exact Or.inl (c.trans a)
  · refine Or.inr ⟨c, ?_⟩
    rcases d with ⟨M, k, k1, d1, d2⟩ | ⟨ne, M, k, k1, d1, d2⟩
    · exact Or.inl ⟨M, k, k1, by unfold AJ at d1 ⊢; rw [← a]; exact d1, d2⟩
    · exact Or.inr ⟨ne, M, k, k1, by unfold AB at d1 ⊢; rw [← a]; exact d1, d2⟩
  · refine Or.inr ⟨a, ?_⟩
    rcases b with ⟨N, f, f1, b1, b2⟩ | ⟨ne, N, f, f1, b1, b2⟩
    · exact Or.inl ⟨N, f, f1, b1, by unfold AJ at b2 ⊢; rw [c]; exact b2⟩
    · exact Or.inr ⟨ne, N, f, f1, b1, by unfold AB at b2 ⊢; rw [c]; exact b2⟩
  · refine Or.inr ⟨a, ?_⟩
    rcases b with ⟨N, f, f1, b1, b2⟩ | ⟨ne, N, f, f1, b1, b2⟩ <;> rcases d with ⟨M, k, k1, d1, d2⟩ | ⟨ne', M, k, k1, d1, d2⟩
    · obtain ⟨rfl, -⟩ := b2.same d1
      exact Or.inl ⟨N, f, k1, b1, d2⟩
    · exact (b2.notAB ne' d1).elim
    · exact (d1.notAB ne b2).elim
    · obtain ⟨rfl, -⟩ := b2.same d1
      exact Or.inr ⟨ne, N, f, k1, b1, d2⟩
theorem KJ.off {g : WG} {S : Nat → Prop} {H H' : Heap} (h : KJ g S H H') {q : Nat} (hq : ¬ S q) : H'[q]? = H[q]? := (h.2 q).elim id (fun a => absurd a.1 hq)
theorem KJ.aj {g : WG} {S : Nat → Prop} {H H' : Heap} (h : KJ g S H H') {a N : Nat} {f : Nat → Int64} (hA : AJ g H a N f) : ∃ f', AJ g H' a N f' := by
  rcases h.2 a with e | ⟨-, ⟨M, k, k1, d1, d2⟩ | ⟨ne, M, k, k1, d1, d2⟩⟩
  · exact ⟨f, by unfold AJ at hA ⊢; rw [e]; exact hA⟩
  · obtain ⟨rfl, -⟩ := hA.same d1
    exact ⟨k1, d2⟩
  · exact (hA.notAB ne d1).elim
theorem KJ.ajo {g : WG} {S : Nat → Prop} {H H' : Heap} (h : KJ g S H H') {a N : Nat} {f : Nat → Int64} (hq : ¬ S a) (hA : AJ g H a N f) : AJ g H' a N f := by
  unfold AJ at hA ⊢
  rw [h.off hq]
  exact hA
theorem KJ.abo {g : WG} {S : Nat → Prop} {H H' : Heap} (h : KJ g S H H') {a N : Nat} {f : Nat → Int32} (hq : ¬ S a) (hA : AB g H a N f) : AB g H' a N f := by
  unfold AB at hA ⊢
  rw [h.off hq]
  exact hA
/-- an array of 14 longs, one of those that may be written -/
def J14 (g : WG) (n0 : Nat → Prop) (H : Heap) (a : Nat) : Prop := n0 a ∧ ∃ f, AJ g H a 14 f
theorem KJ.j {g : WG} {S : Nat → Prop} {n0 : Nat → Prop} {H H' : Heap} (h : KJ g S H H') {a : Nat} (hA : J14 g n0 H a) : J14 g n0 H' a := ⟨hA.1, h.aj hA.2.choose_spec⟩
def ATS (g : WG) : List (ClassId × FieldType) := [(g.2.1, .long), (g.2.2.1, .byte), (g.2.2.2.1, .int), (g.2.2.2.2.1, .object "KateDesk$Point"), (g.2.2.2.2.2.1, .array .long), (g.2.2.2.2.2.2, .array .byte)]
theorem kw_ne {g : WG} {U : State} (hK : KW g U) {ci t : Nat} {r : vw_C} {cA : ClassId} {ty : FieldType} (hc : CL[ci]? = some r) (ht : (ATS g)[t]? = some (cA, ty)) : g.1.1 ci ≠ cA := by
  intro h
  obtain ⟨-, -, kC, hkC, hkind⟩ := hK.1.1 ci r hc
  obtain ⟨-, k, hk, cm, hkk⟩ := (hK.1.2 t _ ht).1 0 (fun _ => .null)
  have hk1 : U.vm.classes[cA]? = some k := hk
  rw [h] at hkC
  have e : kC = k := Option.some.inj (hkC.symm.trans hk1)
  rw [← e, hkind] at hkk
  exact absurd hkk (by simp)
theorem kw_neA {g : WG} {U : State} (hK : KW g U) {t t' : Nat} {cA cB : ClassId} {ty ty' : FieldType} (ht : (ATS g)[t]? = some (cA, ty)) (ht' : (ATS g)[t']? = some (cB, ty')) (hty : ty ≠ ty') : cA ≠ cB := by
  intro h
  obtain ⟨-, k, hk, cm, hkk⟩ := (hK.1.2 t' _ ht').1 0 (fun _ => .null)
  obtain ⟨-, k', hk', cm', hkk'⟩ := (hK.1.2 t _ ht).1 0 (fun _ => .null)
  have hk2 : U.vm.classes[cA]? = some k' := hk'
  have hk1 : U.vm.classes[cB]? = some k := hk
  rw [h] at hk2
  have e : k = k' := Option.some.inj (hk1.symm.trans hk2)
  subst e
  rw [hkk] at hkk'
  injection hkk' with e1 e2
  exact hty e2.symm
theorem KW.jb {g : WG} {U : State} (hK : KW g U) : g.2.1 ≠ g.2.2.1 := kw_neA hK (t := 0) (t' := 1) rfl rfl (by decide)
/-- a cell of another class stays -/
theorem KJ.cell {g : WG} {S : Nat → Prop} {H H' : Heap} (h : KJ g S H H') {a : Nat} {cell : Cell} (hc : H[a]? = some cell) (hne : cell.cls ≠ g.2.1) (hne2 : cell.cls ≠ g.2.2.1) : H'[a]? = some cell := by
  rcases h.2 a with e | ⟨-, ⟨N, f, f', d1, -⟩ | ⟨-, N, f, f', d1, -⟩⟩
  · rw [e]; exact hc
  · exfalso
    have e : cell = arrV g.2.1 N (fun j => .long (f j)) := Option.some.inj (hc.symm.trans d1)
    exact hne (by rw [e]; rfl)
  · exfalso
    have e : cell = arrV g.2.2.1 N (fun j => .int (f j)) := Option.some.inj (hc.symm.trans d1)
    exact hne2 (by rw [e]; rfl)
theorem KJ.ob {g : WG} {S : Nat → Prop} {H H' : Heap} {U : State} (h : KJ g S H H') (hK : KW g U) {a ci : Nat} {fs : List Value} (ho : OB g H a ci fs) : OB g H' a ci fs := by
  obtain ⟨r, hc, cell, h1, h2, h3⟩ := ho
  exact ⟨r, hc, cell, h.cell h1 (by rw [h2]; exact kw_ne hK (t := 0) hc rfl) (by rw [h2]; exact kw_ne hK (t := 1) hc rfl), h2, h3⟩
theorem KJ.ab {g : WG} {S : Nat → Prop} {H H' : Heap} (h : KJ g S H H') {a N : Nat} {f : Nat → Int32} (hA : AB g H a N f) (hne : g.2.1 ≠ g.2.2.1) : ∃ f', AB g H' a N f' := by
  rcases h.2 a with e | ⟨-, ⟨M, k, k1, d1, d2⟩ | ⟨ne, M, k, k1, d1, d2⟩⟩
  · exact ⟨f, by unfold AB at hA ⊢; rw [e]; exact hA⟩
  · exact (d1.notAB hne hA).elim
  · obtain ⟨rfl, -⟩ := hA.same d1
    exact ⟨k1, d2⟩
theorem KJ.arP {g : WG} {S : Nat → Prop} {H H' : Heap} {U : State} (h : KJ g S H H') (hK : KW g U) {a N : Nat} {f : Nat → Nat} (hA : AR g.2.2.2.2.1 H a N f) : AR g.2.2.2.2.1 H' a N f := h.cell hA (kw_neA hK (t := 3) (t' := 0) rfl rfl (by decide)) (kw_neA hK (t := 3) (t' := 1) rfl rfl (by decide))
theorem KJ.arJ {g : WG} {S : Nat → Prop} {H H' : Heap} {U : State} (h : KJ g S H H') (hK : KW g U) {a N : Nat} {f : Nat → Nat} (hA : AR g.2.2.2.2.2.1 H a N f) : AR g.2.2.2.2.2.1 H' a N f := h.cell hA (kw_neA hK (t := 4) (t' := 0) rfl rfl (by decide)) (kw_neA hK (t := 4) (t' := 1) rfl rfl (by decide))
theorem KJ.arB {g : WG} {S : Nat → Prop} {H H' : Heap} {U : State} (h : KJ g S H H') (hK : KW g U) {a N : Nat} {f : Nat → Nat} (hA : AR g.2.2.2.2.2.2 H a N f) : AR g.2.2.2.2.2.2 H' a N f := h.cell hA (kw_neA hK (t := 5) (t' := 0) rfl rfl (by decide)) (kw_neA hK (t := 5) (t' := 1) rfl rfl (by decide))
theorem KJ.w1 {g : WG} {n0 : Nat → Prop} {a : Nat} {H H' : Heap} (h : KJ g (fun q => q = a) H H') (ha : n0 a) : KJ g (fun q => n0 q) H H' := h.mono (fun q e => by rw [e]; exact ha)
theorem KJ.w2 {g : WG} {n0 : Nat → Prop} {a b : Nat} {H H' : Heap} (h : KJ g (fun q => q = a ∨ q = b) H H') (ha : n0 a) (hb : n0 b) : KJ g (fun q => n0 q) H H' := h.mono (fun q e => e.elim (fun e => by rw [e]; exact ha) (fun e => by rw [e]; exact hb))
theorem OB.recv {g : WG} {H : Heap} {U : State} (hK : KW g U) {a ci : Nat} {fs : List Value} {C : String} {T : u_T} {N : Nat} (hc : CL[ci]? = some (C, T, N)) (ho : OB g H a ci fs) : ∃ cell : Cell, H[a]? = some cell ∧ cell.vm.isStatics = false ∧ U.vm.findClass C = some cell.cls := by
  obtain ⟨r, hc', cell, h1, h2, h3, -⟩ := ho
  have hr : r = (C, T, N) := Option.some.inj (hc'.symm.trans hc)
  subst hr
  obtain ⟨-, hfc, -⟩ := hK.1.1 ci _ hc
  exact ⟨cell, h1, by rw [h3]; rfl, by rw [h2]; exact hfc⟩
/-- the answer of a contract, over heaps alone -/
def QcP (Qp : Option Value → Heap → Heap → Prop) : Array Value → State → Outcome → State → Prop := fun _ st oc t => ∃ r, oc = .returned r ∧ Qp r st.heap t.heap
def QV (Q' : Heap → Heap → Prop) : Option Value → Heap → Heap → Prop := fun v H H' => v = none ∧ Q' H H'
def QI (Q' : Int32 → Heap → Heap → Prop) : Option Value → Heap → Heap → Prop := fun v H H' => ∃ r, v = some (.int r) ∧ Q' r H H'
def QL (Q' : Int64 → Heap → Heap → Prop) : Option Value → Heap → Heap → Prop := fun v H H' => ∃ r, v = some (.long r) ∧ Q' r H H'
def QR (Q' : Nat → Heap → Heap → Prop) : Option Value → Heap → Heap → Prop := fun v H H' => ∃ r, v = some (.ref r) ∧ Q' r H H'
/-- a contract of this claim -/
def Ctr (l : Launch) (y : MethodName) (cw : Cond) (fr lo mc ms : Nat) (n0 : Nat → Prop) (g : WG) (av : List Value) (P : Heap → Prop) (Qp : Option Value → Heap → Heap → Prop) : Prop :=
  Met l y (cw :: BW) { frames := fr, cells := mc, slots := ms, locals := lo } (va_Pc av (fun U => KW g U ∧ P U.heap)) (QcP Qp) mc ms (fun q => n0 q)
/-- what a method's walk stands on -/
def EV (p : Program) (m : MethodId) (c : Code) (cc : ByteArray) (nL : Nat) (s : State) (args : Array Value) (own : String) (g : WG) : Prop :=
  p.tables.exec = Jvm.exec ∧ c.code = cc ∧ c.maxLocals = nL ∧ s.vm.findClass own = some m.cls ∧ (∀ w ∈ BW, w.before args s = true) ∧ KW g s
theorem ctr_mk (l : Launch) {y : MethodName} {cc : ByteArray} {nL : Nat} {ret : Option FieldType} {fr lo mc ms : Nat} {n0 : Nat → Prop} {g : WG} {av : List Value} {P : Heap → Prop} {Qp : Option Value → Heap → Heap → Prop} {lv0 : List (Nat × Value)}
    (hy : plainName y.cls = true) (hsz : (lg_sl av).length ≤ nL) (hlv : lv_args 0 av = lv0)
    (body : ∀ (p : Program) (e : Env) (s : State) (m : MethodId) (below : List Frame) (meth : Method) (c : Code) (ls : Array Slot), EV p m c cc nL s av.toArray y.cls g → meth.sig.returnType = ret → meth.locks = false → meth.name = y.name → lv_has ls nL lv0 → P s.heap →
      W p l e { frames := fr, cells := mc, slots := ms, locals := lo } s m av.toArray below meth c s.heap [] 0 0 (MQ below (QcP Qp) av.toArray s mc ms (fun q => n0 q)) (F0 m 0 ls [])) :
    Ctr l y (.code y cc nL ret) fr lo mc ms n0 g av P Qp := by
  refine Met.ofW (cc := cc) (maxL := nL) (ret := ret) hy rfl ?_
  intro p e s m args below meth c s₁ B hml hv
  obtain ⟨rfl, hK, hP⟩ := hv
  have hts := atoms_spec (ws := Cond.code y cc nL ret :: BW) B.pre
  have hl := lv_entry av (n := nL) hsz
  rw [lg_entry_eq]
  rw [hlv] at hl
  exact body p e s m below meth c _ ⟨B.exec, B.bytes, hml, findClass_of_methodNamed B.named, fun w hw => hts w (List.mem_cons_of_mem _ hw), hK⟩ B.returns B.notSynchronized (name_of_methodNamed B.named B.method).1 hl hP
section KR
variable {p : Program} {l : Launch} {e : Env} {R : Room} {s : State} {m : MethodId} {args : Array Value} {below : List Frame} {meth : Method} {c : Code} {H : Heap} {locs : List Loc} {cells slots : Nat} {Q : State → Prop}
variable {cc : ByteArray} {nL : Nat} {pc : Nat} {ls : Array Slot} {rest : List Value} {g : WG} {own : String} {n0 : Nat → Prop} {a : Nat}
theorem q_get {ref C : String} {T : u_T} {N ci index : Nat} (E : EV p m c cc nL s args own g) {fs : List Value} (ho : OB g H a ci fs) (hin : ∀ w ∈ u_ws C T N, w ∈ BW) (hc : CL[ci]? = some (C, T, N)) (k : Nat) (hk : k < N) (hl : Cond.fieldLink own index ref (T k).2.1 (T k).2.2.1 ∈ BW) (hsame : (T k).1 = ref) {v : Value} (hv : fs[k]? = some v) (hdg : decode cc pc = .ok (.getfield index, 3))
    (kk : W p l e R s m args below meth c H locs cells slots Q (F0 m (pc + 3) ls (v :: rest))) : W p l e R s m args below meth c H locs cells slots Q (F0 m pc ls (.ref a :: rest)) :=
  va_get (D := g.1) (cl := CL) (ws := [(a, .inr (ci, fs))]) (Ts := BW) E.1 E.2.1 E.2.2.2.2.1 hin E.2.2.2.1 E.2.2.2.2.2.1 (fun k q hq => by
    cases k with
    | zero => cases hq; exact ho
    | succ k => cases hq) 0 rfl hc k hk (E.2.2.2.2.1 _ hl) (fun x h => by rw [← hsame]; exact h) hv hdg kk
theorem q_lald (E : EV p m c cc nL s args own g) {N : Nat} {f : Nat → Int64} (hA : AJ g H a N f) {i : Int32} (k : Nat) (hi : i = nI k) (hk : k < N) (hN : N < 2 ^ 31) (hdg : decode cc pc = .ok (.laload, 1))
    (kk : W p l e R s m args below meth c H locs cells slots Q (F0 m (pc + 1) ls (.long (f k) :: rest))) : W p l e R s m args below meth c H locs cells slots Q (F0 m pc ls (.int i :: .ref a :: rest)) := by
  subst hi
  have hc : (nI k).toNatClampNeg = k := nI_clamp (Nat.lt_trans hk hN)
  exact W.lald (v := .long (f k)) E.1 E.2.1 hA ((E.2.2.2.2.2.1.2 0 _ rfl).1 N (fun j => .long (f j))) (fun q => by cases q) (by show ¬ (nI k < 0 ∨ (arrV _ _ _).slots.size ≤ _); rw [arrV_size]; exact nI_in hk hN) (by show (arrV _ _ _).slots[_]? = _; rw [hc, arrV_read _ _ hk]) rfl rfl hdg kk
theorem q_last (E : EV p m c cc nL s args own g) {N : Nat} {f : Nat → Int64} (hA : AJ g H a N f) (ha : n0 a) (hF : ∀ q ∈ locs, n0 q.base) {i : Int32} {x : Int64} (k : Nat) (hi : i = nI k) (hk : k < N) (hN : N < 2 ^ 31) (hdg : decode cc pc = .ok (.lastore, 1))
    (kk : ∀ (H' : Heap) (locs' : List Loc), KJ g (fun q => q = a) H H' → AJ g H' a N (vp_updL f k x) → (∀ q ∈ locs', n0 q.base) → W p l e R s m args below meth c H' locs' cells slots Q (F0 m (pc + 1) ls rest)) : W p l e R s m args below meth c H locs cells slots Q (F0 m pc ls (.long x :: .int i :: .ref a :: rest)) := by
  subst hi
  have hc : (nI k).toNatClampNeg = k := nI_clamp (Nat.lt_trans hk hN)
  refine W.last E.1 E.2.1 hA ((E.2.2.2.2.2.1.2 0 _ rfl).1 N (fun j => .long (f j))) (fun q => by cases q) (by show ¬ (nI k < 0 ∨ (arrV _ _ _).slots.size ≤ _); rw [arrV_size]; exact nI_in hk hN) rfl rfl hdg fun H1 e1 z oq => ?_
  have hA1 : AJ g H1 a N (vp_updL f k x) := by
    unfold AJ
    rw [e1, hc, arrV_store]
    congr 2
    funext q
    by_cases hq : q = k
    · subst hq
      simp [updV, vp_updL]
    · simp [updV, vp_updL, hq]
  refine kk H1 _ ⟨z, fun q => ?_⟩ hA1 (fun q hq => ?_)
  · by_cases h : q = a
    · subst h
      exact Or.inr ⟨rfl, Or.inl ⟨N, f, _, hA, hA1⟩⟩
    · exact Or.inl (oq q h)
  · rcases List.mem_append.mp hq with h | h
    · exact hF q h
    · rw [List.mem_singleton.mp h]
      exact ha
theorem q_laldS (E : EV p m c cc nL s args own g) (hA : J14 g n0 H a) {i : Int32} (k : Nat) (hi : i = nI k) (hk : k < 14) (hdg : decode cc pc = .ok (.laload, 1))
    (kk : ∀ v : Int64, W p l e R s m args below meth c H locs cells slots Q (F0 m (pc + 1) ls (.long v :: rest))) : W p l e R s m args below meth c H locs cells slots Q (F0 m pc ls (.int i :: .ref a :: rest)) := by
  obtain ⟨-, f, hf⟩ := hA
  exact q_lald E hf k hi hk (by decide) hdg (kk _)
theorem q_lastS (E : EV p m c cc nL s args own g) (hA : J14 g n0 H a) (hF : ∀ q ∈ locs, n0 q.base) {i : Int32} {x : Int64} (k : Nat) (hi : i = nI k) (hk : k < 14) (hdg : decode cc pc = .ok (.lastore, 1))
    (kk : ∀ (H' : Heap) (locs' : List Loc), KJ g (fun q => q = a) H H' → (∀ q ∈ locs', n0 q.base) → W p l e R s m args below meth c H' locs' cells slots Q (F0 m (pc + 1) ls rest)) : W p l e R s m args below meth c H locs cells slots Q (F0 m pc ls (.long x :: .int i :: .ref a :: rest)) := by
  obtain ⟨h0, f, hf⟩ := hA
  exact q_last E hf h0 hF k hi hk (by decide) hdg (fun H' locs' h1 _ h3 => kk H' locs' h1 h3)
theorem q_run {mc ms : Nat} {st0 : List Value} {Qp : Option Value → Heap → Heap → Prop} {av : Array Value} (hr : CallRun p l e R s m args below meth c H locs cells slots mc ms (F0 m pc ls st0) rest (QcP Qp av) (fun q => n0 q)) (hF : ∀ q ∈ locs, n0 q.base)
    (kk : ∀ (v : Option Value) (H' : Heap) (locs' : List Loc), Qp v H H' → (∀ q ∈ locs', n0 q.base) → W p l e R s m args below meth c H' locs' (cells + mc) (slots + ms) Q (F0 m (pc + 3) ls (v.toList ++ rest))) : W p l e R s m args below meth c H locs cells slots Q (F0 m pc ls st0) := by
  intro T hT X
  obtain ⟨v, st₀, t, T', L, h0, X', hL, e1, ⟨r, hr1, hq⟩, st⟩ := hr T hT X
  have hv : v = r := by injection hr1
  subst hv
  obtain ⟨t2, a1, b1⟩ := kk v t.heap (locs ++ L) (by rw [← h0]; exact hq) (fun q hq => (List.mem_append.mp hq).elim (hF q) (hL q)) T' e1 X'
  exact ⟨t2, st t2 a1, b1⟩
theorem q_pre {av : List Value} {P : Heap → Prop} (hK : KW g s) (hP : P H) : PreS s H (va_Pc av (fun U => KW g U ∧ P U.heap)) av :=
  ⟨fun a U g' mk q => by obtain ⟨q0, q1, q2⟩ := q; exact ⟨q0, KW.moved (u := U) (U := U.calling g' mk a) (Vm.Alike.refl U.vm) q1, q2⟩, fun U hU hW => ⟨rfl, KW.moved hW.alike hK, by rw [hU]; exact hP⟩⟩
theorem q_cb {index maxL fr lo mc ms : Nat} {y : MethodName} {bytes : ByteArray} {ret : Option FieldType} (E : EV p m c cc nL s args own g) (n : Nat) (hcw : Cond.code y bytes maxL ret ∈ BW) (hini : Cond.initialized y.cls ∈ BW) (hl : Cond.methodLink own index y ∈ BW)
    (hd : y.cls ≠ "java/lang/invoke/MethodHandle" ∧ y.cls ≠ "java/lang/invoke/VarHandle" ∧ (parseMethodDescriptor y.desc).map (fun d => d.parameters.length) = some n) (hR : fr + 1 ≤ R.frames ∧ 8 + (maxL + 11) + lo ≤ R.locals) :
    CallB R s args own index y bytes maxL ret (Cond.code y bytes maxL ret :: BW) { frames := fr, cells := mc, slots := ms, locals := lo } mc ms n :=
  callB_of (Ts := BW) n E.2.2.2.2.1 (fun w hw => by
    rcases List.mem_cons.mp hw with rfl | hw
    · exact ⟨hcw, good_of_word (bw_good _ hcw)⟩
    · exact ⟨hw, good_of_word (bw_good _ hw)⟩) rfl rfl rfl (E.2.2.2.2.1 _ hini) (E.2.2.2.2.1 _ hl) hd hR
/-- invokevirtual -/
theorem q_cV {index maxL fr lo mc ms n : Nat} {y : MethodName} {bytes : ByteArray} {ret : Option FieldType} {b : Nat} {As st0 : List Value} {P : Heap → Prop} {Qp : Option Value → Heap → Heap → Prop} (E : EV p m c cc nL s args own g)
    (hM : Ctr l y (.code y bytes maxL ret) fr lo mc ms n0 g (.ref b :: As) P Qp) (hcw : Cond.code y bytes maxL ret ∈ BW) (hini : Cond.initialized y.cls ∈ BW) (hl : Cond.methodLink own index y ∈ BW) (him : Cond.instanceMethod y ∈ BW) (hsel : Cond.selects y.cls y y ∈ BW)
    (hd : y.cls ≠ "java/lang/invoke/MethodHandle" ∧ y.cls ≠ "java/lang/invoke/VarHandle" ∧ (parseMethodDescriptor y.desc).map (fun d => d.parameters.length) = some n) (hn : As.length = n) (hR : fr + 1 ≤ R.frames ∧ 8 + (maxL + 11) + lo ≤ R.locals)
    (hrecv : ∃ cell : Cell, H[b]? = some cell ∧ cell.vm.isStatics = false ∧ s.vm.findClass y.cls = some cell.cls) (hP : P H) (hF : ∀ q ∈ locs, n0 q.base) (hls : ls.size = nL) (hst : st0 = As.reverse ++ .ref b :: rest) (hW : (rest.map fun v => v.category).sum ≤ 8) (hdg : decode cc pc = .ok (.invokevirtual index, 3)) (hf : cells + mc ≤ R.cells ∧ slots + ms ≤ R.slots)
    (kk : ∀ (v : Option Value) (H' : Heap) (locs' : List Loc), Qp v H H' → (∀ q ∈ locs', n0 q.base) → W p l e R s m args below meth c H' locs' (cells + mc) (slots + ms) Q (F0 m (pc + 3) ls (v.toList ++ rest))) : W p l e R s m args below meth c H locs cells slots Q (F0 m pc ls st0) := by
  have hpre := q_pre (H := H) (s := s) (av := .ref b :: As) E.2.2.2.2.2 hP
  exact q_run (W.runV (C := y.cls) (Ts := BW) ⟨E.1, E.2.1, E.2.2.1, E.2.2.2.1, E.2.2.2.2.1⟩ hM ⟨q_cb E n hcw hini hl hd hR, E.2.2.2.2.1 _ him, E.2.2.2.2.1 _ hsel⟩ ⟨hpre.1, hrecv, hpre.2⟩ rfl hn hls hst (lv_room hW) hdg hf) hF kk
/-- invokestatic -/
theorem q_cS {index maxL fr lo mc ms n : Nat} {y : MethodName} {bytes : ByteArray} {ret : Option FieldType} {As st0 : List Value} {P : Heap → Prop} {Qp : Option Value → Heap → Heap → Prop} (E : EV p m c cc nL s args own g)
    (hM : Ctr l y (.code y bytes maxL ret) fr lo mc ms n0 g As P Qp) (hcw : Cond.code y bytes maxL ret ∈ BW) (hini : Cond.initialized y.cls ∈ BW) (hl : Cond.methodLink own index y ∈ BW) (him : Cond.static y ∈ BW)
    (hd : y.cls ≠ "java/lang/invoke/MethodHandle" ∧ y.cls ≠ "java/lang/invoke/VarHandle" ∧ (parseMethodDescriptor y.desc).map (fun d => d.parameters.length) = some n) (hn : As.length = n) (hR : fr + 1 ≤ R.frames ∧ 8 + (maxL + 11) + lo ≤ R.locals)
    (hP : P H) (hF : ∀ q ∈ locs, n0 q.base) (hls : ls.size = nL) (hst : st0 = As.reverse ++ rest) (hW : (rest.map fun v => v.category).sum ≤ 8) (hdg : decode cc pc = .ok (.invokestatic index, 3)) (hf : cells + mc ≤ R.cells ∧ slots + ms ≤ R.slots)
    (kk : ∀ (v : Option Value) (H' : Heap) (locs' : List Loc), Qp v H H' → (∀ q ∈ locs', n0 q.base) → W p l e R s m args below meth c H' locs' (cells + mc) (slots + ms) Q (F0 m (pc + 3) ls (v.toList ++ rest))) : W p l e R s m args below meth c H locs cells slots Q (F0 m pc ls st0) :=
  q_run (W.runS (Ts := BW) ⟨E.1, E.2.1, E.2.2.1, E.2.2.2.1, E.2.2.2.2.1⟩ hM ⟨q_cb E n hcw hini hl hd hR, E.2.2.2.2.1 _ him⟩ (q_pre E.2.2.2.2.2 hP) rfl hn hls hst (lv_room hW) hdg hf) hF kk
/-- invokespecial of a constructor -/
theorem q_cI {index maxL fr lo mc ms n : Nat} {y : MethodName} {bytes : ByteArray} {b : Nat} {As st0 : List Value} {P : Heap → Prop} {Qp : Option Value → Heap → Heap → Prop} (E : EV p m c cc nL s args own g)
    (hM : Ctr l y (.code y bytes maxL none) fr lo mc ms n0 g (.ref b :: As) P Qp) (hcw : Cond.code y bytes maxL none ∈ BW) (hini : Cond.initialized y.cls ∈ BW) (hl : Cond.methodLink own index y ∈ BW) (him : Cond.instanceMethod y ∈ BW) (hyn : y.name = "<init>")
    (hd : y.cls ≠ "java/lang/invoke/MethodHandle" ∧ y.cls ≠ "java/lang/invoke/VarHandle" ∧ (parseMethodDescriptor y.desc).map (fun d => d.parameters.length) = some n) (hn : As.length = n) (hR : fr + 1 ≤ R.frames ∧ 8 + (maxL + 11) + lo ≤ R.locals)
    (hP : P H) (hF : ∀ q ∈ locs, n0 q.base) (hls : ls.size = nL) (hst : st0 = As.reverse ++ .ref b :: rest) (hW : (rest.map fun v => v.category).sum ≤ 8) (hdg : decode cc pc = .ok (.invokespecial index, 3)) (hf : cells + mc ≤ R.cells ∧ slots + ms ≤ R.slots)
    (kk : ∀ (v : Option Value) (H' : Heap) (locs' : List Loc), Qp v H H' → (∀ q ∈ locs', n0 q.base) → W p l e R s m args below meth c H' locs' (cells + mc) (slots + ms) Q (F0 m (pc + 3) ls (v.toList ++ rest))) : W p l e R s m args below meth c H locs cells slots Q (F0 m pc ls st0) :=
  q_run (W.runI (Ts := BW) ⟨E.1, E.2.1, E.2.2.1, E.2.2.2.1, E.2.2.2.2.1⟩ hM ⟨q_cb E n hcw hini hl hd hR, hyn, E.2.2.2.2.1 _ him⟩ (q_pre E.2.2.2.2.2 hP) rfl hn hls hst (lv_room hW) hdg hf) hF kk
theorem q_vret {Qp : Option Value → Heap → Heap → Prop} (E : EV p m c cc nL s args own g) (hr : meth.sig.returnType = none) (hlk : meth.locks = false) (hq : Qp none s.heap H) (hF : ∀ q ∈ locs, n0 q.base) (hdg : decode cc pc = .ok (.return_, 1)) : W p l e R s m args below meth c H locs cells slots (MQ below (QcP Qp) args s cells slots (fun q => n0 q)) (F0 m pc ls []) :=
  W.vret E.1 E.2.1 hr (fun t ht _ => ⟨none, rfl, by rw [ht]; exact hq⟩) hF hdg hlk
theorem q_iret {Qp : Option Value → Heap → Heap → Prop} {v : Int32} (E : EV p m c cc nL s args own g) (hr : meth.sig.returnType = some .int) (hlk : meth.locks = false) (hq : Qp (some (.int v)) s.heap H) (hF : ∀ q ∈ locs, n0 q.base) (hdg : decode cc pc = .ok (.ireturn, 1)) : W p l e R s m args below meth c H locs cells slots (MQ below (QcP Qp) args s cells slots (fun q => n0 q)) (F0 m pc ls [.int v]) :=
  W.iret E.1 E.2.1 hr (fun t ht _ => ⟨some (.int v), rfl, by rw [ht]; exact hq⟩) hF hdg hlk
theorem q_lret {Qp : Option Value → Heap → Heap → Prop} {v : Int64} (E : EV p m c cc nL s args own g) (hr : meth.sig.returnType = some .long) (hlk : meth.locks = false) (hq : Qp (some (.long v)) s.heap H) (hF : ∀ q ∈ locs, n0 q.base) (hdg : decode cc pc = .ok (.lreturn, 1)) : W p l e R s m args below meth c H locs cells slots (MQ below (QcP Qp) args s cells slots (fun q => n0 q)) (F0 m pc ls [.long v]) :=
  W.lret E.1 E.2.1 hr (fun t ht _ => ⟨some (.long v), rfl, by rw [ht]; exact hq⟩) hF hdg hlk
theorem q_zret {Qp : Option Value → Heap → Heap → Prop} {v : Int32} (E : EV p m c cc nL s args own g) (hr : meth.sig.returnType = some .boolean) (hv : narrow .boolean (.int v) = .int v) (hlk : meth.locks = false) (hq : Qp (some (.int v)) s.heap H) (hF : ∀ q ∈ locs, n0 q.base) (hdg : decode cc pc = .ok (.ireturn, 1)) : W p l e R s m args below meth c H locs cells slots (MQ below (QcP Qp) args s cells slots (fun q => n0 q)) (F0 m pc ls [.int v]) :=
  W.zret E.1 E.2.1 hr hv (fun t ht _ => ⟨some (.int v), rfl, by rw [ht]; exact hq⟩) hF hdg hlk
theorem qv {mcc mss : Nat} {Q' : Heap → Heap → Prop} (kk : ∀ (H' : Heap) (locs' : List Loc), Q' H H' → (∀ q ∈ locs', n0 q.base) → W p l e R s m args below meth c H' locs' mcc mss Q (F0 m pc ls rest)) : ∀ (v : Option Value) (H' : Heap) (locs' : List Loc), QV Q' v H H' → (∀ q ∈ locs', n0 q.base) → W p l e R s m args below meth c H' locs' mcc mss Q (F0 m pc ls (v.toList ++ rest)) := by
  rintro v H' locs' ⟨rfl, hq⟩ hF
  exact kk H' locs' hq hF
theorem qi {mcc mss : Nat} {Q' : Int32 → Heap → Heap → Prop} (kk : ∀ (r : Int32) (H' : Heap) (locs' : List Loc), Q' r H H' → (∀ q ∈ locs', n0 q.base) → W p l e R s m args below meth c H' locs' mcc mss Q (F0 m pc ls (.int r :: rest))) : ∀ (v : Option Value) (H' : Heap) (locs' : List Loc), QI Q' v H H' → (∀ q ∈ locs', n0 q.base) → W p l e R s m args below meth c H' locs' mcc mss Q (F0 m pc ls (v.toList ++ rest)) := by
  rintro v H' locs' ⟨r, rfl, hq⟩ hF
  exact kk r H' locs' hq hF
theorem ql {mcc mss : Nat} {Q' : Int64 → Heap → Heap → Prop} (kk : ∀ (r : Int64) (H' : Heap) (locs' : List Loc), Q' r H H' → (∀ q ∈ locs', n0 q.base) → W p l e R s m args below meth c H' locs' mcc mss Q (F0 m pc ls (.long r :: rest))) : ∀ (v : Option Value) (H' : Heap) (locs' : List Loc), QL Q' v H H' → (∀ q ∈ locs', n0 q.base) → W p l e R s m args below meth c H' locs' mcc mss Q (F0 m pc ls (v.toList ++ rest)) := by
  rintro v H' locs' ⟨r, rfl, hq⟩ hF
  exact kk r H' locs' hq hF
theorem qr {mcc mss : Nat} {Q' : Nat → Heap → Heap → Prop} (kk : ∀ (r : Nat) (H' : Heap) (locs' : List Loc), Q' r H H' → (∀ q ∈ locs', n0 q.base) → W p l e R s m args below meth c H' locs' mcc mss Q (F0 m pc ls (.ref r :: rest))) : ∀ (v : Option Value) (H' : Heap) (locs' : List Loc), QR Q' v H H' → (∀ q ∈ locs', n0 q.base) → W p l e R s m args below meth c H' locs' mcc mss Q (F0 m pc ls (v.toList ++ rest)) := by
  rintro v H' locs' ⟨r, rfl, hq⟩ hF
  exact kk r H' locs' hq hF
end KR
/-- the rows of a field that may be written: all but its prime -/
def fdn (n0 : Nat → Prop) : Nat → Nat → Prop
  | 0 => fun _ => True
  | 1 => fun _ => True
  | 2 => fun _ => True
  | 3 => fun _ => True
  | 4 => fun _ => True
  | _ + 5 => n0
theorem J14.t {g : WG} {n0 : Nat → Prop} {H : Heap} {a : Nat} (h : J14 g n0 H a) : J14 g (fun _ => True) H a := ⟨trivial, h.2⟩
theorem fdn_of {n0 : Nat → Prop} {k q : Nat} (h : n0 q) : fdn n0 k q := match k with
  | 0 => trivial
  | 1 => trivial
  | 2 => trivial
  | 3 => trivial
  | 4 => trivial
  | _ + 5 => h
/-- a contract with more asked of the heap -/
theorem Ctr.pre {l : Launch} {y : MethodName} {cw : Cond} {fr lo mc ms : Nat} {n0 : Nat → Prop} {g : WG} {av : List Value} {P P' : Heap → Prop} {Qp : Option Value → Heap → Heap → Prop} (h : Ctr l y cw fr lo mc ms n0 g av P Qp) (hp : ∀ H, P' H → P H) : Ctr l y cw fr lo mc ms n0 g av P' Qp := by
  intro p e ha hc hk s m args below hf happ hP hK
  exact h p e ha hc hk s m args below hf happ ⟨hP.1, hP.2.1, hp _ hP.2.2⟩ hK
/-- a field: its six arrays and a number -/
def FD (g : WG) (n0 : Nat → Prop) (H : Heap) (o : Nat) (F : Nat → Nat) (mi : Int64) : Prop := OB g H o 1 [.ref (F 0), .ref (F 1), .ref (F 2), .ref (F 3), .ref (F 4), .ref (F 5), .long mi] ∧ ∀ k, k < 6 → J14 g (fdn n0 k) H (F k)
theorem KJ.fd {g : WG} {S : Nat → Prop} {n0 : Nat → Prop} {H H' : Heap} {U : State} (h : KJ g S H H') (hK : KW g U) {o : Nat} {F : Nat → Nat} {mi : Int64} (hf : FD g n0 H o F mi) : FD g n0 H' o F mi := ⟨h.ob hK hf.1, fun k hk => h.j (hf.2 k hk)⟩
/-- a point: its three arrays -/
def PT (g : WG) (n0 : Nat → Prop) (H : Heap) (o : Nat) (x y z : Nat) : Prop := OB g H o 2 [.ref x, .ref y, .ref z] ∧ J14 g n0 H x ∧ J14 g n0 H y ∧ J14 g n0 H z
theorem KJ.pt {g : WG} {S : Nat → Prop} {n0 : Nat → Prop} {H H' : Heap} {U : State} (h : KJ g S H H') (hK : KW g U) {o x y z : Nat} (hf : PT g n0 H o x y z) : PT g n0 H' o x y z := ⟨h.ob hK hf.1, h.j hf.2.1, h.j hf.2.2.1, h.j hf.2.2.2⟩
