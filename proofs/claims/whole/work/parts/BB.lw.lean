/-! rows that are lifted numbers modulo Q -/
def LW (g : WG) (H : Heap) (r : Nat) (X : Int) : Prop := ∃ f, AJ g H r 14 f ∧ RV f ((X * WQ) % QJ)
theorem LW.off {g : WG} {S : Nat → Prop} {H H' : Heap} {r : Nat} {X : Int} (h : LW g H r X) (hk : KJ g S H H') (hn : ¬ S r) : LW g H' r X := h.imp (fun _ hf => ⟨hk.ajo hn hf.1, hf.2⟩)
theorem if_ad {x y : Int} (hx : 0 ≤ x ∧ x < QJ) (hy : 0 ≤ y ∧ y < QJ) : (if x + y < QJ then x + y else x + y - QJ) = (x + y) % QJ := by
  by_cases c : x + y < QJ
  · rw [if_pos c, Int.emod_eq_of_lt (by omega) c]
  · rw [if_neg c, ← Int.sub_emod_right, Int.emod_eq_of_lt (by omega) (by omega)]
theorem if_sb {x y : Int} (hx : 0 ≤ x ∧ x < QJ) (hy : 0 ≤ y ∧ y < QJ) : (if x < y then x - y + QJ else x - y) = (x - y) % QJ := by
  by_cases c : x < y
  · rw [if_pos c, ← Int.add_emod_right, Int.emod_eq_of_lt (by omega) (by omega)]
  · rw [if_neg c, Int.emod_eq_of_lt (by omega) (by omega)]
theorem lw_ad (X Y : Int) : (if (X * WQ) % QJ + (Y * WQ) % QJ < QJ then (X * WQ) % QJ + (Y * WQ) % QJ else (X * WQ) % QJ + (Y * WQ) % QJ - QJ) = ((X + Y) * WQ) % QJ := by
  rw [if_ad (qm_r _) (qm_r _), ← Int.add_emod, Int.add_mul]
theorem lw_sb (X Y : Int) : (if (X * WQ) % QJ < (Y * WQ) % QJ then (X * WQ) % QJ - (Y * WQ) % QJ + QJ else (X * WQ) % QJ - (Y * WQ) % QJ) = ((X - Y) * WQ) % QJ := by
  rw [if_sb (qm_r _) (qm_r _), ← Int.sub_emod, Int.sub_mul]
theorem lw_mu (X Y : Int) : (((X * WQ) % QJ) * ((Y * WQ) % QJ) * WIQ) % QJ = ((X * Y) * WQ) % QJ := by
  rw [qmm_r, ← qww_r (X * Y * WQ)]
  congr 1
  grind
theorem LW.cg {g : WG} {H : Heap} {r : Nat} {X Y : Int} (h : LW g H r X) (e : X = Y) : LW g H r Y := e ▸ h
/-- the curve's rows lie apart -/
def XA (F X : Nat → Nat) : Prop := (∀ i j, i < 9 → j < 9 → i ≠ j → X i ≠ X j) ∧ (∀ i, i < 9 → F 0 ≠ X i) ∧ (∀ i, i < 9 → F 5 ≠ X i) ∧ F 0 ≠ F 5
