/-! the model and the values of its scalars, points and powers -/
def BV9 (fd : Nat → Int64) (B : Nat → Int) : Prop := ∀ k, k < 119 → NV fd k (B k) ∧ (k < 32 → B k < RI) ∧ (32 ≤ k → 0 ≤ B k ∧ B k < QJ)
def ptB (B : Nat → Int) (s : Nat) : P3 := (B s, B (s + 1), B (s + 2))
def updP (B : Nat → Int) (s : Nat) (T : P3) : Nat → Int := fun k => if k = s then T.1 % QJ else if k = s + 1 then T.2.1 % QJ else if k = s + 2 then T.2.2 % QJ else B k
def MVP (g : WG) (n0 : Nat → Prop) (H : Heap) (mo : Nat) (th : Int32) (pn tn wn : Nat) (B : Nat → Int) : Prop := (∃ w n fd, WH w n ∧ MS g n0 H mo th (nI pn) (nI tn) (nI wn) w n fd ∧ BV9 fd B) ∧ (∃ fa, AJ g H (mo + 4) 420 fa ∧ (∀ j, j ≤ 10 → PP 1 10 ∣ VL (fun k => fa (210 * 1 + 14 * j + k)) 10 - 268435456 ^ (10 + j)) ∧ (∀ j, j ≤ 14 → PP 0 14 ∣ VL (fun k => fa (210 * 0 + 14 * j + k)) 14 - 268435456 ^ (14 + j))) ∧ HO g H mo ∧ (∃ f, AI g H (mo + 6) 96 f) ∧ (∃ f, AI g H (mo + 7) 96 f) ∧ (pn ≤ 16 ∧ tn ≤ 96 ∧ wn ≤ 96) ∧ n0 mo ∧ True ∧ True ∧ n0 (mo + 8)
theorem MVP.mp {g : WG} {n0 : Nat → Prop} {H : Heap} {mo : Nat} {th : Int32} {pn tn wn : Nat} {B : Nat → Int} (h : MVP g n0 H mo th pn tn wn B) : MP g n0 H mo th pn tn wn := ⟨by
  obtain ⟨⟨w, n, fd, hw, hm, -⟩, -⟩ := h
  exact ⟨w, n, fd, hw, hm⟩, h.2.2⟩
theorem MVP.fin {g : WG} {n0 : Nat → Prop} {H H' : Heap} {mo : Nat} {th th2 : Int32} {pn tn wn pn2 tn2 wn2 w n : Nat} {B B' : Nat → Int} {fd : Nat → Int64} (h : MVP g n0 H mo th pn tn wn B) (hfr : FRM (MR mo) H H') (hw : WH w n) (hm : MS g n0 H' mo th2 (nI pn2) (nI tn2) (nI wn2) w n fd) (hB : BV9 fd B') (hb : pn2 ≤ 16 ∧ tn2 ≤ 96 ∧ wn2 ≤ 96) : MVP g n0 H' mo th2 pn2 tn2 wn2 B' :=
  ⟨⟨w, n, fd, hw, hm, hB⟩, h.2.1.imp (fun f hf => ⟨AJ.off hfr (by unfold MR; omega) hf.1, hf.2⟩), (h.mp.fin hfr hw hm hb).2⟩
theorem MVP.keep {g : WG} {n0 : Nat → Prop} {H H' : Heap} {mo : Nat} {th th2 : Int32} {pn tn wn w n : Nat} {B B' : Nat → Int} {fd : Nat → Int64} (h : MVP g n0 H mo th pn tn wn B) (hfr : FRM (MR mo) H H') (hw : WH w n) (hm : MS g n0 H' mo th2 (nI pn) (nI tn) (nI wn) w n fd) (hB : BV9 fd B') : MVP g n0 H' mo th2 pn tn wn B' := h.fin hfr hw hm hB h.2.2.2.2.2.1
theorem BV9.pm {fd : Nat → Int64} {B : Nat → Int} (h : BV9 fd B) {s : Nat} (hs : 32 ≤ s ∧ s + 2 < 119) : PM9 fd s (ptB B s) := by
  have k : ∀ t, 32 ≤ t → t < 119 → MQ9 fd t (B t) := fun t h1 h2 => by
    have h3 := h t h2
    show NV fd t (B t % QJ)
    rw [Int.emod_eq_of_lt (h3.2.2 h1).1 (h3.2.2 h1).2]
    exact h3.1
  exact ⟨k s (by omega) (by omega), k (s + 1) (by omega) (by omega), k (s + 2) (by omega) (by omega)⟩
theorem BV9.nat {fd : Nat → Int64} {B : Nat → Int} (h : BV9 fd B) (hd : DD fd) {s : Nat} (hs : s < 32) : NV fd s (((B s).toNat : Nat) : Int) ∧ (((B s).toNat : Nat) : Int) = B s := by
  have h1 := (h s (by omega)).1
  have e := Int.toNat_of_nonneg (h1.nn hd (by omega))
  exact ⟨by rw [e]; exact h1, e⟩
theorem BV9.sm {fd fd' : Nat → Int64} {B : Nat → Int} {Q : Nat → Prop} (h : BV9 fd B) (hS : SAME fd fd' Q) (hQ : ∀ t, Q t → 119 ≤ t) : BV9 fd' B := fun k hk => ⟨(hS.sv (fun q => absurd (hQ k q) (by omega)) (Nat.le_refl 14)).trans (h k hk).1, (h k hk).2⟩
theorem NV.kq {fd fd' : Nat → Int64} {s : Nat} {x : Int} (h : NV fd s x) (e : ∀ k, k < 14 → fd' (14 * s + k) = fd (14 * s + k)) : NV fd' s x := (VL_ext (fun k hk => e k hk)).trans h
theorem BV9.kq {fd fd' : Nat → Int64} {B : Nat → Int} (h : BV9 fd B) (e : ∀ j, j < 1666 → fd' j = fd j) : BV9 fd' B := fun k hk => ⟨(h k hk).1.kq (fun i hi => e _ (by omega)), (h k hk).2⟩
theorem BV9.set {fd fd' : Nat → Int64} {B : Nat → Int} {Q : Nat → Prop} {s : Nat} {T : P3} (h : BV9 fd B) (hS : SAME fd fd' Q) (hQ : ∀ t, Q t → 119 ≤ t ∨ t = s ∨ t = s + 1 ∨ t = s + 2) (hT : PM9 fd' s T) (hs : 32 ≤ s ∧ s + 2 < 119) : BV9 fd' (updP B s T) := by
  intro k hk
  unfold updP
  by_cases e0 : k = s
  · subst e0
    rw [if_pos rfl]
    exact ⟨hT.1, fun h => absurd h (by omega), fun _ => qm_r _⟩
  · rw [if_neg e0]
    by_cases e1 : k = s + 1
    · subst e1
      rw [if_pos rfl]
      exact ⟨hT.2.1, fun h => absurd h (by omega), fun _ => qm_r _⟩
    · rw [if_neg e1]
      by_cases e2 : k = s + 2
      · subst e2
        rw [if_pos rfl]
        exact ⟨hT.2.2, fun h => absurd h (by omega), fun _ => qm_r _⟩
      · rw [if_neg e2]
        exact ⟨(hS.sv (fun q => by have := hQ k q; omega) (Nat.le_refl 14)).trans (h k hk).1, (h k hk).2⟩
