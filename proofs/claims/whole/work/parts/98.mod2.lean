/-- the model, whatever it holds: what it has thrown, its powers, the size of its tape, what it has written -/
def MP (g : WG) (n0 : Nat → Prop) (H : Heap) (mo : Nat) (th : Int32) (pn tn wn : Nat) : Prop := (∃ w n fd, WH w n ∧ MS g n0 H mo th (nI pn) (nI tn) (nI wn) w n fd) ∧ HO g H mo ∧ (∃ f, AI g H (mo + 6) 96 f) ∧ (∃ f, AI g H (mo + 7) 96 f) ∧ (pn ≤ 16 ∧ tn ≤ 96 ∧ wn ≤ 96) ∧ n0 mo ∧ True ∧ True ∧ n0 (mo + 8)
section MPR
variable {g : WG} {n0 : Nat → Prop} {H H' : Heap} {mo : Nat} {th th2 : Int32} {pn tn wn pn2 tn2 wn2 w n : Nat} {fd : Nat → Int64}
theorem MP.mn (h : MP g n0 H mo th pn tn wn) : n0 mo := h.2.2.2.2.2.1
theorem MP.ob (h : MP g n0 H mo th pn tn wn) : ∃ w n, MO g H mo th (nI w) (nI n) (nI pn) (nI tn) (nI wn) := by
  obtain ⟨w, n, fd, -, hm⟩ := h.1
  exact ⟨w, n, hm.1⟩
theorem MP.fin (h : MP g n0 H mo th pn tn wn) (hfr : FRM (MR mo) H H') (hw : WH w n) (hm : MS g n0 H' mo th2 (nI pn2) (nI tn2) (nI wn2) w n fd) (hb : pn2 ≤ 16 ∧ tn2 ≤ 96 ∧ wn2 ≤ 96) : MP g n0 H' mo th2 pn2 tn2 wn2 :=
  ⟨⟨w, n, fd, hw, hm⟩, h.2.1.off hfr, h.2.2.1.imp (fun f hf => AI.off hfr (by unfold MR; omega) hf), h.2.2.2.1.imp (fun f hf => AI.off hfr (by unfold MR; omega) hf), hb, h.2.2.2.2.2⟩
theorem MP.keep (h : MP g n0 H mo th pn tn wn) (hfr : FRM (MR mo) H H') (hw : WH w n) (hm : MS g n0 H' mo th2 (nI pn) (nI tn) (nI wn) w n fd) : MP g n0 H' mo th2 pn tn wn := h.fin hfr hw hm h.2.2.2.2.1
theorem MP.fin6 (h : MP g n0 H mo th pn tn wn) (hfr : FRM (fun q => MR mo q ∨ q = mo + 6) H H') (hA : ∃ f, AI g H' (mo + 6) 96 f) (hw : WH w n) (hm : MS g n0 H' mo th2 (nI pn2) (nI tn2) (nI wn2) w n fd) (hb : pn2 ≤ 16 ∧ tn2 ≤ 96 ∧ wn2 ≤ 96) : MP g n0 H' mo th2 pn2 tn2 wn2 :=
  ⟨⟨w, n, fd, hw, hm⟩, h.2.1.imp (fun f hf => ⟨AJ.off hfr (by unfold MR; omega) hf.1, hf.2⟩), hA, h.2.2.2.1.imp (fun f hf => AI.off hfr (by unfold MR; omega) hf), hb, h.2.2.2.2.2⟩
theorem MP.fin7 (h : MP g n0 H mo th pn tn wn) (hfr : FRM (fun q => MR mo q ∨ q = mo + 7) H H') (hA : ∃ f, AI g H' (mo + 7) 96 f) (hw : WH w n) (hm : MS g n0 H' mo th2 (nI pn2) (nI tn2) (nI wn2) w n fd) (hb : pn2 ≤ 16 ∧ tn2 ≤ 96 ∧ wn2 ≤ 96) : MP g n0 H' mo th2 pn2 tn2 wn2 :=
  ⟨⟨w, n, fd, hw, hm⟩, h.2.1.imp (fun f hf => ⟨AJ.off hfr (by unfold MR; omega) hf.1, hf.2⟩), h.2.2.1.imp (fun f hf => AI.off hfr (by unfold MR; omega) hf), hA, hb, h.2.2.2.2.2⟩
theorem MP.fin8 (h : MP g n0 H mo th pn tn wn) (hfr : FRM (fun q => MR mo q ∨ q = mo + 8) H H') (hA : HO g H' mo) (hw : WH w n) (hm : MS g n0 H' mo th2 (nI pn) (nI tn) (nI wn) w n fd) : MP g n0 H' mo th2 pn tn wn :=
  ⟨⟨w, n, fd, hw, hm⟩, hA, h.2.2.1.imp (fun f hf => AI.off hfr (by unfold MR; omega) hf), h.2.2.2.1.imp (fun f hf => AI.off hfr (by unfold MR; omega) hf), h.2.2.2.2⟩
end MPR