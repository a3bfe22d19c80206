/-- an int as a natural number -/
def nt (x : Int32) : Nat := x.toInt.toNat
theorem nt_nI {k : Nat} (h : k < 2 ^ 31) : nt (nI k) = k := by
  unfold nt
  rw [nI_toInt h]
  exact Int.toNat_natCast k
def fSet (x1 : Int32) (v : Int64) (A : Nat → Int) : Nat → Int := updI A (nt x1) v.toInt
def fPow (x1 x2 : Int32) (v : Int64) (A : Nat → Int) : Nat → Int := updI A (nt x1) (A (nt x2) ^ v.toInt.toNat % RI)
def fUni (x1 x2 : Int32) (A : Nat → Int) : Nat → Int := updI A (nt x1) (7 ^ eU (nt x2) % RI)
def fRec (x1 x2 x3 x4 : Int32) (A : Nat → Int) : Nat → Int := updI A (nt x2) (rkV (nt x1) (A (nt x3)) (A (nt x4)))
def fOpen (x1 x2 x3 x4 : Int32) (A : Nat → Int) : Nat → Int := updI (dvA A (nt x1) (nt x2) (A (nt x3))) (nt x4) (hvS A (nt x1) (A (nt x3)) (nt x2) 0)
def fTr (x1 x2 x3 : Int32) (A : Nat → Int) : Nat → Int := if x3 = 0 then evA A (nt x1) (nt x2) (2 ^ nt x2) else ivA A (nt x1) (nt x2) (2 ^ nt x2)
def fLag (x1 x2 x3 x4 : Int32) (A : Nat → Int) : Nat → Int := updI A (nt x1) ((geS (A (nt x4) * (7 ^ eU (nt x2)) ^ (2 ^ nt x2 - nt x3)) (2 ^ nt x2) 0 * (0 - (eU (nt x2) : Int))) % RI)
theorem pw_red (k i : Nat) : (7 ^ eU k % RI) ^ i % RI = (uW k ^ i) % RI := cg_pow (cg_m _) i
theorem op_dv (B : Nat → Int) (a n : Nat) (Z : Int) : opB B a n Z n = dvA B a n Z := rfl
theorem tr_ev {B : Nat → Int} {a k j : Nat} {bk : Int32} (hb : bk = 0) : trB B a (2 ^ k) k bk (2 ^ k) j = evA B a k (2 ^ k) j := by
  unfold trB evA
  by_cases c : a ≤ j ∧ j < a + 2 ^ k
  · rw [if_pos c, if_pos c]
    unfold trX trV trW
    rw [if_pos hb, if_pos hb]
    exact hv_cg (by rw [cg_m]; exact cg_pow (cg_m _) _) _ _
  · rw [if_neg c, if_neg c]
theorem tr_iv {B : Nat → Int} {a k j : Nat} {bk : Int32} (hk : k < 5) (hb : ¬ bk = 0) : trB B a (2 ^ k) k bk (2 ^ k) j = ivA B a k (2 ^ k) j := by
  unfold trB ivA
  by_cases c : a ≤ j ∧ j < a + 2 ^ k
  · rw [if_pos c, if_pos c]
    unfold trX trV trW
    have h9 := al_bk hk (show j - a < 2 ^ k by omega)
    unfold uW at h9
    rw [if_neg hb, if_neg hb, hv_cg h9]
    refine cg_mul rfl ?_
    rw [cg_m, al_cast, ← al_share hk]
  · rw [if_neg c, if_neg c]
theorem YF_Model_set (l : Launch) (g : WG) (n0 : Nat → Prop) (mo : Nat) (th : Int32) (pn tn wn : Nat) (B : Nat → Int) (a : Int32) (v : Int64) : Ctr l y_Model_set (.code y_Model_set prog_11_method_39_code 4 none) 2 46 0 0 n0 g [.ref mo, .int a, .long v] (fun H => MVP g n0 H mo th pn tn wn B) (QV (fun H H' => (((okS a (nI 1) ∧ ¬ v < 0) ∧ MVP g n0 H' mo 0 pn tn wn (fSet a v B)) ∨ (¬ (okS a (nI 1) ∧ ¬ v < 0) ∧ MVP g n0 H' mo 1 pn tn wn B)))) :=
  (Y_Model_set l g n0 mo th pn tn wn B a v).imp (fun _ h => h) (fun v8 H H' h _ => ⟨h.1, by
    rcases h.2 with ⟨hok, k1, e1, h1, hM⟩ | h2
    · refine Or.inl ⟨hok, ?_⟩
      unfold fSet
      rw [e1, nt_nI (by omega)]
      exact hM
    · exact Or.inr h2⟩)
theorem YF_Model_power (l : Launch) (g : WG) (n0 : Nat → Prop) (mo : Nat) (th : Int32) (pn tn wn : Nat) (B : Nat → Int) (a : Int32) (a2 : Int32) (v : Int64) : Ctr l y_Model_power (.code y_Model_power prog_11_method_42_code 5 none) 4 103 0 0 n0 g [.ref mo, .int a, .int a2, .long v] (fun H => MVP g n0 H mo th pn tn wn B) (QV (fun H H' => (((okS a (nI 1) ∧ okS a2 (nI 1) ∧ ¬ v < 0) ∧ MVP g n0 H' mo 0 pn tn wn (fPow a a2 v B)) ∨ (¬ (okS a (nI 1) ∧ okS a2 (nI 1) ∧ ¬ v < 0) ∧ MVP g n0 H' mo 1 pn tn wn B)))) :=
  (Y_Model_power l g n0 mo th pn tn wn B a a2 v).imp (fun _ h => h) (fun v8 H H' h _ => ⟨h.1, by
    rcases h.2 with ⟨hok, k1, k2, e1, e2, h1, h2, hM⟩ | h2
    · refine Or.inl ⟨hok, ?_⟩
      unfold fPow
      rw [e1, e2, nt_nI (by omega), nt_nI (by omega)]
      exact hM
    · exact Or.inr h2⟩)
theorem YF_Model_unity (l : Launch) (g : WG) (n0 : Nat → Prop) (mo : Nat) (th : Int32) (pn tn wn : Nat) (B : Nat → Int) (a : Int32) (k : Int32) : Ctr l y_Model_unity (.code y_Model_unity prog_11_method_44_code 3 none) 5 125 0 0 n0 g [.ref mo, .int a, .int k] (fun H => MVP g n0 H mo th pn tn wn B) (QV (fun H H' => (((okS a (nI 1) ∧ okC k (nI 0) (nI 32)) ∧ MVP g n0 H' mo 0 pn tn wn (fUni a k B)) ∨ (¬ (okS a (nI 1) ∧ okC k (nI 0) (nI 32)) ∧ MVP g n0 H' mo 1 pn tn wn B)))) :=
  (Y_Model_unity l g n0 mo th pn tn wn B a k).imp (fun _ h => h) (fun v8 H H' h _ => ⟨h.1, by
    rcases h.2 with ⟨hok, k1, k2, e1, e2, h1, h2, hM⟩ | h2
    · refine Or.inl ⟨hok, ?_⟩
      unfold fUni
      rw [e1, e2, nt_nI (by omega), nt_nI (by omega)]
      exact hM
    · exact Or.inr h2⟩)
theorem YF_Model_open (l : Launch) (g : WG) (n0 : Nat → Prop) (mo : Nat) (th : Int32) (pn tn wn : Nat) (B : Nat → Int) (a : Int32) (n : Int32) (z0 : Int32) (y0 : Int32) : Ctr l y_Model_open (.code y_Model_open prog_11_method_57_code 6 none) 4 104 0 0 n0 g [.ref mo, .int a, .int n, .int z0, .int y0] (fun H => MVP g n0 H mo th pn tn wn B) (QV (fun H H' => (((okC n (nI 1) (nI 16) ∧ okS a n ∧ okS z0 (nI 1) ∧ okS y0 (nI 1)) ∧ MVP g n0 H' mo 0 pn tn wn (fOpen a n z0 y0 B)) ∨ (¬ (okC n (nI 1) (nI 16) ∧ okS a n ∧ okS z0 (nI 1) ∧ okS y0 (nI 1)) ∧ MVP g n0 H' mo 1 pn tn wn B)))) :=
  (Y_Model_open l g n0 mo th pn tn wn B a n z0 y0).imp (fun _ h => h) (fun v8 H H' h _ => ⟨h.1, by
    rcases h.2 with ⟨hok, k1, k2, k3, k4, e1, e2, e3, e4, h2, h1, h3, h4, hM⟩ | h2
    · refine Or.inl ⟨hok, ?_⟩
      unfold fOpen
      rw [e1, e2, e3, e4, nt_nI (by omega), nt_nI (by omega), nt_nI (by omega), nt_nI (by omega)]
      exact hM
    · exact Or.inr h2⟩)
theorem YF_Model_transform (l : Launch) (g : WG) (n0 : Nat → Prop) (mo : Nat) (th : Int32) (pn tn wn : Nat) (B : Nat → Int) (a : Int32) (kv : Int32) (bk : Int32) : Ctr l y_Model_transform (.code y_Model_transform prog_11_method_59_code 7 none) 5 125 0 0 n0 g [.ref mo, .int a, .int kv, .int bk] (fun H => MVP g n0 H mo th pn tn wn B) (QV (fun H H' => (((okC kv (nI 0) (nI 4) ∧ okS a (nI 1 <<< ((kv &&& nI 7) &&& 31))) ∧ MVP g n0 H' mo 0 pn tn wn (fTr a kv bk B)) ∨ (¬ (okC kv (nI 0) (nI 4) ∧ okS a (nI 1 <<< ((kv &&& nI 7) &&& 31))) ∧ MVP g n0 H' mo 1 pn tn wn B)))) :=
  (Y_Model_transform l g n0 mo th pn tn wn B a kv bk).imp (fun _ h => h) (fun v8 H H' h _ => ⟨h.1, by
    rcases h.2 with ⟨hok, k1, k2, NN, e1, e2, h2, hN, h1, hM⟩ | h2
    · refine Or.inl ⟨hok, ?_⟩
      have hp := tk3 h2
      unfold fTr
      rw [e1, e2, nt_nI (by omega), nt_nI (by omega)]
      subst hN
      split
      · exact hM.ext (fun k _ => tr_ev (by assumption))
      · exact hM.ext (fun k _ => tr_iv (by omega) (by assumption))
    · exact Or.inr h2⟩)
theorem YF_Model_lagrange (l : Launch) (g : WG) (n0 : Nat → Prop) (mo : Nat) (th : Int32) (pn tn wn : Nat) (B : Nat → Int) (a : Int32) (kv : Int32) (iv : Int32) (z0 : Int32) : Ctr l y_Model_lagrange (.code y_Model_lagrange prog_11_method_60_code 5 none) 5 125 0 0 n0 g [.ref mo, .int a, .int kv, .int iv, .int z0] (fun H => MVP g n0 H mo th pn tn wn B) (QV (fun H H' => (((okS a (nI 1) ∧ okC kv (nI 0) (nI 4) ∧ ((0 : Int64).toInt ≤ iv.toInt64.toInt ∧ iv.toInt64.toInt ≤ ((nI 1 <<< ((kv &&& nI 7) &&& 31)) - nI 1).toInt64.toInt) ∧ okS z0 (nI 1)) ∧ MVP g n0 H' mo 0 pn tn wn (fLag a kv iv z0 B)) ∨ (¬ (okS a (nI 1) ∧ okC kv (nI 0) (nI 4) ∧ ((0 : Int64).toInt ≤ iv.toInt64.toInt ∧ iv.toInt64.toInt ≤ ((nI 1 <<< ((kv &&& nI 7) &&& 31)) - nI 1).toInt64.toInt) ∧ okS z0 (nI 1)) ∧ MVP g n0 H' mo 1 pn tn wn B)))) :=
  (Y_Model_lagrange l g n0 mo th pn tn wn B a kv iv z0).imp (fun _ h => h) (fun v8 H H' h _ => ⟨h.1, by
    rcases h.2 with ⟨hok, k1, k2, k3, k4, e1, e2, e3, e4, h1, h2, h3, h4, hB4, hM⟩ | h2
    · refine Or.inl ⟨hok, ?_⟩
      have hp := tk3 h2
      unfold fLag
      rw [e1, e2, e3, e4, nt_nI (by omega), nt_nI (by omega), nt_nI (by omega), nt_nI (by omega)]
      rw [pw_red] at hM
      rcases hM with ⟨hz, hM⟩ | ⟨hz, hM⟩
      · have e9 := lg_one (show k2 < 5 by omega) h3 hz
        unfold uW at e9
        rw [e9]
        exact hM
      · have e9 := lg_gen (show k2 < 5 by omega) h3 hB4.1 hB4.2 hz
        unfold uW at e9 hM
        rw [e9]
        exact hM
    · exact Or.inr h2⟩)
theorem YF_Model_reckon (l : Launch) (g : WG) (n0 : Nat → Prop) (mo : Nat) (th : Int32) (pn tn wn : Nat) (B : Nat → Int) (w0 : Int32) (a : Int32) (a2 : Int32) (a3 : Int32) : Ctr l y_Model_reckon (.code y_Model_reckon prog_11_method_41_code 5 none) 5 125 0 0 n0 g [.ref mo, .int w0, .int a, .int a2, .int a3] (fun H => MVP g n0 H mo th pn tn wn B) (QV (fun H H' => (((okC w0 (nI 0) (nI 3) ∧ okS a (nI 1) ∧ okS a2 (nI 1) ∧ okS a3 (nI 1)) ∧ ((¬ (nt w0 = 3 ∧ B (nt a3) = 0) ∧ MVP g n0 H' mo 0 pn tn wn (fRec w0 a a2 a3 B)) ∨ ((nt w0 = 3 ∧ B (nt a3) = 0) ∧ MVP g n0 H' mo (nI 2) pn tn wn B))) ∨ (¬ (okC w0 (nI 0) (nI 3) ∧ okS a (nI 1) ∧ okS a2 (nI 1) ∧ okS a3 (nI 1)) ∧ MVP g n0 H' mo 1 pn tn wn B)))) :=
  (Y_Model_reckon l g n0 mo th pn tn wn B w0 a a2 a3).imp (fun _ h => h) (fun v8 H H' h _ => ⟨h.1, by
    rcases h.2 with ⟨hok, k0, k1, k2, k3, e0, e1, e2, e3, h0, h1, h2, h3, hM⟩ | h2
    · refine Or.inl ⟨hok, ?_⟩
      unfold fRec
      rw [e0, e1, e2, e3, nt_nI (by omega), nt_nI (by omega), nt_nI (by omega), nt_nI (by omega)]
      rcases hM with ⟨hz, hM⟩ | ⟨e9, hz, hM⟩
      · exact Or.inl ⟨fun h => hz h.1 h.2, hM⟩
      · exact Or.inr ⟨⟨e9, hz⟩, hM⟩
    · exact Or.inr h2⟩)
theorem YF_Model_word (l : Launch) (g : WG) (n0 : Nat → Prop) (mo : Nat) (th : Int32) (pn tn wn : Nat) (B : Nat → Int) (a : Int32) (kk : Int32) : Ctr l y_Model_word (.code y_Model_word prog_11_method_40_code 6 (some FieldType.long)) 2 44 0 0 n0 g [.ref mo, .int a, .int kk] (fun H => MVP g n0 H mo th pn tn wn B) (QL (fun r H H' => (((okS a (nI 1) ∧ okC kk (nI 0) (nI 7)) ∧ (∃ E : Nat, (E : Int) = B (nt a) ∧ r.toInt = ((E / 2 ^ (32 * nt kk) % 2 ^ 32 : Nat) : Int) ∧ MVP g n0 H' mo 0 pn tn wn B)) ∨ (¬ (okS a (nI 1) ∧ okC kk (nI 0) (nI 7)) ∧ MVP g n0 H' mo 1 pn tn wn B)))) :=
  (Y_Model_word l g n0 mo th pn tn wn B a kk).imp (fun _ h => h) (fun v8 H H' h _ => by
    obtain ⟨r, hr9, h⟩ := h
    refine ⟨r, hr9, ?_⟩
    rcases h with ⟨hok, k1, k2, E, e1, e2, h1, h2, hE, hr, hM⟩ | h2
    · refine Or.inl ⟨hok, ?_⟩
      rw [e1, e2, nt_nI (by omega), nt_nI (by omega)]
      exact ⟨E, hE, hr, hM⟩
    · exact Or.inr h2)
theorem YF_Model_number (l : Launch) (g : WG) (n0 : Nat → Prop) (mo : Nat) (th : Int32) (pn tn wn : Nat) (B : Nat → Int) (a : Int32) (m9 : Nat → Int32) (t : Nat → Nat) (ht : ∀ j, t j < 256) (hmt : ∀ j, j < tn → m9 j = nI (t j)) : Ctr l y_Model_number (.code y_Model_number prog_11_method_38_code 4 (some FieldType.boolean)) 2 44 0 0 n0 g [.ref mo, .int a] (fun H => MVP g n0 H mo th pn tn wn B ∧ AI g H (mo + 6) 96 m9) (QI (fun r H H' => (((okS a (nI 1)) ∧ (∃ B', MVP g n0 H' mo 0 pn 0 wn B' ∧ NC r t tn (nt a) B B')) ∨ (¬ (okS a (nI 1)) ∧ MVP g n0 H' mo 1 pn tn wn B)))) :=
  (Y_Model_number l g n0 mo th pn tn wn B a m9 t ht hmt).imp (fun _ h => h) (fun v8 H H' h _ => by
    obtain ⟨r, hr9, h⟩ := h
    refine ⟨r, hr9, ?_⟩
    rcases h with ⟨hok, k1, B', e1, h1, hM, hN⟩ | h2
    · refine Or.inl ⟨hok, ?_⟩
      rw [e1, nt_nI (by omega)]
      exact ⟨B', hM, hN⟩
    · exact Or.inr h2)
