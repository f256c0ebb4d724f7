/-! the component's text -/
def xtc (G : GG) (tx : Nat → Nat) (L pz : Nat) (ri rm rp ch : Nat → Int32) : va_W := [(tx 0, .inr (4, [.ref (tx 1), .ref (tx 2), .ref (tx 3), .int (nI L), .ref (tx 4), .int (nI pz)])), (tx 1, .inl (G.2 0, 10, .inl ri)), (tx 2, .inl (G.2 0, 10, .inl rm)), (tx 3, .inl (G.2 0, 10, .inl rp)), (tx 4, .inl (G.2 0, 60, .inl ch))]
def chI (ch : Nat → Int32) (c : Nat → Nat) (L : Nat) : Prop := ∀ j, j < L → ch j = nI (c j) ∧ c j < 256
theorem nV_step {c : Nat → Nat} {p i v : Nat} (hp : p ≤ i) (hv : v = nVal c p (min (i - p) 5)) (h5 : i - p < 5) : v * 10 + (c i - 48) = nVal c p (min (i + 1 - p) 5) := by
  rw [hv, show min (i + 1 - p) 5 = (min (i - p) 5) + 1 by omega, nVal, show p + min (i - p) 5 = i by omega]
theorem nV_keep {c : Nat → Nat} {p i v : Nat} (hv : v = nVal c p (min (i - p) 5)) (h5 : 5 ≤ i - p) : v = nVal c p (min (i + 1 - p) 5) := by
  rw [hv, show min (i + 1 - p) 5 = min (i - p) 5 by omega]
theorem dg_step {c : Nat → Nat} {p i : Nat} (h : ∀ j, p ≤ j → j < i → isDg (c j) = true) (hi : isDg (c i) = true) : ∀ j, p ≤ j → j < i + 1 → isDg (c j) = true := by
  intro j h1 h2
  by_cases e : j = i
  · subst e; exact hi
  · exact h j h1 (by omega)
theorem isDg_48 {c : Nat} (h : isDg c = true) : 48 ≤ c := by
  unfold isDg at h
  simp only [Bool.and_eq_true, decide_eq_true_eq] at h
  exact h.1
theorem rdO_0 {c : Nat → Nat} {L it n p : Nat} : rdO c L it 0 n p = (false, p) := rfl
theorem rdI_ten {c : Nat → Nat} {L it : Nat} (h : rdI c L it 10) : rdE c L it = (false, psn c L it 10) := by
  have h1 := h.1
  rw [show 10 - 10 = 0 from rfl, rdO_0] at h1
  exact h1.symm
theorem rdF_bad {c : Nat → Nat} {L it q : Nat} (h : rdE c L it = (false, q)) : (-10) - nI q = rdF c L it := by
  unfold rdF
  rw [h]
  rfl
