/-! imports -/
def mkx (L pz : Nat) (ri rm rp ch : Nat → Int32) : Nat → Nat → Int32 := fun r => match r with
  | 0 => fun j => if j = 0 then nI L else nI pz
  | 1 => ri
  | 2 => rm
  | 3 => rp
  | _ => ch
theorem rdO_le {c : Nat → Nat} {L it : Nat} (hL : L ≤ 60) : ∀ {f n p : Nat}, p ≤ L → n + f ≤ 10 → (rdO c L it f n p).2 ≤ 60
  | 0, n, p, h1, _ => by show p ≤ 60; omega
  | f + 1, n, p, h1, h2 => by
    have h3 := qPos_le (c := c) (it := it) h1
    unfold rdO
    split
    · split
      · show n + 1 ≤ 60; omega
      · exact rdO_le hL h3 (by omega)
    · show qPos c L it p ≤ 60; omega
theorem rdE_le {c : Nat → Nat} {L it : Nat} (hL : L ≤ 60) : (rdE c L it).2 ≤ 60 := rdO_le hL (Nat.zero_le L) (Nat.le_refl 10)
theorem rdF_pos {c : Nat → Nat} {L it : Nat} (hL : L ≤ 60) (h : 0 ≤ rdF c L it) : (rdE c L it).1 = true ∧ rdF c L it = nI (rdE c L it).2 := by
  have h1 := rdE_le (c := c) (it := it) hL
  unfold rdF at h ⊢
  cases hb : (rdE c L it).1
  · rw [hb] at h
    have h2 : (0 : Int32) ≤ (-10) - nI (rdE c L it).2 := h
    exfalso
    have h3 : ∀ q, q ≤ 60 → ¬ (0 : Int32) ≤ (-10) - nI q := by decide
    exact h3 _ h1 h2
  · exact ⟨rfl, rfl⟩
theorem rdF_neg {c : Nat → Nat} {L it : Nat} (hL : L ≤ 60) (h : ¬ 0 ≤ rdF c L it) : (rdE c L it).1 = false := by
  have h1 := rdE_le (c := c) (it := it) hL
  unfold rdF at h
  cases hb : (rdE c L it).1
  · rfl
  · rw [hb] at h
    exact absurd (nI_pos' (by omega)) h
/-- the prices that a text tells, put one after the other -/
def impB (c : Nat → Nat) (L it : Nat) (b : Nat → Nat → Int32) : Nat → Nat → Nat → Int32
  | 0 => b
  | n + 1 => bPut (impB c L it b n) 8 (qi c L it (psn c L it n) * 24 + qm c L it (psn c L it n)) (nI (qp c L it (psn c L it n)))
def fAP (L : Nat) (y : Int32) : Int32 := if inR y (nI 0) (nI 255) then (if L < 60 then nI (L + 1) else -3) else -1
def eAP (L : Nat) (y : Int32) : Bool := inR y (nI 0) (nI 255) && decide (L < 60)
theorem impB_row {c : Nat → Nat} {L it : Nat} {b : Nat → Nat → Int32} {r : Nat} (hr : r ≠ 8) : ∀ n, impB c L it b n r = b r
  | 0 => rfl
  | n + 1 => by rw [impB, bPut_row hr, impB_row hr n]
