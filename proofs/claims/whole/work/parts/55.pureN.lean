/-! the reference's text: bytes -/
def tbI (tb : Nat → Int32) (c : Nat → Nat) (ty : Nat) : Prop := ∀ j, j < ty → tb j = sb_b (c j) ∧ c j < 256
theorem dgB : ∀ c, c < 256 → inR (sb_b c) (nI 48) (nI 57) = isDg c := by decide +kernel
theorem sbB_eq : ∀ c, c < 256 → ∀ q, q < 128 → (sb_b c = nI q ↔ c = q) := by decide +kernel
theorem sbB_dig {c : Nat} (h : isDg c = true) : sb_b c = nI c := by
  unfold isDg at h
  simp only [Bool.and_eq_true, decide_eq_true_eq] at h
  exact (sbB_eq c (by omega) c (by omega)).mpr rfl
theorem nV_step2 {c : Nat → Nat} {p i v : Nat} (hp : p ≤ i) (hv : v = nVal c p (min (i - p) 5)) (h5 : i - p < 5) (h48 : 48 ≤ c i) : 10 * v + c i - 48 = nVal c p (min (i + 1 - p) 5) := by
  rw [← nV_step hp hv h5]
  omega
/-- the prices that a text tells, put one after the other into the reference's row -/
def impA (c : Nat → Nat) (L it : Nat) (a : Nat → Int32) : Nat → Nat → Int32
  | 0 => a
  | n + 1 => upd (impA c L it a n) (66 + 24 * qi c L it (psn c L it n) + qm c L it (psn c L it n)) (nI (qp c L it (psn c L it n)))
/-- what the reference's row of quotations holds -/
def quI (c : Nat → Nat) (L it n : Nat) (qu : Nat → Int32) : Prop := ∀ k, k < n → qu (3 * k) = nI (qi c L it (psn c L it k)) ∧ qu (3 * k + 1) = nI (qm c L it (psn c L it k)) ∧ qu (3 * k + 2) = nI (qp c L it (psn c L it k))
theorem quI_step {c : Nat → Nat} {L it n : Nat} {qu : Nat → Int32} (h : quI c L it n qu) : quI c L it (n + 1) (upd (upd (upd qu (3 * n) (nI (qi c L it (psn c L it n)))) (3 * n + 1) (nI (qm c L it (psn c L it n)))) (3 * n + 2) (nI (qp c L it (psn c L it n)))) := by
  intro k hk
  unfold upd
  by_cases e : k = n
  · subst e
    refine ⟨?_, ?_, ?_⟩
    · rw [if_neg (by omega), if_neg (by omega), if_pos rfl]
    · rw [if_neg (by omega), if_pos rfl]
    · rw [if_pos rfl]
  · obtain ⟨a, b, d⟩ := h k (by omega)
    refine ⟨?_, ?_, ?_⟩
    · rw [if_neg (by omega), if_neg (by omega), if_neg (by omega)]; exact a
    · rw [if_neg (by omega), if_neg (by omega), if_neg (by omega)]; exact b
    · rw [if_neg (by omega), if_neg (by omega), if_neg (by omega)]; exact d
