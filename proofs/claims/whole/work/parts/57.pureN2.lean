theorem rdE_0 {c : Nat → Nat} {it : Nat} : rdE c 0 it = (false, 0) := by
  have h0 : nEnd c 0 0 = 0 := by have := nEnd_le (c := c) (L := 0) (p := 0) (Nat.le_refl 0); omega
  have hk : kA c 0 it 0 = false := by
    unfold kA nOk nFm
    rw [h0]
    rfl
  have hq : qOk c 0 it 0 = false := by simp [qOk, hk]
  have hp : qPos c 0 it 0 = 0 := by
    have := qPos_le (c := c) (L := 0) (it := it) (p := 0) (Nat.le_refl 0)
    omega
  have h := rdI_bad (c := c) (L := 0) (it := it) (n := 0) rdI_0 (by omega) hq
  rw [h]
  show (false, qPos c 0 it 0) = (false, 0)
  rw [hp]
/-- the reference's reader at its loop's head, with n quotations read -/
def rmI (c : Nat → Nat) (ty it n : Nat) (qu : Nat → Int32) : Prop := quI c ty it n qu ∧ (∀ k, k < n → qOk c ty it (psn c ty it k) = true) ∧ psn c ty it n ≤ ty ∧ 6 * n ≤ psn c ty it n ∧ (psn c ty it n < ty → rdI c ty it n) ∧ (¬ psn c ty it n < ty → rdE c ty it = (true, n) ∧ 0 < n)
theorem rmI_0 {c : Nat → Nat} {ty it : Nat} {qu : Nat → Int32} (h : 0 < ty) : rmI c ty it 0 qu := ⟨fun k h => absurd h (Nat.not_lt_zero k), fun k h => absurd h (Nat.not_lt_zero k), Nat.zero_le ty, Nat.le_refl 0, fun _ => rdI_0, fun q => absurd h q⟩
theorem rmI_step {c : Nat → Nat} {ty it n : Nat} {qu : Nat → Int32} (hL : ty ≤ 60) (h : rmI c ty it n qu) (hp : psn c ty it n < ty) (hq : qOk c ty it (psn c ty it n) = true) : rmI c ty it (n + 1) (upd (upd (upd qu (3 * n) (nI (qi c ty it (psn c ty it n)))) (3 * n + 1) (nI (qm c ty it (psn c ty it n)))) (3 * n + 2) (nI (qp c ty it (psn c ty it n)))) := by
  obtain ⟨h1, h2, h3, h4, h5, h6⟩ := h
  have hr := h5 hp
  have hn := rdI_lt hL hr hp
  obtain ⟨e1, e2⟩ := qOk_pos hq
  refine ⟨quI_step h1, fun k hk => ?_, qPos_le h3, by show 6 * (n + 1) ≤ qPos c ty it (psn c ty it n); omega, fun q => rdI_step hL hr hn hq (by show ¬ ty ≤ psn c ty it (n + 1); omega), fun q => ⟨(rdI_end hr hn hq (by show ty ≤ psn c ty it (n + 1); omega)).1, by omega⟩⟩
  by_cases e : k = n
  · subst e; exact hq
  · exact h2 k (by omega)
theorem qPos_A {c : Nat → Nat} {L it p : Nat} (a : kA c L it p = false) : qOk c L it p = false ∧ qPos c L it p = qA c L it p := ⟨by simp [qOk, a], by simp [qPos, a]⟩
theorem qPos_B {c : Nat → Nat} {L it p : Nat} (a : kA c L it p = true) (b : kB c L it p = false) : qOk c L it p = false ∧ qPos c L it p = qB c L it p := ⟨by simp [qOk, b], by simp [qPos, a, b]⟩
theorem qPos_C {c : Nat → Nat} {L it p : Nat} (a : kA c L it p = true) (b : kB c L it p = true) (d : kC c L it p = false) : qOk c L it p = false ∧ qPos c L it p = qC c L it p := ⟨by simp [qOk, d], by simp [qPos, a, b, d]⟩
theorem qPos_D {c : Nat → Nat} {L it p : Nat} (a : kA c L it p = true) (b : kB c L it p = true) (d : kC c L it p = true) (e : kD c L it p = false) : qOk c L it p = false ∧ qPos c L it p = qD c L it p := ⟨by simp [qOk, e], by simp [qPos, a, b, d, e]⟩
theorem qPos_E {c : Nat → Nat} {L it p : Nat} (a : kA c L it p = true) (b : kB c L it p = true) (d : kC c L it p = true) (e : kD c L it p = true) (f : kE c L it p = false) : qOk c L it p = false ∧ qPos c L it p = qE c L it p := ⟨by simp [qOk, f], by simp [qPos, a, b, d, e, f]⟩
theorem qPos_F {c : Nat → Nat} {L it p : Nat} (a : kA c L it p = true) (b : kB c L it p = true) (d : kC c L it p = true) (e : kD c L it p = true) (f : kE c L it p = true) (g : kF c L it p = false) : qOk c L it p = false ∧ qPos c L it p = qF c L it p := ⟨by simp [qOk, g], by simp [qPos, a, b, d, e, f]⟩
/-- how the reference's reading ends -/
def rmQ (c : Nat → Nat) (ty it : Nat) (r : Int32) (aw : Nat) (iw : Bool) (qu : Nat → Int32) : Prop := iw = !(rdE c ty it).1 ∧ ((rdE c ty it).1 = false → aw = (rdE c ty it).2) ∧ ((rdE c ty it).1 = true → r = nI (rdE c ty it).2 ∧ (∀ k, k < (rdE c ty it).2 → qOk c ty it (psn c ty it k) = true) ∧ (rdE c ty it).2 ≤ 10 ∧ quI c ty it (rdE c ty it).2 qu)
theorem rmQ_bad {c : Nat → Nat} {ty it q : Nat} {r : Int32} {qu : Nat → Int32} (h : rdE c ty it = (false, q)) : rmQ c ty it r q true qu := by
  unfold rmQ
  rw [h]
  exact ⟨rfl, fun _ => rfl, fun z => by cases z⟩
theorem rmQ_ok {c : Nat → Nat} {ty it n aw : Nat} {qu : Nat → Int32} (hL : ty ≤ 60) (h : rmI c ty it n qu) (hp : ¬ psn c ty it n < ty) : rmQ c ty it (nI n) aw false qu := by
  obtain ⟨h1, h2, h3, h4, h5, h6⟩ := h
  obtain ⟨e1, e2⟩ := h6 hp
  unfold rmQ
  rw [e1]
  exact ⟨rfl, fun z => (by cases z), fun _ => ⟨rfl, h2, (by show n ≤ 10; omega), h1⟩⟩
