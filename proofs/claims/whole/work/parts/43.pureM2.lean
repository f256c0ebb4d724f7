/-! the reference's edits -/
theorem sh_step {pa q1 : Nat → Int32} {i : Nat} (h : ∀ j, q1 j = if j < i then pa (j + 354) else pa j) : ∀ j, upd q1 i (q1 (i + 354)) j = if j < i + 1 then pa (j + 354) else pa j := by
  intro j
  unfold upd
  by_cases e : j = i
  · subst e
    rw [if_pos rfl, h, if_neg (by omega), if_pos (by omega)]
  · rw [if_neg e, h]
    by_cases g : j < i
    · rw [if_pos g, if_pos (by omega)]
    · rw [if_neg g, if_neg (by omega)]
theorem pu_step {b0 a q2 : Nat → Int32} {n i : Nat} (h : ∀ j, q2 j = if 354 * n ≤ j ∧ j < 354 * n + i then a (j - 354 * n) else b0 j) : ∀ j, upd q2 (354 * n + i) (a i) j = if 354 * n ≤ j ∧ j < 354 * n + (i + 1) then a (j - 354 * n) else b0 j := by
  intro j
  unfold upd
  by_cases e : j = 354 * n + i
  · subst e
    rw [if_pos rfl, if_pos (by omega)]
    congr 1
    omega
  · rw [if_neg e, h]
    by_cases g : 354 * n ≤ j ∧ j < 354 * n + i
    · rw [if_pos g, if_pos (by omega)]
    · rw [if_neg g, if_neg (by omega)]
theorem un_step {pa a q1 : Nat → Int32} {n i : Nat} (h : ∀ j, q1 j = if j < i then pa (354 * n + j) else a j) : ∀ j, upd q1 i (pa (354 * n + i)) j = if j < i + 1 then pa (354 * n + j) else a j := by
  intro j
  unfold upd
  by_cases e : j = i
  · subst e
    rw [if_pos rfl, if_pos (by omega)]
  · rw [if_neg e, h]
    by_cases g : j < i
    · rw [if_pos g, if_pos (by omega)]
    · rw [if_neg g, if_neg (by omega)]
theorem edP_8 {pa a q1 q2 : Nat → Int32} {np : Nat} (hn : np = 8) (h1 : ∀ j, q1 j = if j < 2478 then pa (j + 354) else pa j) (h2 : ∀ j, q2 j = if 354 * (np - 1) ≤ j ∧ j < 354 * (np - 1) + 354 then a (j - 354 * (np - 1)) else q1 j) : edP pa a np = q2 := by
  subst hn
  funext j
  unfold edP puP shP
  rw [if_pos rfl, h2, h1]
theorem edP_n {pa a q2 : Nat → Int32} {np : Nat} (hn : np ≠ 8) (h2 : ∀ j, q2 j = if 354 * np ≤ j ∧ j < 354 * np + 354 then a (j - 354 * np) else pa j) : edP pa a np = q2 := by
  funext j
  unfold edP puP
  rw [if_neg hn, h2]
theorem unP_eq {pa a q1 : Nat → Int32} {n : Nat} (h : ∀ j, q1 j = if j < 354 then pa (354 * n + j) else a j) : unP pa n a = q1 := by
  funext j
  unfold unP
  rw [h]
def mAPf (ty : Nat) (x : Int32) : Int32 := if inR x (nI 0) (nI 255) then (if ty = 60 then -3 else nI (ty + 1)) else -1
def mAPe (ty : Nat) (x : Int32) : Bool := inR x (nI 0) (nI 255) && !decide (ty = 60)
def mSFf (a : Nat → Int32) (x : Int32) : Int32 := if sfOK x then a 4 else -1
