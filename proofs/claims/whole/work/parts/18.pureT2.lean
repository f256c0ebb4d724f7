/-! how the table is filled -/
def feI (b : Nat → Nat → Int32) (e1 : Nat → Bool) (v1 : Nat → UInt32) (k n : Nat) (e : Nat → Bool) (v : Nat → UInt32) : Prop := okV v ∧ (∀ m, m < n → e (k * 24 + m) = hasEff b k m ∧ (hasEff b k m = true → v (k * 24 + m) = effP b k m)) ∧ ∀ j, (j < k * 24 ∨ k * 24 + n ≤ j) → e j = e1 j ∧ v j = v1 j
theorem feI_0 {b : Nat → Nat → Int32} {e1 : Nat → Bool} {v1 : Nat → UInt32} {k : Nat} (ov : okV v1) : feI b e1 v1 k 0 e1 v1 := ⟨ov, fun m h => absurd h (Nat.not_lt_zero m), fun _ _ => ⟨rfl, rfl⟩⟩
theorem okV_upd {v : Nat → UInt32} (h : okV v) {i : Nat} {y : UInt32} (hy : okF y) : okV (vf_upd v i y) := by
  intro j hj
  unfold vf_upd
  split
  · exact hy
  · exact h j hj
theorem feI_put {b : Nat → Nat → Int32} {e1 : Nat → Bool} {v1 : Nat → UInt32} {k n : Nat} {e : Nat → Bool} {v : Nat → UInt32} (hB : bWF b) (hk : k < 12) (hn : n < 24) (h : feI b e1 v1 k n e v) (hh : hasEff b k n = true) : feI b e1 v1 k (n + 1) (va_up e (k * 24 + n) true) (vf_upd v (k * 24 + n) (effP b k n)) := by
  obtain ⟨h1, h2, h3⟩ := h
  refine ⟨okV_upd h1 (ok_eff hB hk hn), fun m hm => ?_, fun j hj => ?_⟩
  · unfold va_up vf_upd
    by_cases e : m = n
    · subst e
      rw [if_pos rfl, if_pos rfl]
      exact ⟨hh.symm, fun _ => rfl⟩
    · rw [if_neg (by omega), if_neg (by omega)]
      exact h2 m (by omega)
  · unfold va_up vf_upd
    rw [if_neg (by omega), if_neg (by omega)]
    exact h3 j (by omega)
theorem feI_rem {b : Nat → Nat → Int32} {e1 : Nat → Bool} {v1 : Nat → UInt32} {k n : Nat} {e : Nat → Bool} {v : Nat → UInt32} (h : feI b e1 v1 k n e v) (hh : hasEff b k n = false) : feI b e1 v1 k (n + 1) (va_up e (k * 24 + n) false) v := by
  obtain ⟨h1, h2, h3⟩ := h
  refine ⟨h1, fun m hm => ?_, fun j hj => ?_⟩
  · unfold va_up
    by_cases e : m = n
    · subst e
      rw [if_pos rfl]
      exact ⟨hh.symm, fun q => by rw [hh] at q; cases q⟩
    · rw [if_neg (by omega)]
      exact h2 m (by omega)
  · unfold va_up
    rw [if_neg (by omega)]
    exact h3 j (by omega)
/-- one cell of the known prices -/
def fkB (e1 e2 : Nat → Bool) (k mo : Nat) : Bool := e1 (k * 24 + mo) || (decide (0 < mo) && e2 (k * 24 + (mo - 1)))
def fkE (e1 e2 : Nat → Bool) (k mo : Nat) : Nat → Bool := va_up e2 (k * 24 + mo) (fkB e1 e2 k mo)
def fkV (e1 e2 : Nat → Bool) (v1 v2 : Nat → UInt32) (k mo : Nat) (y : UInt32) : Nat → UInt32 := if e1 (k * 24 + mo) then vf_upd v2 (k * 24 + mo) (v1 (k * 24 + mo)) else if fkB e1 e2 k mo then vf_upd v2 (k * 24 + mo) (cTimes (v2 (k * 24 + (mo - 1))) y) else v2
theorem ok_fkV {e1 e2 : Nat → Bool} {v1 v2 : Nat → UInt32} {k mo : Nat} {y : UInt32} (h1 : okV v1) (h2 : okV v2) (hy : okF y) (hk : k < 12) (hm : mo < 24) : okV (fkV e1 e2 v1 v2 k mo y) := by
  unfold fkV
  split
  · exact okV_upd h2 (h1 _ (by omega))
  · split
    · exact okV_upd h2 (ok_times (h2 _ (by omega)) hy)
    · exact h2
theorem fk_out {e1 e2 : Nat → Bool} {v1 v2 : Nat → UInt32} {k mo : Nat} {y : UInt32} {j : Nat} (hj : j ≠ k * 24 + mo) : fkE e1 e2 k mo j = e2 j ∧ fkV e1 e2 v1 v2 k mo y j = v2 j := by
  refine ⟨by unfold fkE va_up; rw [if_neg hj], ?_⟩
  unfold fkV
  split
  · unfold vf_upd; rw [if_neg hj]
  · split
    · unfold vf_upd; rw [if_neg hj]
    · rfl
def mvI (b : Nat → Nat → Int32) (e1 : Nat → Bool) (v1 : Nat → UInt32) (q i : Nat) : UInt32 := if i = 0 then FP.fconst1 else movC b e1 v1 (nI q) (i - 1) i
theorem ok_mvI {b : Nat → Nat → Int32} (hB : bWF b) {e1 : Nat → Bool} {v1 : Nat → UInt32} {q i : Nat} (hv : okV v1) (hi : i < 24) : okF (mvI b e1 v1 q i) := by
  unfold mvI
  split
  · exact ok_1
  · exact ok_mov hB hv (by omega) hi
def fkI (b : Nat → Nat → Int32) (q : Nat) (e2 : Nat → Bool) (v2 : Nat → UInt32) (i j : Nat) (e : Nat → Bool) (v : Nat → UInt32) : Prop := okV v ∧ (∀ k, k < itN b → b 2 k = nI q → ∀ m, (m < i ∨ (m = i ∧ k < j)) → kOK b e v k m) ∧ ∀ k, k < 12 → b 2 k ≠ nI q → ∀ m, m < 24 → e (k * 24 + m) = e2 (k * 24 + m) ∧ v (k * 24 + m) = v2 (k * 24 + m)
theorem fkI_0 {b : Nat → Nat → Int32} {q : Nat} {e2 : Nat → Bool} {v2 : Nat → UInt32} (ov : okV v2) : fkI b q e2 v2 0 0 e2 v2 := ⟨ov, fun k _ _ m h => absurd h (by omega), fun _ _ _ _ _ => ⟨rfl, rfl⟩⟩
theorem fkI_end {b : Nat → Nat → Int32} {q : Nat} {e2 : Nat → Bool} {v2 : Nat → UInt32} {i : Nat} {e : Nat → Bool} {v : Nat → UInt32} (h : fkI b q e2 v2 i (itN b) e v) : fkI b q e2 v2 (i + 1) 0 e v := ⟨h.1, fun k hk hq m hm => h.2.1 k hk hq m (by omega), h.2.2⟩
theorem fkI_skip {b : Nat → Nat → Int32} {q : Nat} {e2 : Nat → Bool} {v2 : Nat → UInt32} {i j : Nat} {e : Nat → Bool} {v : Nat → UInt32} (h : fkI b q e2 v2 i j e v) (hj : b 2 j ≠ nI q) : fkI b q e2 v2 i (j + 1) e v := ⟨h.1, fun k hk hq m hm => h.2.1 k hk hq m (by
    rcases hm with hm | ⟨hm, hkj⟩
    · exact Or.inl hm
    · refine Or.inr ⟨hm, ?_⟩
      rcases Nat.lt_or_ge k j with g | g
      · exact g
      · have : k = j := by omega
        subst this
        exact absurd hq hj), h.2.2⟩
theorem fkI_cell {b : Nat → Nat → Int32} {q : Nat} {e1 e2 : Nat → Bool} {v1 v2 : Nat → UInt32} {i j : Nat} {e : Nat → Bool} {v : Nat → UInt32} (hB : bWF b) (ov1 : okV v1) (hE : eOK b e1 v1 (itN b)) (hi : i < 24) (hjn : j < itN b) (h : fkI b q e2 v2 i j e v) (hj : b 2 j = nI q) : fkI b q e2 v2 i (j + 1) (fkE e1 e j i) (fkV e1 e v1 v j i (mvI b e1 v1 q i)) := by
  have h12 := hB.1.2
  obtain ⟨h1, h2, h3⟩ := h
  obtain ⟨a1, a2⟩ := hE j hjn i hi
  refine ⟨ok_fkV ov1 h1 (ok_mvI hB ov1 hi) (by omega) hi, fun k hk hq m hm => ?_, fun k hk hq m hm => ?_⟩
  · by_cases hc : k = j ∧ m = i
    · obtain ⟨rfl, rfl⟩ := hc
      have bb : fkB e1 e k m = knE b k m := by
        unfold fkB
        rw [a1]
        cases m with
        | zero => simp [knE]
        | succ m =>
          rw [show m + 1 - 1 = m by omega, (h2 k hk hq m (Or.inl (by omega))).1]
          simp [knE]
      refine ⟨by unfold fkE va_up; rw [if_pos rfl]; exact bb, fun hkn => ?_⟩
      unfold fkV
      rw [a1]
      by_cases he : hasEff b k m = true
      · rw [if_pos he]
        unfold vf_upd
        rw [if_pos rfl, a2 he]
        cases m with
        | zero => rfl
        | succ m => simp [knV, he]
      · rw [if_neg he, bb, if_pos hkn]
        unfold vf_upd
        rw [if_pos rfl]
        cases m with
        | zero => exact absurd hkn he
        | succ m =>
          have hkm : knE b k m = true := by simpa [knE, he] using hkn
          rw [show m + 1 - 1 = m by omega, (h2 k hk hq m (Or.inl (by omega))).2 hkm]
          unfold mvI
          rw [if_neg (by omega), show m + 1 - 1 = m by omega, mov_eOK hE (by omega) (by omega), knV, if_neg he, hq]
    · have hne : k * 24 + m ≠ j * 24 + i := by
        intro e0
        exact hc ⟨by omega, by omega⟩
      obtain ⟨o1, o2⟩ := fk_out (e1 := e1) (e2 := e) (v1 := v1) (v2 := v) (y := mvI b e1 v1 q i) hne
      have hold := h2 k hk hq m (by
        rcases hm with g | ⟨g1, g2⟩
        · exact Or.inl g
        · exact Or.inr ⟨g1, by
            rcases Nat.lt_or_ge k j with g | g
            · exact g
            · exact absurd ⟨by omega, g1⟩ hc⟩)
      unfold kOK
      rw [o1, o2]
      exact hold
  · have hne : k * 24 + m ≠ j * 24 + i := by
      intro e0
      have : k = j := by omega
      subst this
      exact hq hj
    obtain ⟨o1, o2⟩ := fk_out (e1 := e1) (e2 := e) (v1 := v1) (v2 := v) (y := mvI b e1 v1 q i) hne
    rw [o1, o2]
    exact h3 k hk hq m hm
/-- all items so far have their effective prices -/
theorem eOK_step {b : Nat → Nat → Int32} {i : Nat} {e e' : Nat → Bool} {v v' : Nat → UInt32} (h : eOK b e v i) (hf : feI b e v i 24 e' v') : eOK b e' v' (i + 1) := by
  intro k hk m hm
  rcases Nat.lt_or_ge k i with g | g
  · obtain ⟨o1, o2⟩ := hf.2.2 (k * 24 + m) (Or.inl (by omega))
    rw [o1, o2]
    exact h k g m hm
  · have : k = i := by omega
    subst this
    exact hf.2.1 m hm
def ksI (b : Nat → Nat → Int32) (i : Nat) (e : Nat → Bool) (v : Nat → UInt32) : Prop := okV v ∧ ∀ k, k < itN b → (∃ q, q < i ∧ b 2 k = nI q) → ∀ m, m < 24 → kOK b e v k m
theorem ksI_0 {b : Nat → Nat → Int32} {e : Nat → Bool} {v : Nat → UInt32} (ov : okV v) : ksI b 0 e v := ⟨ov, fun _ _ ⟨q, h, _⟩ => absurd h (Nat.not_lt_zero q)⟩
theorem ksI_step {b : Nat → Nat → Int32} {i : Nat} {e e' : Nat → Bool} {v v' : Nat → UInt32} (hB : bWF b) (hi : i < 4) (h : ksI b i e v) (hf : fkI b i e v 24 0 e' v') : ksI b (i + 1) e' v' := by
  have h12 := hB.1.2
  refine ⟨hf.1, fun k hk ⟨q, hq, hbq⟩ m hm => ?_⟩
  by_cases hqi : q = i
  · subst hqi
    exact hf.2.1 k hk hbq m (Or.inl hm)
  · have hne : b 2 k ≠ nI i := by
      rw [hbq]
      intro e0
      exact hqi ((nI_eq (by omega) (by omega)).mp e0)
    obtain ⟨o1, o2⟩ := hf.2.2 k (by omega) hne m hm
    unfold kOK
    rw [o1, o2]
    exact h.2 k hk ⟨q, by omega, hbq⟩ m hm
theorem ksI_end {b : Nat → Nat → Int32} {e1 e : Nat → Bool} {v1 v : Nat → UInt32} (hB : bWF b) (hE : eOK b e1 v1 (itN b)) (h : ksI b 4 e v) : tOK b e1 v1 e v := ⟨hE, fun k hk m hm => h.2 k hk (hB.2.2.2.2.2.2 k hk) m hm⟩
