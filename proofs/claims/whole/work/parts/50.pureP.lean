/-! reading quotations: c the characters' codes, L the text's length -/
def isDg (c : Nat) : Bool := decide (48 ≤ c) && decide (c ≤ 57)
def dEn (c : Nat → Nat) (L : Nat) : Nat → Nat → Nat
  | 0, p => p
  | n + 1, p => if decide (p < L) && isDg (c p) then dEn c L n (p + 1) else p
def nEnd (c : Nat → Nat) (L p : Nat) : Nat := dEn c L (L - p) p
theorem dEn_eq {c : Nat → Nat} {L : Nat} : ∀ {n p i : Nat}, p ≤ i → i ≤ L → L - p = n → (∀ j, p ≤ j → j < i → isDg (c j) = true) → (i = L ∨ isDg (c i) = false) → dEn c L n p = i
  | 0, p, i, h1, h2, h3, h4, h5 => by
    show p = i
    omega
  | n + 1, p, i, h1, h2, h3, h4, h5 => by
    unfold dEn
    by_cases e : p = i
    · subst e
      rcases h5 with h5 | h5
      · exact absurd h3 (by omega)
      · rw [h5]; simp
    · rw [if_pos (by rw [h4 p (Nat.le_refl p) (by omega)]; simp; omega)]
      exact dEn_eq (by omega) h2 (by omega) (fun j a b => h4 j (by omega) b) h5
theorem nEnd_eq {c : Nat → Nat} {L p i : Nat} (h1 : p ≤ i) (h2 : i ≤ L) (h4 : ∀ j, p ≤ j → j < i → isDg (c j) = true) (h5 : i = L ∨ isDg (c i) = false) : nEnd c L p = i := dEn_eq h1 h2 rfl h4 h5
theorem dEn_le {c : Nat → Nat} {L : Nat} : ∀ {n p : Nat}, p ≤ L → p ≤ dEn c L n p ∧ dEn c L n p ≤ L
  | 0, p, h => ⟨Nat.le_refl p, h⟩
  | n + 1, p, h => by
    unfold dEn
    split
    · rename_i q
      simp only [Bool.and_eq_true, decide_eq_true_eq] at q
      obtain ⟨g1, g2⟩ := dEn_le (c := c) (L := L) (n := n) (p := p + 1) (by omega)
      exact ⟨by omega, g2⟩
    · exact ⟨Nat.le_refl p, h⟩
theorem nEnd_le {c : Nat → Nat} {L p : Nat} (h : p ≤ L) : p ≤ nEnd c L p ∧ nEnd c L p ≤ L := dEn_le h
def nVal (c : Nat → Nat) (p : Nat) : Nat → Nat
  | 0 => 0
  | n + 1 => nVal c p n * 10 + (c (p + n) - 48)
theorem nVal_lt {c : Nat → Nat} {p : Nat} : ∀ {n : Nat}, (∀ j, j < n → c (p + j) ≤ 57) → nVal c p n < 10 ^ n
  | 0, _ => by show 0 < 1; decide
  | n + 1, h => by
    have h1 := nVal_lt (c := c) (p := p) (n := n) (fun j hj => h j (by omega))
    have h2 := h n (by omega)
    unfold nVal
    rw [Nat.pow_succ]
    omega
def nV (c : Nat → Nat) (L p : Nat) : Nat := nVal c p (min (nEnd c L p - p) 5)
def nFm (c : Nat → Nat) (p n : Nat) : Bool := decide (n = 1) || (decide (1 < n) && decide (n ≤ 5) && !decide (c p = 48))
def nOk (c : Nat → Nat) (L : Nat) (g : Int32) (p : Nat) : Bool := nFm c p (nEnd c L p - p) && !decide (g < nI (nV c L p))
def rnP (c : Nat → Nat) (L : Nat) (g : Int32) (p : Nat) : Nat := cond (nOk c L g p) (nEnd c L p) p
def rnV (c : Nat → Nat) (L : Nat) (g : Int32) (p : Nat) : Int32 := cond (nOk c L g p) (nI (nV c L p)) (-1)
def skp (c : Nat → Nat) (L e p : Nat) : Bool := decide (p < L) && decide (c p = e)
def skP (c : Nat → Nat) (L e p : Nat) : Nat := cond (skp c L e p) (p + 1) p
theorem rnP_le {c : Nat → Nat} {L : Nat} {g : Int32} {p : Nat} (h : p ≤ L) : p ≤ rnP c L g p ∧ rnP c L g p ≤ L := by
  unfold rnP
  cases nOk c L g p
  · exact ⟨Nat.le_refl p, h⟩
  · exact nEnd_le h
theorem skP_le {c : Nat → Nat} {L e p : Nat} (h : p ≤ L) : p ≤ skP c L e p ∧ skP c L e p ≤ L := by
  unfold skP
  cases hs : skp c L e p
  · exact ⟨Nat.le_refl p, h⟩
  · unfold skp at hs
    simp only [Bool.and_eq_true, decide_eq_true_eq] at hs
    show p ≤ p + 1 ∧ p + 1 ≤ L
    omega
theorem dEn_dig {c : Nat → Nat} {L : Nat} : ∀ {n p j : Nat}, p ≤ j → j < dEn c L n p → isDg (c j) = true
  | 0, p, j, h1, h2 => by
    have : j < p := h2
    omega
  | n + 1, p, j, h1, h2 => by
    unfold dEn at h2
    split at h2
    · rename_i q
      simp only [Bool.and_eq_true, decide_eq_true_eq] at q
      by_cases e : j = p
      · subst e; exact q.2
      · exact dEn_dig (by omega) h2
    · omega
theorem nV_lt {c : Nat → Nat} {L p : Nat} : nV c L p < 100000 := by
  unfold nV
  have h := nVal_lt (c := c) (p := p) (n := min (nEnd c L p - p) 5) (fun j hj => by
    have := dEn_dig (c := c) (L := L) (n := L - p) (p := p) (j := p + j) (by omega) (by unfold nEnd at hj; omega)
    unfold isDg at this
    simp only [Bool.and_eq_true, decide_eq_true_eq] at this
    exact this.2)
  have h2 : 10 ^ min (nEnd c L p - p) 5 ≤ 10 ^ 5 := Nat.pow_le_pow_right (by decide) (Nat.min_le_right _ _)
  omega
theorem rnV_t {c : Nat → Nat} {L : Nat} {g : Int32} {p : Nat} (h : ¬ rnV c L g p = -1) : nOk c L g p = true := by
  cases hs : nOk c L g p
  · refine absurd ?_ h
    unfold rnV
    rw [hs]
    rfl
  · rfl
theorem rnV_f {c : Nat → Nat} {L : Nat} {g : Int32} {p : Nat} (h : rnV c L g p = -1) : nOk c L g p = false := by
  cases hs : nOk c L g p
  · rfl
  · unfold rnV at h
    rw [hs] at h
    have h1 : nI (nV c L p) = -1 := h
    have h2 := nV_lt (c := c) (L := L) (p := p)
    have h3 := congrArg Int32.toInt h1
    rw [nI_toInt (by omega)] at h3
    have : (-1 : Int32).toInt = -1 := by decide
    omega
/-- one quotation: where it stands behind each of its steps -/
def g0 (it : Nat) : Int32 := nI it - nI 1
def qA (c : Nat → Nat) (L it p : Nat) : Nat := rnP c L (g0 it) p
def qB (c : Nat → Nat) (L it p : Nat) : Nat := skP c L 64 (qA c L it p)
def qC (c : Nat → Nat) (L it p : Nat) : Nat := rnP c L (nI 23) (qB c L it p)
def qD (c : Nat → Nat) (L it p : Nat) : Nat := skP c L 61 (qC c L it p)
def qE (c : Nat → Nat) (L it p : Nat) : Nat := rnP c L (nI 99999) (qD c L it p)
def qF (c : Nat → Nat) (L it p : Nat) : Nat := skP c L 59 (qE c L it p)
def kA (c : Nat → Nat) (L it p : Nat) : Bool := nOk c L (g0 it) p
def kB (c : Nat → Nat) (L it p : Nat) : Bool := skp c L 64 (qA c L it p)
def kC (c : Nat → Nat) (L it p : Nat) : Bool := nOk c L (nI 23) (qB c L it p)
def kD (c : Nat → Nat) (L it p : Nat) : Bool := skp c L 61 (qC c L it p)
def kE (c : Nat → Nat) (L it p : Nat) : Bool := nOk c L (nI 99999) (qD c L it p)
def kF (c : Nat → Nat) (L it p : Nat) : Bool := skp c L 59 (qE c L it p)
def qOk (c : Nat → Nat) (L it p : Nat) : Bool := kA c L it p && kB c L it p && kC c L it p && kD c L it p && kE c L it p && kF c L it p
def qPos (c : Nat → Nat) (L it p : Nat) : Nat := if kA c L it p then (if kB c L it p then (if kC c L it p then (if kD c L it p then (if kE c L it p then qF c L it p else qE c L it p) else qD c L it p) else qC c L it p) else qB c L it p) else qA c L it p
def qi (c : Nat → Nat) (L it p : Nat) : Nat := nV c L p
def qm (c : Nat → Nat) (L it p : Nat) : Nat := nV c L (qB c L it p)
def qp (c : Nat → Nat) (L it p : Nat) : Nat := nV c L (qD c L it p)
theorem q_le {c : Nat → Nat} {L it p : Nat} (h : p ≤ L) : qA c L it p ≤ L ∧ qB c L it p ≤ L ∧ qC c L it p ≤ L ∧ qD c L it p ≤ L ∧ qE c L it p ≤ L ∧ qF c L it p ≤ L := by
  have a := rnP_le (c := c) (g := g0 it) h
  have b := skP_le (c := c) (e := 64) a.2
  have d := rnP_le (c := c) (g := nI 23) b.2
  have e := skP_le (c := c) (e := 61) d.2
  have f := rnP_le (c := c) (g := nI 99999) e.2
  have g := skP_le (c := c) (e := 59) f.2
  exact ⟨a.2, b.2, d.2, e.2, f.2, g.2⟩
theorem qPos_le {c : Nat → Nat} {L it p : Nat} (h : p ≤ L) : qPos c L it p ≤ L := by
  obtain ⟨a, b, d, e, f, g⟩ := q_le (c := c) (it := it) h
  unfold qPos
  repeat (first | split | assumption)
theorem nOk_step {c : Nat → Nat} {L : Nat} {g : Int32} {p : Nat} (h : nOk c L g p = true) : p + 1 ≤ rnP c L g p := by
  unfold rnP
  rw [h]
  unfold nOk nFm at h
  simp only [Bool.and_eq_true, Bool.or_eq_true, decide_eq_true_eq] at h
  show p + 1 ≤ nEnd c L p
  omega
theorem skp_step {c : Nat → Nat} {L e p : Nat} (h : skp c L e p = true) : p + 1 = skP c L e p := by
  unfold skP; rw [h]; rfl
theorem qOk_parts {c : Nat → Nat} {L it p : Nat} (h : qOk c L it p = true) : kA c L it p = true ∧ kB c L it p = true ∧ kC c L it p = true ∧ kD c L it p = true ∧ kE c L it p = true ∧ kF c L it p = true := by
  unfold qOk at h
  simp only [Bool.and_eq_true] at h
  obtain ⟨⟨⟨⟨⟨a, b⟩, d⟩, e⟩, f⟩, g⟩ := h
  exact ⟨a, b, d, e, f, g⟩
theorem qOk_pos {c : Nat → Nat} {L it p : Nat} (h : qOk c L it p = true) : qPos c L it p = qF c L it p ∧ p + 6 ≤ qF c L it p := by
  obtain ⟨a, b, d, e, f, g⟩ := qOk_parts h
  refine ⟨by unfold qPos; rw [a, b, d, e, f]; rfl, ?_⟩
  have h1 : p + 1 ≤ qA c L it p := nOk_step a
  have h2 : qA c L it p + 1 = qB c L it p := skp_step b
  have h3 : qB c L it p + 1 ≤ qC c L it p := nOk_step d
  have h4 : qC c L it p + 1 = qD c L it p := skp_step e
  have h5 : qD c L it p + 1 ≤ qE c L it p := nOk_step f
  have h6 : qE c L it p + 1 = qF c L it p := skp_step g
  omega
theorem nOk_le {c : Nat → Nat} {L : Nat} {n p : Nat} (hn : n < 2 ^ 31) (h : nOk c L (nI n) p = true) : nV c L p ≤ n := by
  unfold nOk at h
  simp only [Bool.and_eq_true, Bool.not_eq_true', decide_eq_false_iff_not] at h
  have h2 := nV_lt (c := c) (L := L) (p := p)
  rcases Nat.lt_or_ge n (nV c L p) with g | g
  · exact absurd (nI_lt g (by omega)) h.2
  · exact g
theorem qOk_vals {c : Nat → Nat} {L it p : Nat} (hit : it ≤ 12) (h : qOk c L it p = true) : qi c L it p < it ∧ qm c L it p < 24 ∧ qp c L it p ≤ 99999 := by
  obtain ⟨a, b, d, e, f, g⟩ := qOk_parts h
  refine ⟨?_, by have := nOk_le (by omega) d; unfold qm; omega, nOk_le (by omega) f⟩
  unfold qi
  unfold kA nOk g0 at a
  simp only [Bool.and_eq_true, Bool.not_eq_true', decide_eq_false_iff_not] at a
  have h2 := nV_lt (c := c) (L := L) (p := p)
  rcases Nat.eq_zero_or_pos it with z | z
  · refine absurd ?_ a.2
    rw [z, show nI 0 - nI 1 = -1 by decide, Int32.lt_iff_toInt_lt, nI_toInt (by omega)]
    have : (-1 : Int32).toInt = -1 := by decide
    omega
  · rw [pk_sub (by omega)] at a
    rcases Nat.lt_or_ge (nV c L p) it with g | g
    · exact g
    · exact absurd (nI_lt (by omega) (by omega)) a.2
/-- the places of the quotations, and how the reading ends -/
def psn (c : Nat → Nat) (L it : Nat) : Nat → Nat
  | 0 => 0
  | n + 1 => qPos c L it (psn c L it n)
def rdO (c : Nat → Nat) (L it : Nat) : Nat → Nat → Nat → Bool × Nat
  | 0, _, p => (false, p)
  | f + 1, n, p => if qOk c L it p then (if L ≤ qPos c L it p then (true, n + 1) else rdO c L it f (n + 1) (qPos c L it p)) else (false, qPos c L it p)
def rdE (c : Nat → Nat) (L it : Nat) : Bool × Nat := rdO c L it 10 0 0
def rdI (c : Nat → Nat) (L it n : Nat) : Prop := rdO c L it (10 - n) n (psn c L it n) = rdE c L it ∧ 6 * n ≤ psn c L it n ∧ psn c L it n ≤ L ∧ ∀ k, k < n → qOk c L it (psn c L it k) = true
theorem rdI_0 {c : Nat → Nat} {L it : Nat} : rdI c L it 0 := ⟨rfl, Nat.le_refl 0, Nat.zero_le L, fun k h => absurd h (Nat.not_lt_zero k)⟩
theorem rdI_step {c : Nat → Nat} {L it n : Nat} (hL : L ≤ 60) (h : rdI c L it n) (hn : n < 10) (hq : qOk c L it (psn c L it n) = true) (hp : ¬ L ≤ qPos c L it (psn c L it n)) : rdI c L it (n + 1) := by
  obtain ⟨h1, h2, h3, h4⟩ := h
  obtain ⟨e1, e2⟩ := qOk_pos hq
  refine ⟨?_, by show 6 * (n + 1) ≤ qPos c L it (psn c L it n); omega, qPos_le h3, fun k hk => ?_⟩
  · rw [← h1, show 10 - n = (10 - (n + 1)) + 1 by omega, rdO, if_pos hq, if_neg hp]
    rfl
  · by_cases e : k = n
    · subst e; exact hq
    · exact h4 k (by omega)
theorem rdI_end {c : Nat → Nat} {L it n : Nat} (h : rdI c L it n) (hn : n < 10) (hq : qOk c L it (psn c L it n) = true) (hp : L ≤ qPos c L it (psn c L it n)) : rdE c L it = (true, n + 1) ∧ ∀ k, k < n + 1 → qOk c L it (psn c L it k) = true := by
  obtain ⟨h1, h2, h3, h4⟩ := h
  refine ⟨?_, fun k hk => ?_⟩
  · rw [← h1, show 10 - n = (10 - (n + 1)) + 1 by omega, rdO, if_pos hq, if_pos hp]
  · by_cases e : k = n
    · subst e; exact hq
    · exact h4 k (by omega)
theorem rdI_bad {c : Nat → Nat} {L it n : Nat} (h : rdI c L it n) (hn : n < 10) (hq : qOk c L it (psn c L it n) = false) : rdE c L it = (false, qPos c L it (psn c L it n)) := by
  obtain ⟨h1, h2, h3, h4⟩ := h
  rw [← h1, show 10 - n = (10 - (n + 1)) + 1 by omega, rdO, if_neg (by rw [hq]; decide)]
theorem rdI_lt {c : Nat → Nat} {L it n : Nat} (hL : L ≤ 60) (h : rdI c L it n) (hp : psn c L it n < L) : n < 10 := by
  have := h.2.1
  omega
def rdF (c : Nat → Nat) (L it : Nat) : Int32 := cond (rdE c L it).1 (nI (rdE c L it).2) ((-10) - nI (rdE c L it).2)
/-- what the rows of a reading hold -/
def rowsI (c : Nat → Nat) (L it n : Nat) (ri rm rp : Nat → Int32) : Prop := ∀ k, k < n → ri k = nI (qi c L it (psn c L it k)) ∧ rm k = nI (qm c L it (psn c L it k)) ∧ rp k = nI (qp c L it (psn c L it k))
theorem rowsI_step {c : Nat → Nat} {L it n : Nat} {ri rm rp : Nat → Int32} (h : rowsI c L it n ri rm rp) : rowsI c L it (n + 1) (upd ri n (nI (qi c L it (psn c L it n)))) (upd rm n (nI (qm c L it (psn c L it n)))) (upd rp n (nI (qp c L it (psn c L it n)))) := by
  intro k hk
  unfold upd
  by_cases e : k = n
  · subst e
    rw [if_pos rfl, if_pos rfl, if_pos rfl]
    exact ⟨rfl, rfl, rfl⟩
  · rw [if_neg e, if_neg e, if_neg e]
    exact h k (by omega)
