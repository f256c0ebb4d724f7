/-! edits keep a basket as it must be -/
theorem bPut_self {b : Nat → Nat → Int32} {r k : Nat} {x : Int32} : bPut b r k x r k = x := by unfold bPut va_up upd; simp
theorem bPut_row {b : Nat → Nat → Int32} {r k : Nat} {x : Int32} {r' : Nat} (h : r' ≠ r) : bPut b r k x r' = b r' := by unfold bPut va_up; rw [if_neg h]
theorem bPut_ne {b : Nat → Nat → Int32} {r k : Nat} {x : Int32} {j : Nat} (h : j ≠ k) : bPut b r k x r j = b r j := by unfold bPut va_up upd; simp [h]
theorem bPut_at {b : Nat → Nat → Int32} {r k : Nat} {x : Int32} {j : Nat} : bPut b r k x r j = if j = k then x else b r j := by
  by_cases h : j = k
  · subst h; rw [if_pos rfl, bPut_self]
  · rw [if_neg h, bPut_ne h]
theorem bWF_lnk {b : Nat → Nat → Int32} (hB : bWF b) {k j mo : Nat} (hk : k < 12) (hj : j < 12) (hm : mo < 24) : bWF (bLnk b k j mo) := by
  obtain ⟨h0, h1, h2, h3, h4, h5, h6⟩ := hB
  have r0 : bLnk b k j mo 0 = b 0 := by unfold bLnk; rw [bPut_row (by decide), bPut_row (by decide), bPut_row (by decide)]
  have r1 : bLnk b k j mo 1 = b 1 := by unfold bLnk; rw [bPut_row (by decide), bPut_row (by decide), bPut_row (by decide)]
  have r2 : bLnk b k j mo 2 = b 2 := by unfold bLnk; rw [bPut_row (by decide), bPut_row (by decide), bPut_row (by decide)]
  have r3 : bLnk b k j mo 3 = b 3 := by unfold bLnk; rw [bPut_row (by decide), bPut_row (by decide), bPut_row (by decide)]
  have r8 : bLnk b k j mo 8 = b 8 := by unfold bLnk; rw [bPut_row (by decide), bPut_row (by decide), bPut_row (by decide)]
  have r5 : ∀ q, bLnk b k j mo 5 q = if q = k then nI j else b 5 q := fun q => by unfold bLnk; rw [bPut_row (by decide), bPut_row (by decide), bPut_at]
  have r6 : ∀ q, bLnk b k j mo 6 q = if q = j then nI k else b 6 q := fun q => by unfold bLnk; rw [bPut_row (by decide), bPut_at, bPut_row (by decide)]
  have r7 : ∀ q, bLnk b k j mo 7 q = if q = k then nI mo else b 7 q := fun q => by unfold bLnk; rw [bPut_at, bPut_row (by decide), bPut_row (by decide)]
  have i0 : itN (bLnk b k j mo) = itN b := by unfold itN; rw [r0]
  refine ⟨by rw [i0, r0]; exact h0, by rw [r8]; exact h1, by rw [r3]; exact h2, fun q hq => ?_, fun q hq => ?_, ?_, by rw [i0, r2]; exact h6⟩
  · unfold nwN ovN
    rw [r5, r7]
    by_cases e : q = k
    · rw [if_pos e, if_pos e, nI_clamp (by omega), nI_clamp (by omega)]
      exact fun _ => ⟨rfl, hj, rfl, hm⟩
    · rw [if_neg e, if_neg e]
      exact h3 q hq
  · unfold odN
    rw [r6]
    by_cases e : q = j
    · rw [if_pos e, nI_clamp (by omega)]
      exact fun _ => ⟨rfl, hk⟩
    · rw [if_neg e]
      exact h4 q hq
  · unfold wtN
    rw [r1]
    exact h5
theorem bWF_put5 {b : Nat → Nat → Int32} (hB : bWF b) {k : Nat} : bWF (bPut b 5 k (-1)) := by
  obtain ⟨h0, h1, h2, h3, h4, h5, h6⟩ := hB
  have i0 : itN (bPut b 5 k (-1)) = itN b := by unfold itN; rw [bPut_row (by decide)]
  refine ⟨by rw [i0, bPut_row (by decide)]; exact h0, by rw [bPut_row (by decide)]; exact h1, by rw [bPut_row (by decide)]; exact h2, fun q hq => ?_, fun q hq => ?_, ?_, by rw [i0, bPut_row (by decide)]; exact h6⟩
  · unfold nwN ovN
    rw [bPut_at, bPut_row (b := b) (r := 5) (r' := 7) (by decide)]
    by_cases e : q = k
    · rw [if_pos e]; exact fun z => absurd rfl z
    · rw [if_neg e]; exact h3 q hq
  · unfold odN
    rw [bPut_row (by decide)]
    exact h4 q hq
  · unfold wtN
    rw [bPut_row (by decide)]
    exact h5
theorem bWF_put6 {b : Nat → Nat → Int32} (hB : bWF b) {k : Nat} : bWF (bPut b 6 k (-1)) := by
  obtain ⟨h0, h1, h2, h3, h4, h5, h6⟩ := hB
  have i0 : itN (bPut b 6 k (-1)) = itN b := by unfold itN; rw [bPut_row (by decide)]
  refine ⟨by rw [i0, bPut_row (by decide)]; exact h0, by rw [bPut_row (by decide)]; exact h1, by rw [bPut_row (by decide)]; exact h2, fun q hq => ?_, fun q hq => ?_, ?_, by rw [i0, bPut_row (by decide)]; exact h6⟩
  · unfold nwN ovN
    rw [bPut_row (b := b) (r := 6) (r' := 5) (by decide), bPut_row (b := b) (r := 6) (r' := 7) (by decide)]
    exact h3 q hq
  · unfold odN
    rw [bPut_at]
    by_cases e : q = k
    · rw [if_pos e]; exact fun z => absurd rfl z
    · rw [if_neg e]; exact h4 q hq
  · unfold wtN
    rw [bPut_row (by decide)]
    exact h5
theorem bWF_unl {b : Nat → Nat → Int32} (hB : bWF b) {k : Nat} : bWF (bUnl b k) := by
  unfold bUnl
  split
  · exact bWF_put5 hB
  · exact bWF_put6 (bWF_put5 hB)
/-- what the face's edits answer -/
def fAI (b : Nat → Nat → Int32) (x y z : Int32) : Int32 := if aiOK x y z then (if itN b < 12 then nI (itN b) else -3) else -1
def eAI (b : Nat → Nat → Int32) (x y z : Int32) : Bool := aiOK x y z && decide (itN b < 12)
def fSP (b : Nat → Nat → Int32) (x y z : Int32) : Int32 := if spOK b x y z then b 8 (nC x * 24 + nC y) else -1
def swOK (x y : Int32) : Bool := isStr x && inR y (nI 0) (nI 100)
def fSW (b : Nat → Nat → Int32) (x y : Int32) : Int32 := if swOK x y then b 1 (nC x) else -1
def sfOK (x : Int32) : Bool := inR x (nI 0) (nI 2)
def fSF (b : Nat → Nat → Int32) (x : Int32) : Int32 := if sfOK x then b 0 1 else -1
def eRI (b : Nat → Nat → Int32) (x y z : Int32) : Bool := riOK b x y z && canL b (nC x) (nC y) (nC z)
def fRI (b : Nat → Nat → Int32) (x y z : Int32) : Int32 := if riOK b x y z then (if canL b (nC x) (nC y) (nC z) then nI (lnkN (bLnk b (nC x) (nC y) (nC z))) else -2) else -1
def eER (b : Nat → Nat → Int32) (x : Int32) : Bool := isIt b x && isLnk b (nC x)
def fER (b : Nat → Nat → Int32) (x : Int32) : Int32 := if isIt b x then (if isLnk b (nC x) then nI (lnkN (bUnl b (nC x))) else -2) else -1
def fUN (n : Nat) : Int32 := if n = 0 then -2 else nI (n - 1)
def fQP (b : Nat → Nat → Int32) (x y : Int32) : Int32 := if isIt b x && isMon y then b 8 (nC x * 24 + nC y) else -1
def fRO (b : Nat → Nat → Int32) (x : Int32) : Int32 := if isIt b x then (if b 5 (nC x) = -1 then -9 else b 5 (nC x)) else -1
/-- and what its questions answer -/
def fKB (b : Nat → Nat → Int32) (x y : Int32) : Int32 := if isIt b x && isMon y then (if knE b (nC x) (nC y) then cBits (knV b (nC x) (nC y)) else -9) else -1
def fII (b : Nat → Nat → Int32) (x y : Int32) : Int32 := if isIt b x && isMon y then (if knE b (nC x) (nC y) then bI (knE b (nC x) (nC y) && !hasEff b (nC x) (nC y)) else -9) else -1
def fIC (b : Nat → Nat → Int32) (x : Int32) : Int32 := if isMon x then nI (cntP (fun k => knE b k (nC x) && !hasEff b k (nC x)) (itN b)) else -1
def smm (x y z : Int32) : Bool := isStr x && isMon y && isMon z
def fMC (b : Nat → Nat → Int32) (x y z : Int32) : Int32 := if smm x y z then nI (cntM b (eB b) x (nC y) (nC z)) else -1
def fMB (b : Nat → Nat → Int32) (x y z : Int32) : Int32 := if smm x y z then cBits (mvB b x (nC y) (nC z)) else -1
def fGR (b : Nat → Nat → Int32) (x y z : Int32) : Int32 := if smm x y z then (if (stpC b (eB b) (vB b) x (nC y) (nC z) (itN b)).1 = -1 then -9 else (stpC b (eB b) (vB b) x (nC y) (nC z) (itN b)).1) else -1
def fDI (b : Nat → Nat → Int32) (x y z : Int32) : Int32 := if smm x y z then (if hasDir b (kEB b) x (nC y) (nC z) then cHund (dirC b (kEB b) (kVB b) x (nC y) (nC z)) else -9) else -1
def fCI (b : Nat → Nat → Int32) (x y z : Int32) : Int32 := if smm x y z && decide (y ≤ z) then cHund (chC b (eB b) (vB b) x (nC y) (nC z - nC y)) else -1
def fDR (b : Nat → Nat → Int32) (x y z : Int32) : Int32 := if smm x y z && decide (y ≤ z) then (if hasDir b (kEB b) x (nC y) (nC z) then nI 1000000 + (cHund (chC b (eB b) (vB b) x (nC y) (nC z - nC y)) - cHund (dirC b (kEB b) (kVB b) x (nC y) (nC z))) else -9) else -1
def fAX (b : Nat → Nat → Int32) (x y : Int32) : Int32 := if isMon x && isMon y then (if wDir b (kEB b) (nC x) (nC y) 4 = 0 then -9 else cHund (aggC b (kEB b) (kVB b) (nC x) (nC y))) else -1
def fAB (b : Nat → Nat → Int32) (x y : Int32) : Int32 := if isMon x && isMon y then (if wDir b (kEB b) (nC x) (nC y) 4 = 0 then -9 else cBits (aggC b (kEB b) (kVB b) (nC x) (nC y))) else -1
