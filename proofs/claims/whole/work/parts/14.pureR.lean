/-! the rows of prices: e which prices exist, v the prices -/
def rcells (G : GG) (ra : Nat → Nat) (h : Nat) (e : Nat → Bool) (v : Nat → UInt32) : va_W := [(ra 0, .inr (2, [.ref h, .ref (ra 1), .ref (ra 2)])), (ra 1, .inl (G.2 1, 288, .inl (fun j => bI (e j)))), (ra 2, .inl (G.2 2, 288, .inr (.inr (.inl v))))]
def rbcells (G : GG) (ra ad : Nat → Nat) (e : Nat → Bool) (v : Nat → UInt32) (b : Nat → Nat → Int32) : va_W := (ra 0, .inr (2, [.ref (ad 0), .ref (ra 1), .ref (ra 2)])) :: (ra 1, .inl (G.2 1, 288, .inl (fun j => bI (e j)))) :: (ra 2, .inl (G.2 2, 288, .inr (.inr (.inl v)))) :: bcells G ad b
def okV (v : Nat → UInt32) : Prop := ∀ j, j < 288 → okF (v j)
def mat (b : Nat → Nat → Int32) (e : Nat → Bool) (x : Int32) (f t k : Nat) : Bool := decide (b 2 k = x) && e (k * 24 + f) && e (k * 24 + t)
def cntM (b : Nat → Nat → Int32) (e : Nat → Bool) (x : Int32) (f t : Nat) : Nat := cntP (mat b e x f t) (itN b)
def sumP (b : Nat → Nat → Int32) (e : Nat → Bool) (v : Nat → UInt32) (x : Int32) (f t mo : Nat) : Nat → UInt32
  | 0 => FP.fconst0
  | n + 1 => if mat b e x f t n then cPlus (sumP b e v x f t mo n) (v (n * 24 + mo)) else sumP b e v x f t mo n
def sumR (b : Nat → Nat → Int32) (e : Nat → Bool) (v : Nat → UInt32) (x : Int32) (f t : Nat) : Nat → UInt32
  | 0 => FP.fconst0
  | n + 1 => if mat b e x f t n then cPlus (sumR b e v x f t n) (cOver (v (n * 24 + t)) (v (n * 24 + f))) else sumR b e v x f t n
theorem ok_sumP {b : Nat → Nat → Int32} {e : Nat → Bool} {v : Nat → UInt32} {x : Int32} {f t mo : Nat} (hv : okV v) (hm : mo < 24) : ∀ {n : Nat}, n ≤ 12 → okF (sumP b e v x f t mo n)
  | 0, _ => ok_0
  | n + 1, h => by
    unfold sumP
    split
    · exact ok_plus (ok_sumP hv hm (by omega)) (hv _ (by omega))
    · exact ok_sumP hv hm (by omega)
theorem ok_sumR {b : Nat → Nat → Int32} {e : Nat → Bool} {v : Nat → UInt32} {x : Int32} {f t : Nat} (hv : okV v) (hf : f < 24) (ht : t < 24) : ∀ {n : Nat}, n ≤ 12 → okF (sumR b e v x f t n)
  | 0, _ => ok_0
  | n + 1, h => by
    unfold sumR
    split
    · exact ok_plus (ok_sumR hv hf ht (by omega)) (ok_over (hv _ (by omega)) (hv _ (by omega)))
    · exact ok_sumR hv hf ht (by omega)
def movC (b : Nat → Nat → Int32) (e : Nat → Bool) (v : Nat → UInt32) (x : Int32) (f t : Nat) : UInt32 :=
  if cntM b e x f t = 0 then FP.fconst1
  else if b 0 1 = 0 then cOver (sumP b e v x f t t (itN b)) (sumP b e v x f t f (itN b))
  else if b 0 1 = nI 1 then cOver (sumR b e v x f t (itN b)) (FP.i2f (nI (cntM b e x f t)))
  else cOver (FP.i2f (nI (cntM b e x f t))) (sumR b e v x t f (itN b))
theorem cntM_le (b : Nat → Nat → Int32) (e : Nat → Bool) (x : Int32) (f t : Nat) : cntM b e x f t ≤ itN b := cntP_le _ _
theorem ok_mov {b : Nat → Nat → Int32} (hB : bWF b) {e : Nat → Bool} {v : Nat → UInt32} {x : Int32} {f t : Nat} (hv : okV v) (hf : f < 24) (ht : t < 24) : okF (movC b e v x f t) := by
  have h1 := hB.1.2
  have h2 := cntM_le b e x f t
  unfold movC
  split
  · exact ok_1
  · split
    · exact ok_over (ok_sumP hv ht h1) (ok_sumP hv hf h1)
    · split
      · exact ok_over (ok_sumR hv hf ht h1) (ok_i2f_nI (by omega))
      · exact ok_over (ok_i2f_nI (by omega)) (ok_sumR hv ht hf h1)
def stpC (b : Nat → Nat → Int32) (e : Nat → Bool) (v : Nat → UInt32) (x : Int32) (f t : Nat) : Nat → Int32 × UInt32
  | 0 => (-1, FP.fconst0)
  | n + 1 => if mat b e x f t n && (decide ((stpC b e v x f t n).1 = -1) || decide (FP.fcmp (cOver (v (n * 24 + t)) (v (n * 24 + f))) (stpC b e v x f t n).2 = some .gt)) then (nI n, cOver (v (n * 24 + t)) (v (n * 24 + f))) else stpC b e v x f t n
