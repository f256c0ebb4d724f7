/-! the basket: b 0 0 its items, b 0 1 its formula, b 1 .. b 8 its rows (weight, stratum, size, seasons, newItemOf, oldItemOf, overlap, quoted) -/
def bcells (G : GG) (ad : Nat → Nat) (b : Nat → Nat → Int32) : va_W := [(ad 0, .inr (0, [.int (b 0 0), .int (b 0 1), .ref (ad 1), .ref (ad 2), .ref (ad 3), .ref (ad 4), .ref (ad 5), .ref (ad 6), .ref (ad 7), .ref (ad 8)])), (ad 1, .inl (G.2 0, 4, .inl (b 1))), (ad 2, .inl (G.2 0, 12, .inl (b 2))), (ad 3, .inl (G.2 0, 12, .inl (b 3))), (ad 4, .inl (G.2 0, 12, .inl (b 4))), (ad 5, .inl (G.2 0, 12, .inl (b 5))), (ad 6, .inl (G.2 0, 12, .inl (b 6))), (ad 7, .inl (G.2 0, 12, .inl (b 7))), (ad 8, .inl (G.2 0, 288, .inl (b 8)))]
def itN (b : Nat → Nat → Int32) : Nat := (b 0 0).toNatClampNeg
def nwN (b : Nat → Nat → Int32) (k : Nat) : Nat := (b 5 k).toNatClampNeg
def odN (b : Nat → Nat → Int32) (k : Nat) : Nat := (b 6 k).toNatClampNeg
def wtN (b : Nat → Nat → Int32) (k : Nat) : Nat := (b 1 k).toNatClampNeg
def ovN (b : Nat → Nat → Int32) (k : Nat) : Nat := (b 7 k).toNatClampNeg
/-- a basket as it must be -/
def bWF (b : Nat → Nat → Int32) : Prop := (b 0 0 = nI (itN b) ∧ itN b ≤ 12) ∧ (∀ j, j < 288 → 0 ≤ (b 8 j).toInt) ∧ (∀ k, k < 12 → 0 ≤ (b 3 k).toInt) ∧ (∀ k, k < 12 → b 5 k ≠ -1 → b 5 k = nI (nwN b k) ∧ nwN b k < 12 ∧ b 7 k = nI (ovN b k) ∧ ovN b k < 24) ∧ (∀ k, k < 12 → b 6 k ≠ -1 → b 6 k = nI (odN b k) ∧ odN b k < 12) ∧ (∀ k, k < 4 → b 1 k = nI (wtN b k) ∧ wtN b k ≤ 100) ∧ (∀ k, k < itN b → ∃ q, q < 4 ∧ b 2 k = nI q)
def hasObs (b : Nat → Nat → Int32) (k mo : Nat) : Bool := decide (b 4 k >>> (nI (mo % 12) &&& 31) &&& nI 1 = nI 1) && !decide (b 8 (k * 24 + mo) ≤ 0)
def obsP (b : Nat → Nat → Int32) (k mo : Nat) : UInt32 := cOver (FP.i2f (b 8 (k * 24 + mo))) (FP.i2f (b 3 k))
def isLnk (b : Nat → Nat → Int32) (k : Nat) : Bool := !decide (b 5 k = -1) || !decide (b 6 k = -1)
def canL (b : Nat → Nat → Int32) (k j mo : Nat) : Bool := decide (b 2 k = b 2 j) && !isLnk b k && !isLnk b j && hasObs b k mo && hasObs b j mo
def isPNI (b : Nat → Nat → Int32) (k mo : Nat) : Bool := !decide (b 5 k = -1) && !decide (nI mo ≤ b 7 k)
def hasEff (b : Nat → Nat → Int32) (k mo : Nat) : Bool := decide (b 6 k = -1) && (if isPNI b k mo then hasObs b k (ovN b k) && hasObs b (nwN b k) (ovN b k) && hasObs b (nwN b k) mo else hasObs b k mo)
def effP (b : Nat → Nat → Int32) (k mo : Nat) : UInt32 := if isPNI b k mo then cTimes (obsP b (nwN b k) mo) (cOver (obsP b k (ovN b k)) (obsP b (nwN b k) (ovN b k))) else obsP b k mo
def cntP (p : Nat → Bool) : Nat → Nat
  | 0 => 0
  | n + 1 => cntP p n + (if p n then 1 else 0)
theorem cntP_le (p : Nat → Bool) : ∀ n, cntP p n ≤ n
  | 0 => Nat.le_refl 0
  | n + 1 => by have h := cntP_le p n; unfold cntP; split <;> omega
theorem cntP_t {p : Nat → Bool} {n : Nat} (h : p n = true) : cntP p n + 1 = cntP p (n + 1) := by simp [cntP, h]
theorem cntP_f {p : Nat → Bool} {n : Nat} (h : p n = false) : cntP p n = cntP p (n + 1) := by simp [cntP, h]
def lnkN (b : Nat → Nat → Int32) : Nat := cntP (fun j => !decide (b 5 j = -1)) (itN b)
theorem isPNI_ne {b : Nat → Nat → Int32} {k mo : Nat} (h : isPNI b k mo = true) : b 5 k ≠ -1 := by
  intro e
  simp [isPNI, e] at h
theorem ok_obs {b : Nat → Nat → Int32} (hB : bWF b) {k mo : Nat} (hk : k < 12) (hm : mo < 24) : okF (obsP b k mo) := ok_over (ok_i2f (hB.2.1 _ (by omega))) (ok_i2f (hB.2.2.1 _ hk))
theorem ok_eff {b : Nat → Nat → Int32} (hB : bWF b) {k mo : Nat} (hk : k < 12) (hm : mo < 24) : okF (effP b k mo) := by
  unfold effP
  split
  · rename_i h
    obtain ⟨e5, h5, e7, h7⟩ := hB.2.2.2.1 k hk (isPNI_ne h)
    exact ok_times (ok_obs hB h5 hm) (ok_over (ok_obs hB hk h7) (ok_obs hB h5 h7))
  · exact ok_obs hB hk hm
/-- a basket with one number put anew -/
def bPut (b : Nat → Nat → Int32) (r k : Nat) (x : Int32) : Nat → Nat → Int32 := va_up b r (upd (b r) k x)
def bApp (b : Nat → Nat → Int32) (x y z : Int32) : Nat → Nat → Int32 := bPut (bPut (bPut (bPut b 2 (itN b) x) 3 (itN b) y) 4 (itN b) z) 0 0 (nI (itN b + 1))
def bLnk (b : Nat → Nat → Int32) (k j mo : Nat) : Nat → Nat → Int32 := bPut (bPut (bPut b 5 k (nI j)) 6 j (nI k)) 7 k (nI mo)
def bOld (b : Nat → Nat → Int32) (k : Nat) : Nat := if b 6 k = -1 then k else odN b k
def bUnl (b : Nat → Nat → Int32) (k : Nat) : Nat → Nat → Int32 := if b 5 (bOld b k) = -1 then bPut b 5 (bOld b k) (-1) else bPut (bPut b 5 (bOld b k) (-1)) 6 (nwN b (bOld b k)) (-1)
