/-! the table: what it must hold for a basket -/
def tcells (G : GG) (ta : Nat) (ea ka ad : Nat → Nat) (fs : Bool) (e1 : Nat → Bool) (v1 : Nat → UInt32) (e2 : Nat → Bool) (v2 : Nat → UInt32) (b : Nat → Nat → Int32) : va_W := (ta, .inr (3, [.ref (ea 0), .ref (ka 0), .ref (ad 0), .int (bI fs)])) :: (ea 0, .inr (2, [.ref (ad 0), .ref (ea 1), .ref (ea 2)])) :: (ea 1, .inl (G.2 1, 288, .inl (fun j => bI (e1 j)))) :: (ea 2, .inl (G.2 2, 288, .inr (.inr (.inl v1)))) :: (ka 0, .inr (2, [.ref (ad 0), .ref (ka 1), .ref (ka 2)])) :: (ka 1, .inl (G.2 1, 288, .inl (fun j => bI (e2 j)))) :: (ka 2, .inl (G.2 2, 288, .inr (.inr (.inl v2)))) :: bcells G ad b
def hasImp (e1 e2 : Nat → Bool) (k mo : Nat) : Bool := e2 (k * 24 + mo) && !e1 (k * 24 + mo)
def hasDir (b : Nat → Nat → Int32) (e2 : Nat → Bool) (x : Int32) (fr tt : Nat) : Bool := decide (0 < cntM b e2 x fr tt)
def dirC (b : Nat → Nat → Int32) (e2 : Nat → Bool) (v2 : Nat → UInt32) (x : Int32) (fr tt : Nat) : UInt32 := cTimes (movC b e2 v2 x fr tt) 1120403456
theorem ok_dir {b : Nat → Nat → Int32} (hB : bWF b) {e : Nat → Bool} {v : Nat → UInt32} {x : Int32} {f t : Nat} (hv : okV v) (hf : f < 24) (ht : t < 24) : okF (dirC b e v x f t) := ok_times (ok_mov hB hv hf ht) ok_100
def chC (b : Nat → Nat → Int32) (e1 : Nat → Bool) (v1 : Nat → UInt32) (x : Int32) (fr : Nat) : Nat → UInt32
  | 0 => 1120403456
  | n + 1 => cTimes (chC b e1 v1 x fr n) (movC b e1 v1 x (fr + n) (fr + n + 1))
theorem ok_ch {b : Nat → Nat → Int32} (hB : bWF b) {e : Nat → Bool} {v : Nat → UInt32} {x : Int32} {fr : Nat} (hv : okV v) : ∀ {n : Nat}, fr + n < 24 → okF (chC b e v x fr n)
  | 0, _ => ok_100
  | n + 1, h => by
    unfold chC
    exact ok_times (ok_ch hB hv (by omega)) (ok_mov hB hv (by omega) (by omega))
def wDir (b : Nat → Nat → Int32) (e2 : Nat → Bool) (fr tt : Nat) : Nat → Nat
  | 0 => 0
  | n + 1 => if hasDir b e2 (nI n) fr tt then wDir b e2 fr tt n + wtN b n else wDir b e2 fr tt n
theorem wDir_le {b : Nat → Nat → Int32} (hB : bWF b) {e2 : Nat → Bool} {fr tt : Nat} : ∀ {n : Nat}, n ≤ 4 → wDir b e2 fr tt n ≤ 100 * n
  | 0, _ => Nat.le_refl 0
  | n + 1, h => by
    have h1 := wDir_le hB (e2 := e2) (fr := fr) (tt := tt) (n := n) (by omega)
    have h2 := (hB.2.2.2.2.2.1 n (by omega)).2
    unfold wDir
    split <;> omega
def agC (b : Nat → Nat → Int32) (e2 : Nat → Bool) (v2 : Nat → UInt32) (fr tt : Nat) : Nat → UInt32
  | 0 => FP.fconst0
  | n + 1 => if hasDir b e2 (nI n) fr tt then cPlus (agC b e2 v2 fr tt n) (cTimes (FP.i2f (nI (wtN b n))) (dirC b e2 v2 (nI n) fr tt)) else agC b e2 v2 fr tt n
theorem ok_ag {b : Nat → Nat → Int32} (hB : bWF b) {e2 : Nat → Bool} {v2 : Nat → UInt32} {fr tt : Nat} (hv : okV v2) (hf : fr < 24) (ht : tt < 24) : ∀ {n : Nat}, n ≤ 4 → okF (agC b e2 v2 fr tt n)
  | 0, _ => ok_0
  | n + 1, h => by
    have h2 := (hB.2.2.2.2.2.1 n (by omega)).2
    unfold agC
    split
    · exact ok_plus (ok_ag hB hv hf ht (by omega)) (ok_times (ok_i2f_nI (by omega)) (ok_dir hB hv hf ht))
    · exact ok_ag hB hv hf ht (by omega)
def aggC (b : Nat → Nat → Int32) (e2 : Nat → Bool) (v2 : Nat → UInt32) (fr tt : Nat) : UInt32 := cOver (agC b e2 v2 fr tt 4) (FP.i2f (nI (wDir b e2 fr tt 4)))
theorem ok_agg {b : Nat → Nat → Int32} (hB : bWF b) {e2 : Nat → Bool} {v2 : Nat → UInt32} {fr tt : Nat} (hv : okV v2) (hf : fr < 24) (ht : tt < 24) : okF (aggC b e2 v2 fr tt) := ok_over (ok_ag hB hv hf ht (Nat.le_refl 4)) (ok_i2f_nI (by have := wDir_le hB (e2 := e2) (fr := fr) (tt := tt) (Nat.le_refl 4); omega))
/-- effective and known prices of a basket -/
def eB (b : Nat → Nat → Int32) : Nat → Bool := fun j => hasEff b (j / 24) (j % 24)
def vB (b : Nat → Nat → Int32) : Nat → UInt32 := fun j => effP b (j / 24) (j % 24)
def mvB (b : Nat → Nat → Int32) (x : Int32) (fr tt : Nat) : UInt32 := movC b (eB b) (vB b) x fr tt
def knE (b : Nat → Nat → Int32) (k : Nat) : Nat → Bool
  | 0 => hasEff b k 0
  | m + 1 => hasEff b k (m + 1) || knE b k m
def knV (b : Nat → Nat → Int32) (k : Nat) : Nat → UInt32
  | 0 => effP b k 0
  | m + 1 => if hasEff b k (m + 1) then effP b k (m + 1) else cTimes (knV b k m) (mvB b (b 2 k) m (m + 1))
def eOK (b : Nat → Nat → Int32) (e1 : Nat → Bool) (v1 : Nat → UInt32) (n : Nat) : Prop := ∀ k, k < n → ∀ m, m < 24 → e1 (k * 24 + m) = hasEff b k m ∧ (hasEff b k m = true → v1 (k * 24 + m) = effP b k m)
def kOK (b : Nat → Nat → Int32) (e2 : Nat → Bool) (v2 : Nat → UInt32) (k m : Nat) : Prop := e2 (k * 24 + m) = knE b k m ∧ (knE b k m = true → v2 (k * 24 + m) = knV b k m)
def tOK (b : Nat → Nat → Int32) (e1 : Nat → Bool) (v1 : Nat → UInt32) (e2 : Nat → Bool) (v2 : Nat → UInt32) : Prop := eOK b e1 v1 (itN b) ∧ ∀ k, k < itN b → ∀ m, m < 24 → kOK b e2 v2 k m
theorem eB_at {b : Nat → Nat → Int32} {k m : Nat} (hm : m < 24) : eB b (k * 24 + m) = hasEff b k m := by
  unfold eB
  rw [show (k * 24 + m) / 24 = k by omega, show (k * 24 + m) % 24 = m by omega]
theorem vB_at {b : Nat → Nat → Int32} {k m : Nat} (hm : m < 24) : vB b (k * 24 + m) = effP b k m := by
  unfold vB
  rw [show (k * 24 + m) / 24 = k by omega, show (k * 24 + m) % 24 = m by omega]
/-- movements see only the prices that exist -/
def alikeT (n : Nat) (e : Nat → Bool) (v : Nat → UInt32) (e' : Nat → Bool) (v' : Nat → UInt32) : Prop := ∀ k, k < n → ∀ m, m < 24 → e (k * 24 + m) = e' (k * 24 + m) ∧ (e (k * 24 + m) = true → v (k * 24 + m) = v' (k * 24 + m))
theorem mat_alike {b : Nat → Nat → Int32} {n : Nat} {e e' : Nat → Bool} {v v' : Nat → UInt32} (h : alikeT n e v e' v') {x : Int32} {f t k : Nat} (hk : k < n) (hf : f < 24) (ht : t < 24) : mat b e x f t k = mat b e' x f t k := by
  unfold mat
  rw [(h k hk f hf).1, (h k hk t ht).1]
theorem cntP_congr {p q : Nat → Bool} : ∀ {n : Nat}, (∀ k, k < n → p k = q k) → cntP p n = cntP q n
  | 0, _ => rfl
  | n + 1, h => by
    unfold cntP
    rw [cntP_congr (fun k hk => h k (by omega)), h n (by omega)]
theorem cntM_alike {b : Nat → Nat → Int32} {e e' : Nat → Bool} {v v' : Nat → UInt32} (h : alikeT (itN b) e v e' v') {x : Int32} {f t : Nat} (hf : f < 24) (ht : t < 24) : cntM b e x f t = cntM b e' x f t := cntP_congr fun _ hk => mat_alike h hk hf ht
theorem mat_ex {b : Nat → Nat → Int32} {e : Nat → Bool} {x : Int32} {f t k : Nat} (h : mat b e x f t k = true) : e (k * 24 + f) = true ∧ e (k * 24 + t) = true := by
  unfold mat at h
  simp only [Bool.and_eq_true] at h
  exact ⟨h.1.2, h.2⟩
theorem sumP_alike {b : Nat → Nat → Int32} {e e' : Nat → Bool} {v v' : Nat → UInt32} {N : Nat} (h : alikeT N e v e' v') {x : Int32} {f t mo : Nat} (hf : f < 24) (ht : t < 24) (hm : mo = f ∨ mo = t) : ∀ {n : Nat}, n ≤ N → sumP b e v x f t mo n = sumP b e' v' x f t mo n
  | 0, _ => rfl
  | n + 1, hn => by
    unfold sumP
    rw [← mat_alike h (by omega) hf ht, sumP_alike h hf ht hm (by omega)]
    split
    · rename_i hq
      have hx := mat_ex hq
      rcases hm with rfl | rfl
      · rw [(h n (by omega) _ hf).2 hx.1]
      · rw [(h n (by omega) _ ht).2 hx.2]
    · rfl
theorem sumR_alike {b : Nat → Nat → Int32} {e e' : Nat → Bool} {v v' : Nat → UInt32} {N : Nat} (h : alikeT N e v e' v') {x : Int32} {f t : Nat} (hf : f < 24) (ht : t < 24) : ∀ {n : Nat}, n ≤ N → sumR b e v x f t n = sumR b e' v' x f t n
  | 0, _ => rfl
  | n + 1, hn => by
    unfold sumR
    rw [← mat_alike h (by omega) hf ht, sumR_alike h hf ht (by omega)]
    split
    · rename_i hq
      have hx := mat_ex hq
      rw [(h n (by omega) _ hf).2 hx.1, (h n (by omega) _ ht).2 hx.2]
    · rfl
theorem movC_alike {b : Nat → Nat → Int32} {e e' : Nat → Bool} {v v' : Nat → UInt32} (h : alikeT (itN b) e v e' v') {x : Int32} {f t : Nat} (hf : f < 24) (ht : t < 24) : movC b e v x f t = movC b e' v' x f t := by
  unfold movC
  rw [cntM_alike h hf ht, sumP_alike h hf ht (Or.inr rfl) (Nat.le_refl _), sumP_alike h hf ht (Or.inl rfl) (Nat.le_refl _), sumR_alike h hf ht (Nat.le_refl _), sumR_alike h ht hf (Nat.le_refl _)]
theorem stpC_alike {b : Nat → Nat → Int32} {e e' : Nat → Bool} {v v' : Nat → UInt32} {N : Nat} (h : alikeT N e v e' v') {x : Int32} {f t : Nat} (hf : f < 24) (ht : t < 24) : ∀ {n : Nat}, n ≤ N → stpC b e v x f t n = stpC b e' v' x f t n
  | 0, _ => rfl
  | n + 1, hn => by
    unfold stpC
    rw [← mat_alike h (by omega) hf ht, stpC_alike h hf ht (by omega)]
    by_cases hq : mat b e x f t n = true
    · have hx := mat_ex hq
      rw [(h n (by omega) _ hf).2 hx.1, (h n (by omega) _ ht).2 hx.2]
    · simp [hq]
theorem eOK_alike {b : Nat → Nat → Int32} {e1 : Nat → Bool} {v1 : Nat → UInt32} (h : eOK b e1 v1 (itN b)) : alikeT (itN b) e1 v1 (eB b) (vB b) := by
  intro k hk m hm
  obtain ⟨h1, h2⟩ := h k hk m hm
  rw [eB_at hm, vB_at hm]
  exact ⟨h1, fun q => h2 (by rw [← h1]; exact q)⟩
theorem mov_eOK {b : Nat → Nat → Int32} {e1 : Nat → Bool} {v1 : Nat → UInt32} (h : eOK b e1 v1 (itN b)) {x : Int32} {f t : Nat} (hf : f < 24) (ht : t < 24) : movC b e1 v1 x f t = mvB b x f t := movC_alike (eOK_alike h) hf ht
