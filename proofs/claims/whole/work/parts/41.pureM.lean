/-! the reference: a its row s, pa its past, np its pasts; text, scratch, known prices -/
def mcells (G : GG) (md : Nat → Nat) (a pa : Nat → Int32) (np : Nat) (tb : Nat → Int32) (ty aw : Nat) (iw : Bool) (qu : Nat → Int32) (up lo : UInt32) (su : Nat) (kn : Nat → UInt32) (ik im : Nat → Bool) (fo : UInt32) : va_W := [(md 0, .inr (6, [.ref (md 1), .ref (md 2), .int (nI np), .ref (md 3), .int (nI ty), .int (nI aw), .int (bI iw), .ref (md 4), .float up, .float lo, .int (nI su), .ref (md 5), .ref (md 6), .ref (md 7), .float fo])), (md 1, .inl (G.2 0, 354, .inl a)), (md 2, .inl (G.2 0, 2832, .inl pa)), (md 3, .inl (G.2 3, 60, .inl tb)), (md 4, .inl (G.2 0, 36, .inl qu)), (md 5, .inl (G.2 2, 288, .inr (.inr (.inl kn)))), (md 6, .inl (G.2 1, 288, .inl (fun jj => bI (ik jj)))), (md 7, .inl (G.2 1, 288, .inl (fun jj => bI (im jj))))]
/-- its object and its row alone: what most reads need -/
def scells (G : GG) (md : Nat → Nat) (fl : List Value) (a : Nat → Int32) : va_W := [(md 0, .inr (6, .ref (md 1) :: fl)), (md 1, .inl (G.2 0, 354, .inl a))]
def mN (a : Nat → Int32) : Nat := (a 5).toNatClampNeg
def mC (a : Nat → Int32) : Prop := a 5 = nI (mN a) ∧ mN a ≤ 12
def nwM (a : Nat → Int32) (k : Nat) : Nat := (a (42 + k)).toNatClampNeg
def ovM (a : Nat → Int32) (k : Nat) : Nat := (a (54 + k)).toNatClampNeg
def mWF (a : Nat → Int32) : Prop := mC a ∧ ∀ k, k < 12 → a (42 + k) ≠ -9 → a (42 + k) = nI (nwM a k) ∧ nwM a k < 12 ∧ a (54 + k) = nI (ovM a k) ∧ ovM a k < 24
def isItM (a : Nat → Int32) (x : Int32) : Bool := inR x (nI 0) (nI (mN a) - nI 1)
def isMonM (x : Int32) : Bool := inR x (nI 0) (nI 23)
def isStrM (x : Int32) : Bool := inR x (nI 0) (nI 3)
theorem isItM_nat {a : Nat → Int32} (hC : mC a) {x : Int32} (h : isItM a x = true) : ∃ k, k < mN a ∧ x = nI k := by
  unfold isItM inR at h
  simp only [Bool.and_eq_true, Bool.not_eq_true', decide_eq_false_iff_not] at h
  obtain ⟨h1, h2⟩ := h
  have h12 := hC.2
  have e1 : ¬ x < 0 := h1
  obtain ⟨j, hj, rfl⟩ := nI_of e1
  refine ⟨j, ?_, rfl⟩
  rcases Nat.eq_zero_or_pos (mN a) with z | z
  · rw [z] at h2
    refine absurd ?_ h2
    have e : nI 0 - nI 1 = -1 := by decide
    rw [e]
    rw [Int32.lt_iff_toInt_lt, nI_toInt hj]
    have : (-1 : Int32).toInt = -1 := by decide
    omega
  · rw [pk_sub (by omega)] at h2
    rcases Nat.lt_or_ge j (mN a) with g | g
    · exact g
    · exact absurd (nI_lt (by omega) hj) h2
theorem isItM_nI {a : Nat → Int32} (hC : mC a) {k : Nat} (h : k < mN a) : isItM a (nI k) = true := by
  have h12 := hC.2
  unfold isItM inR
  simp only [Bool.and_eq_true, Bool.not_eq_true', decide_eq_false_iff_not]
  refine ⟨nI_pos (by omega), ?_⟩
  rw [pk_sub (by omega)]
  exact nI_nlt (by omega) (by omega)
theorem isMonM_eq (x : Int32) : isMonM x = isMon x := by
  unfold isMonM isMon inR
  have : decide (nI 23 < x) = decide (nI 24 ≤ x) := by
    rw [decide_eq_decide, Int32.lt_iff_toInt_lt, Int32.le_iff_toInt_le, nI_toInt (by omega), nI_toInt (by omega)]
    omega
  rw [this]; rfl
theorem isStrM_eq (x : Int32) : isStrM x = isStr x := by
  unfold isStrM isStr inR
  have : decide (nI 3 < x) = decide (nI 4 ≤ x) := by
    rw [decide_eq_decide, Int32.lt_iff_toInt_lt, Int32.le_iff_toInt_le, nI_toInt (by omega), nI_toInt (by omega)]
    omega
  rw [this]; rfl
/-- the first old item of a new one -/
def olN (a : Nat → Int32) (y : Int32) : Nat → Option Nat
  | 0 => none
  | n + 1 => match olN a y n with
    | some k => some k
    | none => if a (42 + n) = y then some n else none
theorem olN_up {a : Nat → Int32} {y : Int32} {k : Nat} : ∀ {d n : Nat}, olN a y n = some k → olN a y (n + d) = some k
  | 0, _, h => h
  | d + 1, n, h => by
    show olN a y ((n + d) + 1) = some k
    rw [olN, olN_up (d := d) h]
def olI (a : Nat → Int32) (y : Int32) : Int32 := match olN a y (mN a) with
  | some k => nI k
  | none => -9
theorem olI_found {a : Nat → Int32} {y : Int32} {i : Nat} (h : olN a y i = none) (hi : i < mN a) (e : a (42 + i) = y) : nI i = olI a y := by
  have h1 : olN a y (i + 1) = some i := by rw [olN, h]; simp [e]
  have h2 := olN_up (d := mN a - (i + 1)) h1
  rw [show i + 1 + (mN a - (i + 1)) = mN a by omega] at h2
  unfold olI
  rw [h2]
theorem olI_none {a : Nat → Int32} {y : Int32} (h : olN a y (mN a) = none) : -9 = olI a y := by
  unfold olI
  rw [h]
theorem olN_lt {a : Nat → Int32} {y : Int32} {k : Nat} : ∀ {n : Nat}, olN a y n = some k → k < n ∧ a (42 + k) = y
  | 0, h => by cases h
  | n + 1, h => by
    rw [olN] at h
    cases h1 : olN a y n with
    | some q =>
      rw [h1] at h
      have : q = k := Option.some.inj h
      subst this
      obtain ⟨g1, g2⟩ := olN_lt h1
      exact ⟨by omega, g2⟩
    | none =>
      rw [h1] at h
      simp only [] at h
      split at h
      · rename_i e
        have : n = k := Option.some.inj h
        subst this
        exact ⟨by omega, e⟩
      · cases h
def olD (a : Nat → Int32) (y : Int32) : Nat := (olN a y (mN a)).getD 0
theorem olI_ne {a : Nat → Int32} {y : Int32} (h : olI a y ≠ -9) : olI a y = nI (olD a y) ∧ olD a y < mN a ∧ a (42 + olD a y) = y := by
  unfold olI olD at *
  cases h1 : olN a y (mN a) with
  | none => rw [h1] at h; exact absurd rfl h
  | some k =>
    obtain ⟨g1, g2⟩ := olN_lt h1
    exact ⟨rfl, g1, g2⟩
def tkP (a : Nat → Int32) (k : Nat) : Bool := !decide (a (42 + k) = -9) || !decide (olI a (nI k) = -9)
def rplN (a : Nat → Int32) : Nat := cntP (fun j => !decide (a (42 + j) = -9)) (mN a)
def obM (a : Nat → Int32) (k mo : Nat) : Bool := !decide (a (66 + 24 * k + mo) ≤ 0) && decide (a (30 + k) >>> (nI (mo % 12) &&& 31) &&& nI 1 = nI 1)
def efM (a : Nat → Int32) (k mo : Nat) : Bool := decide (olI a (nI k) = -9) && (if decide (a (42 + k) = -9) || !decide (a (54 + k) < nI mo) then obM a k mo else obM a k (ovM a k) && obM a (nwM a k) (ovM a k) && obM a (nwM a k) mo)
def maM (a : Nat → Int32) (x : Int32) (fr tt k : Nat) : Bool := decide (a (6 + k) = x) && efM a k fr && efM a k tt
/-- the past behind an edit -/
def shP (pa : Nat → Int32) : Nat → Int32 := fun j => if j < 2478 then pa (j + 354) else pa j
def puP (pa a : Nat → Int32) (n : Nat) : Nat → Int32 := fun j => if 354 * n ≤ j ∧ j < 354 * n + 354 then a (j - 354 * n) else pa j
def edP (pa a : Nat → Int32) (np : Nat) : Nat → Int32 := if np = 8 then puP (shP pa) a 7 else puP pa a np
def unP (pa : Nat → Int32) (n : Nat) (a : Nat → Int32) : Nat → Int32 := fun j => if j < 354 then pa (354 * n + j) else a j
/-- answers -/
def mAIok (x y z : Int32) : Bool := isStrM x && inR y (nI 1) (nI 1000) && inR z (nI 1) (nI 4095)
def mAIe (a : Nat → Int32) (x y z : Int32) : Bool := mAIok x y z && !decide (mN a = 12)
def mAIa (a : Nat → Int32) (x y z : Int32) : Nat → Int32 := upd (upd (upd (upd a (6 + mN a) x) (18 + mN a) y) (30 + mN a) z) 5 (nI (mN a + 1))
def mAIf (a : Nat → Int32) (x y z : Int32) : Int32 := if mAIok x y z then (if mN a = 12 then -3 else nI (mN a)) else -1
def mSPok (a : Nat → Int32) (x y z : Int32) : Bool := isItM a x && isMonM y && inR z (nI 0) (nI 99999)
def mSPf (a : Nat → Int32) (x y z : Int32) : Int32 := if mSPok a x y z then a (66 + 24 * nC x + nC y) else -1
def mSPa (a : Nat → Int32) (x y z : Int32) : Nat → Int32 := upd a (66 + 24 * nC x + nC y) z
def mSWok (x y : Int32) : Bool := isStrM x && inR y (nI 0) (nI 100)
def mSWf (a : Nat → Int32) (x y : Int32) : Int32 := if mSWok x y then a (0 + nC x) else -1
def mQPf (a : Nat → Int32) (x y : Int32) : Int32 := if isItM a x && isMonM y then a (66 + 24 * nC x + nC y) else -1
def mRIok (a : Nat → Int32) (x y z : Int32) : Bool := isItM a x && isItM a y && !decide (x = y) && isMonM z
def mRIs (a : Nat → Int32) (k j mo : Nat) : Bool := decide (a (6 + k) = a (6 + j)) && !tkP a k && !tkP a j && obM a k mo && obM a j mo
def mRIa (a : Nat → Int32) (k j mo : Nat) : Nat → Int32 := upd (upd a (42 + k) (nI j)) (54 + k) (nI mo)
def mRIe (a : Nat → Int32) (x y z : Int32) : Bool := mRIok a x y z && mRIs a (nC x) (nC y) (nC z)
def mRIf (a : Nat → Int32) (x y z : Int32) : Int32 := if mRIok a x y z then (if mRIs a (nC x) (nC y) (nC z) then nI (rplN (mRIa a (nC x) (nC y) (nC z))) else -2) else -1
def mERo (a : Nat → Int32) (k : Nat) : Nat := if a (42 + k) = -9 then olD a (nI k) else k
def mERa (a : Nat → Int32) (k : Nat) : Nat → Int32 := upd (upd a (42 + mERo a k) (-9)) (54 + mERo a k) (nI 0)
def mERe (a : Nat → Int32) (x : Int32) : Bool := isItM a x && tkP a (nC x)
def mERf (a : Nat → Int32) (x : Int32) : Int32 := if isItM a x then (if tkP a (nC x) then nI (rplN (mERa a (nC x))) else -2) else -1
def mROf (a : Nat → Int32) (x : Int32) : Int32 := if isItM a x then a (42 + nC x) else -1
def mUNf (np : Nat) : Int32 := if np = 0 then -2 else nI (np - 1)
def smmM (x y z : Int32) : Bool := isStrM x && isMonM y && isMonM z
def mMCf (a : Nat → Int32) (x y z : Int32) : Int32 := if smmM x y z then nI (cntP (maM a x (nC y) (nC z)) (mN a)) else -1
theorem mC_upd {a : Nat → Int32} {j : Nat} {v : Int32} (h : mC a) (hj : j ≠ 5) : mC (upd a j v) ∧ mN (upd a j v) = mN a := by
  have e : upd a j v 5 = a 5 := by unfold upd; rw [if_neg (fun q => hj q.symm)]
  have e2 : mN (upd a j v) = mN a := by unfold mN; rw [e]
  exact ⟨⟨by rw [e, e2]; exact h.1, by rw [e2]; exact h.2⟩, e2⟩
