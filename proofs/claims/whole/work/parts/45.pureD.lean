/-! the reference's floats, as data: a NaN is one datum, whatever its bits -/
abbrev Dm : Type := FP.Core.Datum
abbrev vl (x : UInt32) : Dm := FP.Core.val32 x
def dAdd (x y : Dm) : Dm := FP.Core.round FP.Core.b32 (FP.Core.exactSum x y)
def dMul (x y : Dm) : Dm := FP.Core.round FP.Core.b32 (FP.Core.exactProduct x y)
def dDiv (x y : Dm) : Dm := FP.Core.quotient FP.Core.b32 x y
theorem KX.drawn {G : GG} {s : State} (h : KX G s) (d : Drawn) : KX G (s.setDrawn d) := ⟨va_K.moved (u := s) (U := s.setDrawn d) (Vm.Alike.refl s.vm) h.1, va_Nw.same rfl (u := s) (U := s.setDrawn d) rfl h.2.1, va_Nw.same rfl (u := s) (U := s.setDrawn d) rfl h.2.2.1, va_Nw.same rfl (u := s) (U := s.setDrawn d) rfl h.2.2.2⟩
theorem isNaN32_vl {x : UInt32} : isNaN32 x = true ↔ vl x = .nan := by
  rw [isNaN32_not]
  constructor
  · intro h
    exact Classical.byContradiction fun q => h (n32_of q)
  · intro h q
    exact (n32_iff.mp q) h
theorem vl_alike {r x : UInt32} (h : alike32 r x = true) : vl r = vl x := by
  unfold alike32 at h
  simp only [Bool.or_eq_true, decide_eq_true_eq, Bool.and_eq_true] at h
  rcases h with h | ⟨h1, h2⟩
  · rw [h]
  · rw [isNaN32_vl.mp h1, isNaN32_vl.mp h2]
theorem al_fadd {r x y : UInt32} {X Y : Dm} (h : alike32 r (FP.fadd x y) = true) (hx : vl x = X) (hy : vl y = Y) : vl r = dAdd X Y := by
  rw [vl_alike h, ← hx, ← hy]; exact FP.Core.val32_fadd x y
theorem al_fmul {r x y : UInt32} {X Y : Dm} (h : alike32 r (FP.fmul x y) = true) (hx : vl x = X) (hy : vl y = Y) : vl r = dMul X Y := by
  rw [vl_alike h, ← hx, ← hy]; exact FP.Core.val32_fmul x y
theorem al_fdiv {r x y : UInt32} {X Y : Dm} (h : alike32 r (FP.fdiv x y) = true) (hx : vl x = X) (hy : vl y = Y) : vl r = dDiv X Y := by
  rw [vl_alike h, ← hx, ← hy]; exact FP.Core.val32_fdiv x y
def obD (a : Nat → Int32) (k mo : Nat) : Dm := dDiv (vl (FP.i2f (a (66 + 24 * k + mo)))) (vl (FP.i2f (a (18 + k))))
def efD (a : Nat → Int32) (k mo : Nat) : Dm := if decide (a (42 + k) = -9) || !decide (a (54 + k) < nI mo) then obD a k mo else dMul (obD a (nwM a k) mo) (dDiv (obD a k (ovM a k)) (obD a (nwM a k) (ovM a k)))
def tkU (f : Int32) (U P Q : Dm) : Dm := if f = 0 then dAdd U Q else if f = nI 1 then dAdd U (dDiv Q P) else U
def tkL (f : Int32) (L P Q : Dm) : Dm := if f = 0 then dAdd L P else if f = nI 1 then L else dAdd L (dDiv P Q)
def rsD (f : Int32) (U L : Dm) (n : Nat) : Dm := if f = 0 then dDiv U L else if f = nI 1 then dDiv U (vl (FP.i2f (nI n))) else dDiv (vl (FP.i2f (nI n))) L
theorem lk_def {x : Int32} (h0 : ¬ x = 0) (h1 : ¬ x = nI 1) : Op.lookupswitch.offset [(0, 28), (1, 51)] 66 x.toInt = 66 := by
  have a0 : x.toInt ≠ 0 := fun q => h0 (Int32.toInt_inj.mp (q.trans (by decide)))
  have a1 : x.toInt ≠ 1 := fun q => h1 (Int32.toInt_inj.mp (q.trans (by decide)))
  simp [Op.lookupswitch.offset, a0, a1, Ne.symm a0, Ne.symm a1]
/-- sums over the items that count -/
def acG (f : Int32) (p : Nat → Bool) (P Q : Nat → Dm) : Nat → Dm × Dm × Nat
  | 0 => (vl FP.fconst0, vl FP.fconst0, 0)
  | n + 1 => if p n then (tkU f (acG f p P Q n).1 (P n) (Q n), tkL f (acG f p P Q n).2.1 (P n) (Q n), (acG f p P Q n).2.2 + 1) else acG f p P Q n
theorem acG_le {f : Int32} {p : Nat → Bool} {P Q : Nat → Dm} : ∀ n, (acG f p P Q n).2.2 ≤ n
  | 0 => Nat.le_refl 0
  | n + 1 => by
    have h := acG_le (f := f) (p := p) (P := P) (Q := Q) n
    unfold acG
    split
    · show _ + 1 ≤ n + 1; omega
    · omega
theorem acG_t {f : Int32} {p : Nat → Bool} {P Q : Nat → Dm} {n : Nat} (h : p n = true) : acG f p P Q (n + 1) = (tkU f (acG f p P Q n).1 (P n) (Q n), tkL f (acG f p P Q n).2.1 (P n) (Q n), (acG f p P Q n).2.2 + 1) := by rw [acG, if_pos h]
theorem acG_f {f : Int32} {p : Nat → Bool} {P Q : Nat → Dm} {n : Nat} (h : p n = false) : acG f p P Q (n + 1) = acG f p P Q n := by rw [acG, if_neg (by rw [h]; decide)]
def acM (a : Nat → Int32) (x : Int32) (fr tt : Nat) : Nat → Dm × Dm × Nat := acG (a 4) (maM a x fr tt) (fun k => efD a k fr) (fun k => efD a k tt)
def endD (f : Int32) (z : Dm × Dm × Nat) (o : Dm) : Dm := if z.2.2 = 0 then o else rsD f z.1 z.2.1 z.2.2
def mvD (a : Nat → Int32) (x : Int32) (fr tt : Nat) : Dm := endD (a 4) (acM a x fr tt (mN a)) (vl FP.fconst1)
def acI (z : Dm × Dm × Nat) (up lo : UInt32) (su : Nat) : Prop := vl up = z.1 ∧ vl lo = z.2.1 ∧ su = z.2.2
theorem acI_t {f : Int32} {p : Nat → Bool} {P Q : Nat → Dm} {n : Nat} {up lo up' lo' pp qq : UInt32} {su : Nat} (h : acI (acG f p P Q n) up lo su) (hp : p n = true) (hP : vl pp = P n) (hQ : vl qq = Q n) (hw : vl up' = tkU f (vl up) (vl pp) (vl qq) ∧ vl lo' = tkL f (vl lo) (vl pp) (vl qq)) : acI (acG f p P Q (n + 1)) up' lo' (su + 1) := by
  obtain ⟨h1, h2, h3⟩ := h
  rw [acG_t hp]
  rw [h1, h2, hP, hQ] at hw
  exact ⟨hw.1, hw.2, by rw [h3]⟩
theorem acI_f {f : Int32} {p : Nat → Bool} {P Q : Nat → Dm} {n : Nat} {up lo : UInt32} {su : Nat} (h : acI (acG f p P Q n) up lo su) (hp : p n = false) : acI (acG f p P Q (n + 1)) up lo su := by
  rw [acG_f hp]; exact h
/-- known prices -/
def knM (a : Nat → Int32) (k : Nat) : Nat → Bool
  | 0 => efM a k 0
  | m + 1 => efM a k (m + 1) || knM a k m
def knD (a : Nat → Int32) (k : Nat) : Nat → Dm
  | 0 => efD a k 0
  | m + 1 => if efM a k (m + 1) then efD a k (m + 1) else dMul (knD a k m) (mvD a (a (6 + k)) m (m + 1))
def fdK (a : Nat → Int32) (kn : Nat → UInt32) (ik im : Nat → Bool) (k m : Nat) : Prop := ik (24 * k + m) = knM a k m ∧ im (24 * k + m) = (knM a k m && !efM a k m) ∧ (knM a k m = true → vl (kn (24 * k + m)) = knD a k m)
def fdI (a : Nat → Int32) (i j : Nat) (kn : Nat → UInt32) (ik im : Nat → Bool) : Prop := ∀ k, k < mN a → ∀ m, (m < i ∨ (m = i ∧ k < j)) → fdK a kn ik im k m
theorem fdI_0 {a : Nat → Int32} {kn : Nat → UInt32} {ik im : Nat → Bool} : fdI a 0 0 kn ik im := fun _ _ m h => absurd h (by omega)
theorem fdI_end {a : Nat → Int32} {i : Nat} {kn : Nat → UInt32} {ik im : Nat → Bool} (h : fdI a i (mN a) kn ik im) : fdI a (i + 1) 0 kn ik im := fun k hk m hm => h k hk m (by omega)
theorem fdI_cell {a : Nat → Int32} {i j : Nat} {kn kn' : Nat → UInt32} {ik im ik' im' : Nat → Bool} (hi : i < 24) (hj : j < mN a) (h : fdI a i j kn ik im)
    (hkn : ∀ q, q ≠ 24 * j + i → kn' q = kn q) (hik : ∀ q, q ≠ 24 * j + i → ik' q = ik q) (him : ∀ q, q ≠ 24 * j + i → im' q = im q)
    (hnew : fdK a kn' ik' im' j i) : fdI a i (j + 1) kn' ik' im' := by
  intro k hk m hm
  by_cases hc : k = j ∧ m = i
  · obtain ⟨rfl, rfl⟩ := hc; exact hnew
  · have hne : 24 * k + m ≠ 24 * j + i := fun e0 => hc ⟨by omega, by omega⟩
    unfold fdK
    rw [hkn _ hne, hik _ hne, him _ hne]
    exact h k hk m (by
      rcases hm with g | ⟨g1, g2⟩
      · exact Or.inl g
      · exact Or.inr ⟨g1, by
          rcases Nat.lt_or_ge k j with g | g
          · exact g
          · exact absurd ⟨by omega, g1⟩ hc⟩)
/-- an effective price -/
theorem fd_eff {a : Nat → Int32} {i j : Nat} {kn : Nat → UInt32} {ik im : Nat → Bool} {y : UInt32} (hi : i < 24) (hj : j < mN a) (h : fdI a i j kn ik im) (he : efM a j i = true) (hy : vl y = efD a j i) : fdI a i (j + 1) (vf_upd kn (24 * j + i) y) (va_up ik (24 * j + i) true) (va_up im (24 * j + i) false) := by
  refine fdI_cell hi hj h (fun q hq => by unfold vf_upd; rw [if_neg hq]) (fun q hq => by unfold va_up; rw [if_neg hq]) (fun q hq => by unfold va_up; rw [if_neg hq]) ?_
  have hk : knM a j i = true := by cases i <;> simp [knM, he]
  unfold fdK vf_upd va_up
  rw [if_pos rfl, if_pos rfl, if_pos rfl, hk, he]
  refine ⟨rfl, rfl, fun _ => ?_⟩
  rw [hy]
  cases i with
  | zero => rfl
  | succ m => simp [knD, he]
/-- one that is made -/
theorem fd_made {a : Nat → Int32} {i j : Nat} {kn : Nat → UInt32} {ik im : Nat → Bool} {y : UInt32} {v : Dm} (hi : i < 24) (hj : j < mN a) (h : fdI a i j kn ik im) (he : efM a j i = false) (h0 : 0 < i) (hk1 : ik (24 * j + i - 1) = true) (hv : v = mvD a (a (6 + j)) (i - 1) i) (hy : vl y = dMul (vl (kn (24 * j + i - 1))) v) : fdI a i (j + 1) (vf_upd kn (24 * j + i) y) (va_up ik (24 * j + i) true) (va_up im (24 * j + i) true) := by
  refine fdI_cell hi hj h (fun q hq => by unfold vf_upd; rw [if_neg hq]) (fun q hq => by unfold va_up; rw [if_neg hq]) (fun q hq => by unfold va_up; rw [if_neg hq]) ?_
  obtain ⟨m, rfl⟩ : ∃ m, i = m + 1 := ⟨i - 1, by omega⟩
  obtain ⟨g1, g2, g3⟩ := h j hj m (Or.inl (by omega))
  rw [show 24 * j + (m + 1) - 1 = 24 * j + m by omega] at hk1 hy
  rw [g1] at hk1
  have hk : knM a j (m + 1) = true := by simp [knM, hk1]
  unfold fdK vf_upd va_up
  rw [if_pos rfl, if_pos rfl, if_pos rfl, hk, he]
  refine ⟨rfl, rfl, fun _ => ?_⟩
  rw [hy, g3 hk1, hv, knD, if_neg (by rw [he]; decide), show m + 1 - 1 = m by omega]
/-- none -/
theorem fd_none {a : Nat → Int32} {i j : Nat} {kn : Nat → UInt32} {ik im : Nat → Bool} (hi : i < 24) (hj : j < mN a) (h : fdI a i j kn ik im) (he : efM a j i = false) (h0 : i = 0 ∨ (0 < i ∧ ik (24 * j + i - 1) = false)) : fdI a i (j + 1) kn (va_up ik (24 * j + i) false) (va_up im (24 * j + i) false) := by
  refine fdI_cell hi hj h (fun q hq => rfl) (fun q hq => by unfold va_up; rw [if_neg hq]) (fun q hq => by unfold va_up; rw [if_neg hq]) ?_
  have hk : knM a j i = false := by
    cases i with
    | zero => simp [knM, he]
    | succ m =>
      rcases h0 with h0 | ⟨-, h0⟩
      · exact absurd h0 (by omega)
      · obtain ⟨g1, -, -⟩ := h j hj m (Or.inl (by omega))
        rw [show 24 * j + (m + 1) - 1 = 24 * j + m by omega, g1] at h0
        simp [knM, he, h0]
  unfold fdK va_up
  rw [if_pos rfl, if_pos rfl, hk]
  exact ⟨rfl, rfl, fun q => by cases q⟩
/-- what find leaves -/
def fdAll (a : Nat → Int32) (kn : Nat → UInt32) (ik im : Nat → Bool) : Prop := ∀ k, k < mN a → ∀ m, m < 24 → fdK a kn ik im k m
theorem fdI_all {a : Nat → Int32} {kn : Nat → UInt32} {ik im : Nat → Bool} (h : fdI a 24 0 kn ik im) : fdAll a kn ik im := fun k hk m hm => h k hk m (Or.inl hm)
def hdP (a : Nat → Int32) (ik : Nat → Bool) (x : Int32) (fr tt k : Nat) : Bool := decide (a (6 + k) = x) && ik (24 * k + fr) && ik (24 * k + tt)
def hdA (a : Nat → Int32) (kn : Nat → UInt32) (ik : Nat → Bool) (x : Int32) (fr tt : Nat) : Nat → Dm × Dm × Nat := acG (a 4) (hdP a ik x fr tt) (fun k => vl (kn (24 * k + fr))) (fun k => vl (kn (24 * k + tt)))
def hdF (f : Int32) (z : Dm × Dm × Nat) : Dm := if z.2.2 = 0 then vl FP.fconst0 else dMul (rsD f z.1 z.2.1 z.2.2) (vl 1120403456)
/-- the same, of the known prices themselves -/
def diA (a : Nat → Int32) (x : Int32) (fr tt : Nat) : Nat → Dm × Dm × Nat := acG (a 4) (fun k => decide (a (6 + k) = x) && knM a k fr && knM a k tt) (fun k => knD a k fr) (fun k => knD a k tt)
theorem acG_congr {f : Int32} {p p' : Nat → Bool} {P P' Q Q' : Nat → Dm} : ∀ {n : Nat}, (∀ k, k < n → p k = p' k ∧ (p k = true → P k = P' k ∧ Q k = Q' k)) → acG f p P Q n = acG f p' P' Q' n
  | 0, _ => rfl
  | n + 1, h => by
    obtain ⟨h1, h2⟩ := h n (by omega)
    have ih := acG_congr (f := f) (p := p) (p' := p') (P := P) (P' := P') (Q := Q) (Q' := Q') (n := n) (fun k hk => h k (by omega))
    by_cases hp : p n = true
    · obtain ⟨g1, g2⟩ := h2 hp
      rw [acG_t hp, acG_t (by rw [← h1]; exact hp), ih, g1, g2]
    · have hp := Bool.eq_false_iff.mpr hp
      rw [acG_f hp, acG_f (by rw [← h1]; exact hp), ih]
theorem hdA_eq {a : Nat → Int32} {kn : Nat → UInt32} {ik im : Nat → Bool} (h : fdAll a kn ik im) {x : Int32} {fr tt : Nat} (hf : fr < 24) (ht : tt < 24) : hdA a kn ik x fr tt (mN a) = diA a x fr tt (mN a) := by
  refine acG_congr fun k hk => ?_
  obtain ⟨g1, -, g3⟩ := h k hk fr hf
  obtain ⟨q1, -, q3⟩ := h k hk tt ht
  unfold hdP
  rw [g1, q1]
  refine ⟨rfl, fun hp => ?_⟩
  simp only [Bool.and_eq_true] at hp
  exact ⟨g3 hp.1.2, q3 hp.2⟩
def chD (a : Nat → Int32) (x : Int32) (fr : Nat) : Nat → Dm
  | 0 => vl 1120403456
  | n + 1 => dMul (chD a x fr n) (mvD a x (fr + n) (fr + n + 1))
def diD (a : Nat → Int32) (x : Int32) (fr tt : Nat) : Dm := hdF (a 4) (diA a x fr tt (mN a))
def diH (a : Nat → Int32) (x : Int32) (fr tt : Nat) : Bool := decide (0 < (diA a x fr tt (mN a)).2.2)
def agD (a : Nat → Int32) (fr tt : Nat) : Nat → Dm × Int32
  | 0 => (vl FP.fconst0, nI 0)
  | n + 1 => if diH a (nI n) fr tt then (dAdd (agD a fr tt n).1 (dMul (vl (FP.i2f (a (0 + n)))) (diD a (nI n) fr tt)), (agD a fr tt n).2 + a (0 + n)) else agD a fr tt n
def aggD (a : Nat → Int32) (fr tt : Nat) : Dm := if (agD a fr tt 4).2 = 0 then vl FP.fconst0 else dDiv (agD a fr tt 4).1 (vl (FP.i2f (agD a fr tt 4).2))
def hunD (x : Dm) : Int32 := FP.Core.toI (dAdd (dMul x (vl 1120403456)) (vl 1056964608))
def bitD (x : Dm) : Int32 := if x = .nan then nI 2143289344 else (FP.Core.of32 x).toInt32
def grD (a : Nat → Int32) (x : Int32) (fr tt : Nat) : Nat → Int32 × Dm
  | 0 => (-9, vl FP.fconst0)
  | n + 1 => if maM a x fr tt n && (decide ((grD a x fr tt n).1 = -9) || decide (FP.Core.order (dDiv (efD a n tt) (efD a n fr)) (grD a x fr tt n).2 = some .gt)) then (nI n, dDiv (efD a n tt) (efD a n fr)) else grD a x fr tt n
/-- answers -/
def mKBf (a : Nat → Int32) (x y : Int32) : Int32 := if isItM a x && isMonM y then (if knM a (nC x) (nC y) then bitD (knD a (nC x) (nC y)) else -9) else -1
def mIIf (a : Nat → Int32) (x y : Int32) : Int32 := if isItM a x && isMonM y then (if knM a (nC x) (nC y) then bI (knM a (nC x) (nC y) && !efM a (nC x) (nC y)) else -9) else -1
def mICf (a : Nat → Int32) (x : Int32) : Int32 := if isMonM x then nI (cntP (fun k => knM a k (nC x) && !efM a k (nC x)) (mN a)) else -1
def mMBf (a : Nat → Int32) (x y z : Int32) : Int32 := if smmM x y z then bitD (mvD a x (nC y) (nC z)) else -1
def mGRf (a : Nat → Int32) (x y z : Int32) : Int32 := if smmM x y z then (grD a x (nC y) (nC z) (mN a)).1 else -1
def mDIf (a : Nat → Int32) (x y z : Int32) : Int32 := if smmM x y z then (if diH a x (nC y) (nC z) then hunD (diD a x (nC y) (nC z)) else -9) else -1
def mCIf (a : Nat → Int32) (x y z : Int32) : Int32 := if smmM x y z && !decide (z < y) then hunD (chD a x (nC y) (nC z - nC y)) else -1
def mDRf (a : Nat → Int32) (x y z : Int32) : Int32 := if smmM x y z && decide (y ≤ z) then (if diH a x (nC y) (nC z) then nI 1000000 + (hunD (chD a x (nC y) (nC z - nC y)) - hunD (diD a x (nC y) (nC z))) else -9) else -1
def mAXf (a : Nat → Int32) (x y : Int32) : Int32 := if isMonM x && isMonM y then (if 0 < (agD a (nC x) (nC y) 4).2 then hunD (aggD a (nC x) (nC y)) else -9) else -1
def mABf (a : Nat → Int32) (x y : Int32) : Int32 := if isMonM x && isMonM y then (if 0 < (agD a (nC x) (nC y) 4).2 then bitD (aggD a (nC x) (nC y)) else -9) else -1
abbrev MS : Type := UInt32 × UInt32 × Nat × (Nat → UInt32) × (Nat → Bool) × (Nat → Bool) × UInt32
section ZB
variable {p : Program} {l : Launch} {e : Env} {R : Room} {s : State} {m : MethodId} {args : Array Value} {below : List Frame} {meth : Method} {c : Code} {H : Heap} {locs : List Loc} {cells slots : Nat} {Q : State → Prop}
variable {pc : Nat} {ls : Array Slot} {rest st0 : List Value} {A : Nat → Prop} {H0 : Heap} {cc : ByteArray} {D : va_G} {cl : List vw_C} {ws : va_W} {tys : List (ClassId × FieldType)} {b : Nat}
/-- a truth value put into a row of truth values -/
theorem n_zastB (hexec : p.tables.exec = Jvm.exec) (hb : c.code = cc) (hK : va_K D cl tys s) (hP : va_P D cl ws H) (hD : va_D A ws) (hS : va_S A H0 H locs) (q0 t0 : Nat) {cA : ClassId} {n : Nat} {f : Nat → Bool} (ha : ws[q0]? = some (b, .inl (cA, n, .inl (fun jj => bI (f jj))))) (ht : tys[t0]? = some (cA, .boolean)) {j : Nat} {x : Bool} (hj : j < n) (hn : n < 2 ^ 31) (hdg : decode cc pc = .ok (.bastore, 1))
    (kk : ∀ (H1 : Heap) (locs1 : List Loc), va_P D cl (ws.set q0 (b, .inl (cA, n, .inl (fun jj => bI (va_up f j x jj))))) H1 → va_D A (ws.set q0 (b, .inl (cA, n, .inl (fun jj => bI (va_up f j x jj))))) → va_S A H0 H1 locs1 → W p l e R s m args below meth c H1 locs1 cells slots Q (F0 m (pc + 1) ls rest)) : W p l e R s m args below meth c H locs cells slots Q (F0 m pc ls (.int (bI x) :: .int (nI j) :: .ref b :: rest)) := by
  refine n_zast hexec hb hK hP hD hS q0 t0 ha ht (x := bI x) (by cases x; exact Or.inl rfl; exact Or.inr rfl) hj hn hdg (fun H1 locs1 hP1 hD1 hS1 => ?_)
  have e : upd (fun jj => bI (f jj)) j (bI x) = fun jj => bI (va_up f j x jj) := by
    funext q
    unfold upd va_up
    split <;> rfl
  rw [e] at hP1 hD1
  exact kk H1 locs1 hP1 hD1 hS1
/-- a loop that draws, over a heap that stays -/
theorem lpRD {cs : List Choice} {d0 : Drawn} (hd0 : s.drawn.sameBut d0 cs) {S : Type} (N : Nat) (I : Nat → S → Prop) (L : Nat → S → List (Nat × Value)) {nL : Nat} {stk : List Value}
    (hexit : ∀ (u : S) (ls : Array Slot) (d0 : Drawn), s.drawn.sameBut d0 cs → I N u → lv_has ls nL (L N u) → W p l e R (s.setDrawn d0) m args below meth c H locs cells slots Q (F0 m pc ls stk))
    (hstep : ∀ (i : Nat) (u : S) (ls : Array Slot) (d0 : Drawn), s.drawn.sameBut d0 cs → i < N → I i u → lv_has ls nL (L i u) → (∀ (u' : S) (ls' : Array Slot) (d0 : Drawn), s.drawn.sameBut d0 cs → I (i + 1) u' → lv_has ls' nL (L (i + 1) u') → W p l e R (s.setDrawn d0) m args below meth c H locs cells slots Q (F0 m pc ls' stk)) → W p l e R (s.setDrawn d0) m args below meth c H locs cells slots Q (F0 m pc ls stk))
    (i0 : Nat) (u0 : S) (hi : i0 ≤ N) (h0 : I i0 u0) (hl : lv_has ls nL (L i0 u0)) : W p l e R (s.setDrawn d0) m args below meth c H locs cells slots Q (F0 m pc ls stk) := by
  have key : ∀ (d i : Nat) (u : S) (ls : Array Slot) (d0 : Drawn), s.drawn.sameBut d0 cs → i + d = N → I i u → lv_has ls nL (L i u) → W p l e R (s.setDrawn d0) m args below meth c H locs cells slots Q (F0 m pc ls stk) := by
    intro d
    induction d with
    | zero => intro i u ls d0 hd0 hd hI hl; obtain rfl : i = N := hd; exact hexit u ls d0 hd0 hI hl
    | succ d ih => intro i u ls d0 hd0 hd hI hl; exact hstep i u ls d0 hd0 (by omega) hI hl (fun u' ls' d1 hd1 h1 h2 => ih (i + 1) u' ls' d1 hd1 (by omega) h1 h2)
  exact key (N - i0) i0 u0 ls d0 hd0 (by omega) h0 hl
end ZB
theorem fcmp_self {x : UInt32} : FP.fcmp x x = some .eq ↔ ¬ vl x = .nan := by
  show FP.Core.order (vl x) (vl x) = some .eq ↔ _
  constructor
  · intro h e
    rw [e] at h
    cases h
  · intro h
    exact FP.Core.order_self h
/-- as Met.ofW, of a method that has no row among the natives, whatever its class is called -/
theorem met_ofWF {l : Launch} {y : MethodName} {ws ws' : List Cond} {rm : Room} {Pc : Array Value → State → Prop} {Qc : Array Value → State → Outcome → State → Prop} {mc ms : Nat} {free : Addr → Prop} {cc : ByteArray} {maxL : Nat} {ret : Option FieldType}
    (hy : plainFor y = true) (hw : ws = Cond.code y cc maxL ret :: ws')
    (body : ∀ p e s m args below meth c s₁, BodyLoose p l y (headSpec ws rm) cc maxL ret e s m args below meth c s₁ → c.maxLocals = maxL → Pc args s →
      W p l e (headSpec ws rm).room s m args below meth c s.heap [] 0 0 (MQ below Qc args s mc ms free) (entryFrame m args maxL)) : Met l y ws rm Pc Qc mc ms free := by
  refine MetFree.of_bodySF (code := cc) (maxLocals := maxL) (ret := ret) hy ?_ ?_
  · intro args s m h hn
    obtain ⟨meth, c, h1, h2, h3, h4, h5, h6, -, -⟩ := Cond.code_spec hn (atoms_spec (ws := ws) h _ (by rw [hw]; exact List.mem_cons_self))
    exact ⟨meth, c, h1, h2, h3, h4, h5, h6⟩
  · intro p e s m args below meth c s₁ B hml hP _
    have hh0 : s₁.heap = s.heap := by rw [B.state]; rfl
    obtain ⟨t, a1, o, b1, b2, b3⟩ := body p e s m args below meth c s₁ B hml hP s₁ hh0 (Stand.of_body B)
    exact ⟨t, o, a1, b1, b2, ⟨b3.1, b3.2⟩⟩
