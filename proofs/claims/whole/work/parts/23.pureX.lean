/-! the whole object's words -/
theorem slot_P {D : va_G} {cl : List vw_C} {G : GG} {sa : Nat → Nat → Nat} {g : Nat → Nat → Nat → Int32} {head wc : va_W} {H : Heap} {i : Nat} (hi : i < 8) (hP : va_P D cl (head ++ rings G sa g) H) (isC : List Nat) (hC : isC.filterMap (fun i => head[i]?) = wc) : va_P D cl (wc ++ bcells G (sa i) (g i)) H := va_P.app ((P_left hP).sub isC hC) (rings_P (P_right hP) hi)
theorem slot_D {A : Nat → Prop} {G : GG} {sa : Nat → Nat → Nat} {g : Nat → Nat → Nat → Int32} {head wc : va_W} {i : Nat} (hi : i < 8) (hD : va_D A (head ++ rings G sa g)) (isC : List Nat) (hn : va_nd isC = true) (hC : isC.map (fun i => head[i]?) = wc.map some) : va_D A (wc ++ bcells G (sa i) (g i)) := by
  refine va_D.app ((D_left hD).sub isC hn hC) (ringsN_at (D_right hD) hi) (fun a b x y hx hy => ?_)
  obtain ⟨z, hz, hze⟩ := adr_mem.mp (adr_heads isC hC x.1 (adr_at hx))
  rw [← hze]
  exact D_apart hD hz (ringsN_mem.mpr ⟨i, hi, List.mem_of_getElem? hy⟩)
abbrev TS : Type := Bool × (Nat → Bool) × (Nat → UInt32) × (Nat → Bool) × (Nat → UInt32)
def tI (b : Nat → Nat → Int32) (u : TS) : Prop := okV u.2.2.1 ∧ okV u.2.2.2.2 ∧ (u.1 = true → tOK b u.2.1 u.2.2.1 u.2.2.2.1 u.2.2.2.2)
def xI (i n : Nat) (u : TS) (b : Nat → Nat → Int32) : Prop := i < 8 ∧ n ≤ 8 ∧ bWF b ∧ tI b u
def isIt (b : Nat → Nat → Int32) (x : Int32) : Bool := !decide (x < 0) && !decide (nI (itN b) ≤ x)
theorem isIt_nat {b : Nat → Nat → Int32} (hB : bWF b) {x : Int32} (h : isIt b x = true) : ∃ k, k < itN b ∧ x = nI k := by
  unfold isIt at h
  simp only [Bool.and_eq_true, Bool.not_eq_true', decide_eq_false_iff_not] at h
  have h12 := hB.1.2
  obtain ⟨j, h1, h2, -⟩ := pk_mu h.1 h.2 (by omega)
  exact ⟨j, h1, h2⟩
theorem isMon_nat {x : Int32} (h : isMon x = true) : ∃ k, k < 24 ∧ x = nI k := by
  unfold isMon at h
  simp only [Bool.and_eq_true, Bool.not_eq_true', decide_eq_false_iff_not] at h
  obtain ⟨j, h1, h2, -⟩ := pk_mu h.1 h.2 (by omega)
  exact ⟨j, h1, h2⟩
theorem isStr_nat {x : Int32} (h : isStr x = true) : ∃ k, k < 4 ∧ x = nI k := by
  unfold isStr at h
  simp only [Bool.and_eq_true, Bool.not_eq_true', decide_eq_false_iff_not] at h
  obtain ⟨j, h1, h2, -⟩ := pk_mu h.1 h.2 (by omega)
  exact ⟨j, h1, h2⟩
theorem isIt_nI {b : Nat → Nat → Int32} (hB : bWF b) {k : Nat} (h : k < itN b) : isIt b (nI k) = true := by
  have h12 := hB.1.2
  unfold isIt
  simp only [Bool.and_eq_true, Bool.not_eq_true', decide_eq_false_iff_not]
  exact ⟨nI_pos (by omega), nI_ge h (by omega)⟩
theorem isMon_nI {k : Nat} (h : k < 24) : isMon (nI k) = true := by
  unfold isMon
  simp only [Bool.and_eq_true, Bool.not_eq_true', decide_eq_false_iff_not]
  exact ⟨nI_pos (by omega), nI_ge h (by omega)⟩
theorem isStr_nI {k : Nat} (h : k < 4) : isStr (nI k) = true := by
  unfold isStr
  simp only [Bool.and_eq_true, Bool.not_eq_true', decide_eq_false_iff_not]
  exact ⟨nI_pos (by omega), nI_ge h (by omega)⟩
/-- what a number is as a place -/
abbrev nC (x : Int32) : Nat := x.toNatClampNeg
theorem nC_nI {k : Nat} (h : k < 2 ^ 31) : nC (nI k) = k := nI_clamp h
def kEB (b : Nat → Nat → Int32) : Nat → Bool := fun j => knE b (j / 24) (j % 24)
def kVB (b : Nat → Nat → Int32) : Nat → UInt32 := fun j => knV b (j / 24) (j % 24)
theorem kOK_alike {b : Nat → Nat → Int32} {e2 : Nat → Bool} {v2 : Nat → UInt32} (h : ∀ k, k < itN b → ∀ m, m < 24 → kOK b e2 v2 k m) : alikeT (itN b) e2 v2 (kEB b) (kVB b) := by
  intro k hk m hm
  obtain ⟨h1, h2⟩ := h k hk m hm
  unfold kEB kVB
  rw [show (k * 24 + m) / 24 = k by omega, show (k * 24 + m) % 24 = m by omega]
  exact ⟨h1, fun q => h2 (by rw [← h1]; exact q)⟩
theorem hasDir_alike {b : Nat → Nat → Int32} {e e' : Nat → Bool} {v v' : Nat → UInt32} (h : alikeT (itN b) e v e' v') {x : Int32} {f t : Nat} (hf : f < 24) (ht : t < 24) : hasDir b e x f t = hasDir b e' x f t := by
  unfold hasDir
  rw [cntM_alike h hf ht]
theorem dirC_alike {b : Nat → Nat → Int32} {e e' : Nat → Bool} {v v' : Nat → UInt32} (h : alikeT (itN b) e v e' v') {x : Int32} {f t : Nat} (hf : f < 24) (ht : t < 24) : dirC b e v x f t = dirC b e' v' x f t := by
  unfold dirC
  rw [movC_alike h hf ht]
theorem wDir_alike {b : Nat → Nat → Int32} {e e' : Nat → Bool} {v v' : Nat → UInt32} (h : alikeT (itN b) e v e' v') {f t : Nat} (hf : f < 24) (ht : t < 24) : ∀ n, wDir b e f t n = wDir b e' f t n
  | 0 => rfl
  | n + 1 => by unfold wDir; rw [hasDir_alike h hf ht, wDir_alike h hf ht n]
theorem agC_alike {b : Nat → Nat → Int32} {e e' : Nat → Bool} {v v' : Nat → UInt32} (h : alikeT (itN b) e v e' v') {f t : Nat} (hf : f < 24) (ht : t < 24) : ∀ n, agC b e v f t n = agC b e' v' f t n
  | 0 => rfl
  | n + 1 => by unfold agC; rw [hasDir_alike h hf ht, agC_alike h hf ht n, dirC_alike h hf ht]
theorem aggC_alike {b : Nat → Nat → Int32} {e e' : Nat → Bool} {v v' : Nat → UInt32} (h : alikeT (itN b) e v e' v') {f t : Nat} (hf : f < 24) (ht : t < 24) : aggC b e v f t = aggC b e' v' f t := by
  unfold aggC
  rw [agC_alike h hf ht, wDir_alike h hf ht]
theorem chC_alike {b : Nat → Nat → Int32} {e e' : Nat → Bool} {v v' : Nat → UInt32} (h : alikeT (itN b) e v e' v') {x : Int32} {f : Nat} : ∀ n, f + n < 24 → chC b e v x f n = chC b e' v' x f n
  | 0, _ => rfl
  | n + 1, hn => by unfold chC; rw [chC_alike h n (by omega), movC_alike h (by omega) (by omega)]
theorem tOK_e {b : Nat → Nat → Int32} {e1 : Nat → Bool} {v1 : Nat → UInt32} {e2 : Nat → Bool} {v2 : Nat → UInt32} (h : tOK b e1 v1 e2 v2) : alikeT (itN b) e1 v1 (eB b) (vB b) := eOK_alike h.1
theorem tOK_k {b : Nat → Nat → Int32} {e1 : Nat → Bool} {v1 : Nat → UInt32} {e2 : Nat → Bool} {v2 : Nat → UInt32} (h : tOK b e1 v1 e2 v2) : alikeT (itN b) e2 v2 (kEB b) (kVB b) := kOK_alike h.2
/-- the answers of the face -/
def aiOK (x y z : Int32) : Bool := isStr x && inR y (nI 1) (nI 1000) && inR z (nI 1) (nI 4095)
def spOK (b : Nat → Nat → Int32) (x y z : Int32) : Bool := isIt b x && isMon y && inR z (nI 0) (nI 99999)
def riOK (b : Nat → Nat → Int32) (x y z : Int32) : Bool := isIt b x && isIt b y && !decide (x = y) && isMon z
def impN (e1 e2 : Nat → Bool) (mo n : Nat) : Nat := cntP (fun k => hasImp e1 e2 k mo) n
def bPr (b : Nat → Nat → Int32) (k mo : Nat) (p : Int32) : Nat → Nat → Int32 := bPut b 8 (k * 24 + mo) p
def clF (c : Bool) (a d : Nat → Nat → Nat → Int32) : Nat → Nat → Nat → Int32 := cond c a d
theorem up_self9 {α : Type} (g : Nat → α) (i : Nat) : va_up g i (g i) = g := by
  funext j
  unfold va_up
  split
  · rename_i h; rw [h]
  · rfl
