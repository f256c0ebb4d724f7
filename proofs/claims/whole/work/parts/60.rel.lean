/-! the reference's row and the basket: what they have in common -/
def Rl (a : Nat → Int32) (b : Nat → Nat → Int32) : Prop := (a 5 = b 0 0 ∧ a 4 = b 0 1) ∧ (∀ k, k < 4 → a k = b 1 k) ∧ (∀ k, k < 12 → a (6 + k) = b 2 k) ∧ (∀ k, k < 12 → a (18 + k) = b 3 k) ∧ (∀ k, k < 12 → a (30 + k) = b 4 k) ∧ (∀ j, j < 288 → a (66 + j) = b 8 j) ∧ (∀ k, k < 12 → (a (42 + k) = -9 ∧ b 5 k = -1) ∨ (b 5 k ≠ -1 ∧ a (42 + k) = b 5 k ∧ a (54 + k) = b 7 k))
def LKb (b : Nat → Nat → Int32) : Prop := (∀ k, k < 12 → b 5 k ≠ -1 → k < itN b ∧ nwN b k < itN b ∧ b 6 (nwN b k) = nI k) ∧ (∀ j, j < 12 → b 6 j ≠ -1 → j < itN b ∧ odN b j < itN b ∧ b 5 (odN b j) = nI j) ∧ (∀ k, k < 12 → b 5 k ≠ -1 → b 6 k = -1)
def RGb (b : Nat → Nat → Int32) : Prop := (∀ k, k < itN b → 1 ≤ (b 3 k).toInt ∧ (b 3 k).toInt ≤ 1000) ∧ (∀ j, j < 288 → (b 8 j).toInt ≤ 99999)
def Rel (a : Nat → Int32) (b : Nat → Nat → Int32) : Prop := bWF b ∧ Rl a b ∧ LKb b ∧ RGb b
theorem nI_n9 {n : Nat} (h : n < 2 ^ 31) : nI n ≠ -9 := by
  intro e
  have h1 := congrArg Int32.toInt e
  rw [nI_toInt h] at h1
  have : (-9 : Int32).toInt = -9 := by decide
  omega
theorem nI_n1 {n : Nat} (h : n < 2 ^ 31) : nI n ≠ -1 := by
  intro e
  have h1 := congrArg Int32.toInt e
  rw [nI_toInt h] at h1
  have : (-1 : Int32).toInt = -1 := by decide
  omega
theorem Rel.n {a : Nat → Int32} {b : Nat → Nat → Int32} (h : Rel a b) : mN a = itN b := by unfold mN itN; rw [h.2.1.1.1]
theorem Rel.le {a : Nat → Int32} {b : Nat → Nat → Int32} (h : Rel a b) : itN b ≤ 12 := h.1.1.2
theorem Rel.mC {a : Nat → Int32} {b : Nat → Nat → Int32} (h : Rel a b) : mC a := ⟨by rw [h.n, h.2.1.1.1]; exact h.1.1.1, by rw [h.n]; exact h.1.1.2⟩
theorem Rel.w {a : Nat → Int32} {b : Nat → Nat → Int32} (h : Rel a b) {k : Nat} (hk : k < 4) : a (0 + k) = b 1 k := by rw [Nat.zero_add]; exact h.2.1.2.1 k hk
theorem Rel.st {a : Nat → Int32} {b : Nat → Nat → Int32} (h : Rel a b) {k : Nat} (hk : k < 12) : a (6 + k) = b 2 k := h.2.1.2.2.1 k hk
theorem Rel.sz {a : Nat → Int32} {b : Nat → Nat → Int32} (h : Rel a b) {k : Nat} (hk : k < 12) : a (18 + k) = b 3 k := h.2.1.2.2.2.1 k hk
theorem Rel.se {a : Nat → Int32} {b : Nat → Nat → Int32} (h : Rel a b) {k : Nat} (hk : k < 12) : a (30 + k) = b 4 k := h.2.1.2.2.2.2.1 k hk
theorem Rel.pr {a : Nat → Int32} {b : Nat → Nat → Int32} (h : Rel a b) {k m : Nat} (hk : k < 12) (hm : m < 24) : a (66 + 24 * k + m) = b 8 (k * 24 + m) := by
  rw [show 66 + 24 * k + m = 66 + (k * 24 + m) by omega]; exact h.2.1.2.2.2.2.2.1 _ (by omega)
theorem Rel.lk {a : Nat → Int32} {b : Nat → Nat → Int32} (h : Rel a b) {k : Nat} (hk : k < 12) : (a (42 + k) = -9 ∧ b 5 k = -1) ∨ (b 5 k ≠ -1 ∧ a (42 + k) = b 5 k ∧ a (54 + k) = b 7 k) := h.2.1.2.2.2.2.2.2 k hk
theorem Rel.lnk {a : Nat → Int32} {b : Nat → Nat → Int32} (h : Rel a b) {k : Nat} (hk : k < 12) (hb : b 5 k ≠ -1) : a (42 + k) = nI (nwN b k) ∧ nwM a k = nwN b k ∧ ovM a k = ovN b k ∧ a (54 + k) = nI (ovN b k) ∧ nwN b k < itN b ∧ ovN b k < 24 ∧ k < itN b := by
  rcases h.lk hk with ⟨-, e⟩ | ⟨-, e1, e2⟩
  · exact absurd e hb
  · obtain ⟨f1, f2, f3, f4⟩ := h.1.2.2.2.1 k hk hb
    obtain ⟨g1, g2, -⟩ := h.2.2.1.1 k hk hb
    refine ⟨e1.trans f1, by unfold nwM nwN; rw [e1], by unfold ovM ovN; rw [e2], e2.trans f3, g2, f4, g1⟩
theorem Rel.nil {a : Nat → Int32} {b : Nat → Nat → Int32} (h : Rel a b) {k : Nat} (hk : k < 12) : a (42 + k) = -9 ↔ b 5 k = -1 := by
  have h12 := h.le
  constructor
  · intro e
    apply Classical.byContradiction
    intro hb
    obtain ⟨e1, -, -, -, e5, -⟩ := h.lnk hk hb
    exact nI_n9 (by omega) (e1.symm.trans e)
  · intro e
    rcases h.lk hk with ⟨q, -⟩ | ⟨q, -⟩
    · exact q
    · exact absurd e q
theorem Rel.mWF {a : Nat → Int32} {b : Nat → Nat → Int32} (h : Rel a b) : mWF a := by
  have h12 := h.le
  refine ⟨h.mC, fun k hk hne => ?_⟩
  obtain ⟨e1, e2, e3, e4, e5, e6, -⟩ := h.lnk hk (fun e => hne ((h.nil hk).mpr e))
  rw [e2, e3]
  exact ⟨e1, by omega, e4, e6⟩
theorem Rel.w4 {a : Nat → Int32} {b : Nat → Nat → Int32} (h : Rel a b) : ∀ k, k < 4 → 0 ≤ (a (0 + k)).toInt ∧ (a (0 + k)).toInt ≤ 100 := by
  intro k hk
  obtain ⟨e1, e2⟩ := h.1.2.2.2.2.2.1 k hk
  rw [h.w hk, e1, nI_toInt (by omega)]
  omega
theorem olN_no {a : Nat → Int32} {y : Int32} : ∀ {n : Nat}, olN a y n = none → ∀ k, k < n → a (42 + k) ≠ y
  | 0, _, k, hk => absurd hk (Nat.not_lt_zero k)
  | n + 1, h, k, hk => by
    rw [olN] at h
    cases h1 : olN a y n with
    | some q => rw [h1] at h; cases h
    | none =>
      rw [h1] at h
      simp only [] at h
      split at h
      · cases h
      · rename_i e
        by_cases g : k = n
        · subst g; exact e
        · exact olN_no h1 k (by omega)
theorem Rel.olQ {a : Nat → Int32} {b : Nat → Nat → Int32} (h : Rel a b) {j q : Nat} (hj : j < 12) (hq : q < itN b) (e : a (42 + q) = nI j) : b 5 q ≠ -1 ∧ nwN b q = j ∧ b 6 j = nI q := by
  have h12 := h.le
  have hb : b 5 q ≠ -1 := fun z => nI_n9 (by omega) (e.symm.trans ((h.nil (by omega)).mpr z))
  obtain ⟨e1, -, -, -, e5, -⟩ := h.lnk (by omega) hb
  have e3 : nwN b q = j := (nI_eq (by omega) (by omega)).mp (e1.symm.trans e)
  have e4 := (h.2.2.1.1 q (by omega) hb).2.2
  rw [e3] at e4
  exact ⟨hb, e3, e4⟩
theorem Rel.old {a : Nat → Int32} {b : Nat → Nat → Int32} (h : Rel a b) {j : Nat} (hj : j < 12) : olI a (nI j) = -9 ↔ b 6 j = -1 := by
  have h12 := h.le
  constructor
  · intro e
    apply Classical.byContradiction
    intro h6
    obtain ⟨g1, g2, g3⟩ := h.2.2.1.2.1 j hj h6
    have hn : olN a (nI j) (mN a) = none := by
      unfold olI at e
      cases h1 : olN a (nI j) (mN a) with
      | none => rfl
      | some k =>
        rw [h1] at e
        have := (olN_lt h1).1
        rw [h.n] at this
        exact absurd e (nI_n9 (by omega))
    have h5 : b 5 (odN b j) ≠ -1 := by rw [g3]; exact nI_n1 (by omega)
    obtain ⟨e1, -⟩ := h.lnk (by omega) h5
    refine olN_no hn (odN b j) (by rw [h.n]; exact g2) ?_
    rw [e1]
    unfold nwN
    rw [g3, nI_clamp (by omega)]
  · intro h6
    apply Classical.byContradiction
    intro hne
    obtain ⟨-, h1, h2⟩ := olI_ne hne
    rw [h.n] at h1
    obtain ⟨-, -, e⟩ := h.olQ hj h1 h2
    rw [h6] at e
    exact nI_n1 (by omega) e.symm
theorem Rel.olD {a : Nat → Int32} {b : Nat → Nat → Int32} (h : Rel a b) {j : Nat} (hj : j < 12) (h6 : b 6 j ≠ -1) : olD a (nI j) = odN b j := by
  have h12 := h.le
  obtain ⟨-, h1, h2⟩ := olI_ne (a := a) (y := nI j) (fun e => h6 ((h.old hj).mp e))
  rw [h.n] at h1
  obtain ⟨-, -, e⟩ := h.olQ hj h1 h2
  unfold odN
  rw [e, nI_clamp (by omega)]
theorem Rel.nilB {a : Nat → Int32} {b : Nat → Nat → Int32} (h : Rel a b) {k : Nat} (hk : k < 12) : decide (a (42 + k) = -9) = decide (b 5 k = -1) := decide_eq_decide.mpr (h.nil hk)
theorem Rel.oldB {a : Nat → Int32} {b : Nat → Nat → Int32} (h : Rel a b) {k : Nat} (hk : k < 12) : decide (olI a (nI k) = -9) = decide (b 6 k = -1) := decide_eq_decide.mpr (h.old hk)
theorem Rel.tk {a : Nat → Int32} {b : Nat → Nat → Int32} (h : Rel a b) {k : Nat} (hk : k < 12) : tkP a k = isLnk b k := by
  unfold tkP isLnk
  rw [h.nilB hk, h.oldB hk]
theorem Rel.ob {a : Nat → Int32} {b : Nat → Nat → Int32} (h : Rel a b) {k mo : Nat} (hk : k < 12) (hm : mo < 24) : obM a k mo = hasObs b k mo := by
  unfold obM hasObs
  rw [h.pr hk hm, h.se hk]
  exact Bool.and_comm _ _
theorem Rel.pni {a : Nat → Int32} {b : Nat → Nat → Int32} (h : Rel a b) {k mo : Nat} (hk : k < 12) : (decide (a (42 + k) = -9) || !decide (a (54 + k) < nI mo)) = !isPNI b k mo := by
  unfold isPNI
  rw [h.nilB hk]
  rcases h.lk hk with ⟨-, e⟩ | ⟨e, -, e2⟩
  · simp [e]
  · rw [e2]
    have : decide (b 7 k < nI mo) = !decide (nI mo ≤ b 7 k) := by
      rw [← decide_not, decide_eq_decide, Int32.le_iff_toInt_le, Int32.lt_iff_toInt_lt]
      omega
    rw [this]
    simp [e]
theorem Rel.ef {a : Nat → Int32} {b : Nat → Nat → Int32} (h : Rel a b) {k mo : Nat} (hk : k < 12) (hm : mo < 24) : efM a k mo = hasEff b k mo := by
  have h12 := h.le
  unfold efM hasEff
  rw [h.oldB hk, h.pni hk]
  cases hp : isPNI b k mo
  · simp [h.ob hk hm]
  · obtain ⟨-, e2, e3, -, e5, e6, -⟩ := h.lnk hk (isPNI_ne hp)
    rw [e2, e3, h.ob hk e6, h.ob (k := nwN b k) (by omega) e6, h.ob (k := nwN b k) (by omega) hm]
    simp
theorem Rel.ma {a : Nat → Int32} {b : Nat → Nat → Int32} (h : Rel a b) {x : Int32} {fr tt k : Nat} (hk : k < 12) (hf : fr < 24) (ht : tt < 24) : maM a x fr tt k = mat b (eB b) x fr tt k := by
  unfold maM mat
  rw [h.st hk, h.ef hk hf, h.ef hk ht, eB_at hf, eB_at ht]
theorem Rel.it {a : Nat → Int32} {b : Nat → Nat → Int32} (h : Rel a b) (x : Int32) : isItM a x = isIt b x := by
  have h12 := h.le
  unfold isItM isIt inR
  rw [h.n]
  have : decide (nI (itN b) - nI 1 < x) = decide (nI (itN b) ≤ x) := by
    rw [decide_eq_decide, Int32.lt_iff_toInt_lt, Int32.le_iff_toInt_le, pk_sub_toInt (by omega) (by omega), nI_toInt (by omega)]
    omega
  rw [this]; rfl
theorem isIt_c {b : Nat → Nat → Int32} (hB : bWF b) {x : Int32} (h : isIt b x = true) : nC x < itN b ∧ x = nI (nC x) := by
  have h12 := hB.1.2
  obtain ⟨k, h1, rfl⟩ := isIt_nat hB h
  rw [nC_nI (by omega)]
  exact ⟨h1, rfl⟩
theorem isMon_c {x : Int32} (h : isMon x = true) : nC x < 24 ∧ x = nI (nC x) := by
  obtain ⟨k, h1, rfl⟩ := isMon_nat h
  rw [nC_nI (by omega)]
  exact ⟨h1, rfl⟩
theorem isStr_c {x : Int32} (h : isStr x = true) : nC x < 4 ∧ x = nI (nC x) := by
  obtain ⟨k, h1, rfl⟩ := isStr_nat h
  rw [nC_nI (by omega)]
  exact ⟨h1, rfl⟩
theorem inR_c {x : Int32} {lo hi : Nat} (hh : hi < 2 ^ 31) (hl : lo < 2 ^ 31) (h : inR x (nI lo) (nI hi) = true) : lo ≤ nC x ∧ nC x ≤ hi ∧ x = nI (nC x) := by
  unfold inR at h
  simp only [Bool.and_eq_true, Bool.not_eq_true', decide_eq_false_iff_not] at h
  obtain ⟨h1, h2⟩ := h
  have h3 : ¬ x < 0 := by
    rw [Int32.lt_iff_toInt_lt] at h1 ⊢
    rw [nI_toInt hl] at h1
    have : (0 : Int32).toInt = 0 := by decide
    omega
  obtain ⟨j, hj, rfl⟩ := nI_of h3
  rw [nI_ltI hj hl] at h1
  rw [nI_ltI hh hj] at h2
  rw [nC_nI hj]
  exact ⟨by omega, by omega, rfl⟩
/-! the answers of edits and reads are alike -/
theorem an_AI {a : Nat → Int32} {b : Nat → Nat → Int32} (h : Rel a b) (x y z : Int32) : mAIf a x y z = fAI b x y z ∧ mAIe a x y z = eAI b x y z := by
  have h12 := h.le
  unfold mAIf fAI mAIe eAI
  rw [show mAIok x y z = aiOK x y z by unfold mAIok aiOK; rw [isStrM_eq], h.n]
  by_cases e : itN b = 12
  · simp [e]
  · have : itN b < 12 := by omega
    simp [e, this]
theorem an_SP {a : Nat → Int32} {b : Nat → Nat → Int32} (h : Rel a b) (x y z : Int32) : mSPf a x y z = fSP b x y z ∧ mSPok a x y z = spOK b x y z := by
  have h12 := h.le
  have e : mSPok a x y z = spOK b x y z := by unfold mSPok spOK; rw [h.it, isMonM_eq]
  refine ⟨?_, e⟩
  unfold mSPf fSP
  rw [e]
  split
  · rename_i q
    unfold spOK at q
    simp only [Bool.and_eq_true] at q
    exact h.pr (by have := (isIt_c h.1 q.1.1).1; omega) (isMon_c q.1.2).1
  · rfl
theorem an_QP {a : Nat → Int32} {b : Nat → Nat → Int32} (h : Rel a b) (x y : Int32) : mQPf a x y = fQP b x y := by
  have h12 := h.le
  unfold mQPf fQP
  rw [h.it, isMonM_eq]
  split
  · rename_i q
    simp only [Bool.and_eq_true] at q
    exact h.pr (by have := (isIt_c h.1 q.1).1; omega) (isMon_c q.2).1
  · rfl
theorem an_SW {a : Nat → Int32} {b : Nat → Nat → Int32} (h : Rel a b) (x y : Int32) : mSWf a x y = fSW b x y ∧ mSWok x y = swOK x y := by
  have e : mSWok x y = swOK x y := by unfold mSWok swOK; rw [isStrM_eq]
  refine ⟨?_, e⟩
  unfold mSWf fSW
  rw [e]
  split
  · rename_i q
    unfold swOK at q
    simp only [Bool.and_eq_true] at q
    exact h.w (isStr_c q.1).1
  · rfl
theorem an_SF {a : Nat → Int32} {b : Nat → Nat → Int32} (h : Rel a b) (x : Int32) : mSFf a x = fSF b x := by
  unfold mSFf fSF
  rw [h.2.1.1.2]
theorem Rel.rok {a : Nat → Int32} {b : Nat → Nat → Int32} (h : Rel a b) (x y z : Int32) : mRIok a x y z = riOK b x y z := by unfold mRIok riOK; rw [h.it, h.it, isMonM_eq]
theorem Rel.rs {a : Nat → Int32} {b : Nat → Nat → Int32} (h : Rel a b) {k j mo : Nat} (hk : k < 12) (hj : j < 12) (hm : mo < 24) : mRIs a k j mo = canL b k j mo := by
  unfold mRIs canL
  rw [h.st hk, h.st hj, h.tk hk, h.tk hj, h.ob hk hm, h.ob hj hm]
theorem rplN_eq {a : Nat → Int32} {b : Nat → Nat → Int32} (h : Rel a b) : rplN a = lnkN b := by
  have h12 := h.le
  unfold rplN lnkN
  rw [h.n]
  refine cntP_congr fun k hk => ?_
  rw [h.nilB (by omega)]
theorem an_RO {a : Nat → Int32} {b : Nat → Nat → Int32} (h : Rel a b) (x : Int32) : mROf a x = fRO b x := by
  have h12 := h.le
  unfold mROf fRO
  rw [h.it]
  split
  · rename_i q
    have hk := (isIt_c h.1 q).1
    rcases h.lk (k := nC x) (by omega) with ⟨e1, e2⟩ | ⟨e1, e2, -⟩
    · rw [if_pos e2, e1]
    · rw [if_neg e1, e2]
  · rfl
theorem an_MC {a : Nat → Int32} {b : Nat → Nat → Int32} (h : Rel a b) (x y z : Int32) : mMCf a x y z = fMC b x y z := by
  have h12 := h.le
  unfold mMCf fMC
  rw [show smmM x y z = smm x y z by unfold smmM smm; rw [isStrM_eq, isMonM_eq, isMonM_eq]]
  split
  · rename_i q
    unfold smm at q
    simp only [Bool.and_eq_true] at q
    unfold cntM
    rw [h.n, cntP_congr (fun k hk => h.ma (x := x) (k := k) (by omega) (isMon_c q.1.2).1 (isMon_c q.2).1)]
  · rfl
theorem Rel.kn {a : Nat → Int32} {b : Nat → Nat → Int32} (h : Rel a b) {k : Nat} (hk : k < 12) : ∀ {m : Nat}, m < 24 → knM a k m = knE b k m
  | 0, hm => h.ef hk hm
  | m + 1, hm => by unfold knM knE; rw [h.ef hk hm, Rel.kn h hk (by omega)]
theorem an_II {a : Nat → Int32} {b : Nat → Nat → Int32} (h : Rel a b) (x y : Int32) : mIIf a x y = fII b x y := by
  have h12 := h.le
  unfold mIIf fII
  rw [h.it, isMonM_eq]
  split
  · rename_i q
    simp only [Bool.and_eq_true] at q
    have hk := (isIt_c h.1 q.1).1
    have hm := (isMon_c q.2).1
    rw [h.kn (by omega) hm, h.ef (by omega) hm]
  · rfl
theorem an_IC {a : Nat → Int32} {b : Nat → Nat → Int32} (h : Rel a b) (x : Int32) : mICf a x = fIC b x := by
  have h12 := h.le
  unfold mICf fIC
  rw [isMonM_eq]
  split
  · rename_i q
    have hm := (isMon_c q).1
    rw [h.n, cntP_congr (q := fun k => knE b k (nC x) && !hasEff b k (nC x)) (fun k hk => by rw [h.kn (by omega) hm, h.ef (by omega) hm])]
  · rfl
/-! edits keep them alike -/
theorem Rel.ext {a a' : Nat → Int32} {b : Nat → Nat → Int32} (h : Rel a b) (e : ∀ j, j < 354 → a' j = a j) : Rel a' b := by
  obtain ⟨h1, ⟨⟨q1, q2⟩, q3, q4, q5, q6, q7, q8⟩, h3, h4⟩ := h
  refine ⟨h1, ⟨⟨(e 5 (by omega)).trans q1, (e 4 (by omega)).trans q2⟩, fun k hk => (e _ (by omega)).trans (q3 k hk), fun k hk => (e _ (by omega)).trans (q4 k hk), fun k hk => (e _ (by omega)).trans (q5 k hk), fun k hk => (e _ (by omega)).trans (q6 k hk), fun k hk => (e _ (by omega)).trans (q7 k hk), fun k hk => ?_⟩, h3, h4⟩
  rw [e _ (by omega), e _ (by omega)]
  exact q8 k hk
theorem Rel.put8 {a : Nat → Int32} {b : Nat → Nat → Int32} (h : Rel a b) {k m p : Nat} (hk : k < 12) (hm : m < 24) (hp : p ≤ 99999) : Rel (upd a (66 + 24 * k + m) (nI p)) (bPut b 8 (k * 24 + m) (nI p)) := by
  obtain ⟨⟨h0, h1, h2, h3, h4, h5, h6⟩, ⟨⟨q1, q2⟩, q3, q4, q5, q6, q7, q8⟩, ⟨l1, l2, l3⟩, ⟨g1, g2⟩⟩ := h
  have r : ∀ r', r' ≠ 8 → bPut b 8 (k * 24 + m) (nI p) r' = b r' := fun r' hr => bPut_row hr
  have i0 : itN (bPut b 8 (k * 24 + m) (nI p)) = itN b := by unfold itN; rw [r 0 (by decide)]
  have u : ∀ j, j < 66 → upd a (66 + 24 * k + m) (nI p) j = a j := fun j hj => pk_un (by omega)
  have pt : (nI p).toInt = (p : Int) := nI_toInt (by omega)
  refine ⟨⟨?_, fun j hj => ?_, ?_, ?_, ?_, ?_, ?_⟩, ⟨⟨?_, ?_⟩, ?_, ?_, ?_, ?_, fun j hj => ?_, ?_⟩, ⟨?_, ?_, ?_⟩, ⟨?_, fun j hj => ?_⟩⟩
  · rw [i0, r 0 (by decide)]; exact h0
  · rw [bPut_at]
    split
    · rw [pt]; omega
    · exact h1 j hj
  · rw [r 3 (by decide)]; exact h2
  · intro q hq; unfold nwN ovN; rw [r 5 (by decide), r 7 (by decide)]; exact h3 q hq
  · intro q hq; unfold odN; rw [r 6 (by decide)]; exact h4 q hq
  · intro q hq; unfold wtN; rw [r 1 (by decide)]; exact h5 q hq
  · rw [i0, r 2 (by decide)]; exact h6
  · rw [u 5 (by omega), r 0 (by decide)]; exact q1
  · rw [u 4 (by omega), r 0 (by decide)]; exact q2
  · intro q hq; rw [u q (by omega), r 1 (by decide)]; exact q3 q hq
  · intro q hq; rw [u _ (by omega), r 2 (by decide)]; exact q4 q hq
  · intro q hq; rw [u _ (by omega), r 3 (by decide)]; exact q5 q hq
  · intro q hq; rw [u _ (by omega), r 4 (by decide)]; exact q6 q hq
  · rw [bPut_at]
    by_cases e : j = k * 24 + m
    · rw [if_pos e, show 66 + j = 66 + 24 * k + m by omega, pk_us]
    · rw [if_neg e, pk_un (by omega)]; exact q7 j hj
  · intro q hq; rw [u _ (by omega), u _ (by omega), r 5 (by decide), r 7 (by decide)]; exact q8 q hq
  · intro q hq; unfold nwN; rw [i0, r 5 (by decide), r 6 (by decide)]; exact l1 q hq
  · intro q hq; unfold odN; rw [i0, r 5 (by decide), r 6 (by decide)]; exact l2 q hq
  · intro q hq; rw [r 5 (by decide), r 6 (by decide)]; exact l3 q hq
  · intro q hq; rw [i0] at hq; rw [r 3 (by decide)]; exact g1 q hq
  · rw [bPut_at]
    split
    · rw [pt]; omega
    · exact g2 j hj
theorem Rel.put1 {a : Nat → Int32} {b : Nat → Nat → Int32} (h : Rel a b) {k w : Nat} (hk : k < 4) (hw : w ≤ 100) : Rel (upd a (0 + k) (nI w)) (bPut b 1 k (nI w)) := by
  obtain ⟨⟨h0, h1, h2, h3, h4, h5, h6⟩, ⟨⟨q1, q2⟩, q3, q4, q5, q6, q7, q8⟩, ⟨l1, l2, l3⟩, ⟨g1, g2⟩⟩ := h
  have r : ∀ r', r' ≠ 1 → bPut b 1 k (nI w) r' = b r' := fun r' hr => bPut_row hr
  have i0 : itN (bPut b 1 k (nI w)) = itN b := by unfold itN; rw [r 0 (by decide)]
  have u : ∀ j, 4 ≤ j → upd a (0 + k) (nI w) j = a j := fun j hj => pk_un (by omega)
  refine ⟨⟨?_, ?_, ?_, ?_, ?_, fun q hq => ?_, ?_⟩, ⟨⟨?_, ?_⟩, fun q hq => ?_, ?_, ?_, ?_, ?_, ?_⟩, ⟨?_, ?_, ?_⟩, ⟨?_, ?_⟩⟩
  · rw [i0, r 0 (by decide)]; exact h0
  · rw [r 8 (by decide)]; exact h1
  · rw [r 3 (by decide)]; exact h2
  · intro q hq; unfold nwN ovN; rw [r 5 (by decide), r 7 (by decide)]; exact h3 q hq
  · intro q hq; unfold odN; rw [r 6 (by decide)]; exact h4 q hq
  · unfold wtN
    rw [bPut_at]
    split
    · rw [nI_clamp (by omega)]; exact ⟨rfl, hw⟩
    · exact h5 q hq
  · rw [i0, r 2 (by decide)]; exact h6
  · rw [u 5 (by omega), r 0 (by decide)]; exact q1
  · rw [u 4 (by omega), r 0 (by decide)]; exact q2
  · rw [bPut_at]
    by_cases e : q = k
    · rw [if_pos e, show q = 0 + k by omega, pk_us]
    · rw [if_neg e, pk_un (by omega)]; exact q3 q hq
  · intro q hq; rw [u _ (by omega), r 2 (by decide)]; exact q4 q hq
  · intro q hq; rw [u _ (by omega), r 3 (by decide)]; exact q5 q hq
  · intro q hq; rw [u _ (by omega), r 4 (by decide)]; exact q6 q hq
  · intro q hq; rw [u _ (by omega), r 8 (by decide)]; exact q7 q hq
  · intro q hq; rw [u _ (by omega), u _ (by omega), r 5 (by decide), r 7 (by decide)]; exact q8 q hq
  · intro q hq; unfold nwN; rw [i0, r 5 (by decide), r 6 (by decide)]; exact l1 q hq
  · intro q hq; unfold odN; rw [i0, r 5 (by decide), r 6 (by decide)]; exact l2 q hq
  · intro q hq; rw [r 5 (by decide), r 6 (by decide)]; exact l3 q hq
  · intro q hq; rw [i0] at hq; rw [r 3 (by decide)]; exact g1 q hq
  · rw [r 8 (by decide)]; exact g2
theorem Rel.put0 {a : Nat → Int32} {b : Nat → Nat → Int32} (h : Rel a b) {f : Int32} : Rel (upd a 4 f) (bPut b 0 1 f) := by
  obtain ⟨⟨h0, h1, h2, h3, h4, h5, h6⟩, ⟨⟨q1, q2⟩, q3, q4, q5, q6, q7, q8⟩, ⟨l1, l2, l3⟩, ⟨g1, g2⟩⟩ := h
  have r : ∀ r', r' ≠ 0 → bPut b 0 1 f r' = b r' := fun r' hr => bPut_row hr
  have r0 : bPut b 0 1 f 0 0 = b 0 0 := bPut_ne (by decide)
  have i0 : itN (bPut b 0 1 f) = itN b := by unfold itN; rw [r0]
  have u : ∀ j, j ≠ 4 → upd a 4 f j = a j := fun j hj => pk_un hj
  refine ⟨⟨?_, ?_, ?_, ?_, ?_, ?_, ?_⟩, ⟨⟨?_, ?_⟩, ?_, ?_, ?_, ?_, ?_, ?_⟩, ⟨?_, ?_, ?_⟩, ⟨?_, ?_⟩⟩
  · rw [i0, r0]; exact h0
  · rw [r 8 (by decide)]; exact h1
  · rw [r 3 (by decide)]; exact h2
  · intro q hq; unfold nwN ovN; rw [r 5 (by decide), r 7 (by decide)]; exact h3 q hq
  · intro q hq; unfold odN; rw [r 6 (by decide)]; exact h4 q hq
  · intro q hq; unfold wtN; rw [r 1 (by decide)]; exact h5 q hq
  · rw [i0, r 2 (by decide)]; exact h6
  · rw [u 5 (by omega), r0]; exact q1
  · rw [bPut_self, pk_us]
  · intro q hq; rw [u q (by omega), r 1 (by decide)]; exact q3 q hq
  · intro q hq; rw [u _ (by omega), r 2 (by decide)]; exact q4 q hq
  · intro q hq; rw [u _ (by omega), r 3 (by decide)]; exact q5 q hq
  · intro q hq; rw [u _ (by omega), r 4 (by decide)]; exact q6 q hq
  · intro q hq; rw [u _ (by omega), r 8 (by decide)]; exact q7 q hq
  · intro q hq; rw [u _ (by omega), u _ (by omega), r 5 (by decide), r 7 (by decide)]; exact q8 q hq
  · intro q hq; unfold nwN; rw [i0, r 5 (by decide), r 6 (by decide)]; exact l1 q hq
  · intro q hq; unfold odN; rw [i0, r 5 (by decide), r 6 (by decide)]; exact l2 q hq
  · intro q hq; rw [r 5 (by decide), r 6 (by decide)]; exact l3 q hq
  · intro q hq; rw [i0] at hq; rw [r 3 (by decide)]; exact g1 q hq
  · rw [r 8 (by decide)]; exact g2
theorem Rel.app {a : Nat → Int32} {b : Nat → Nat → Int32} (h : Rel a b) {x y z : Int32} (hx : aiOK x y z = true) (hn : itN b < 12) : Rel (mAIa a x y z) (bApp b x y z) := by
  have hN := h.n
  obtain ⟨⟨h0, h1, h2, h3, h4, h5, h6⟩, ⟨⟨q1, q2⟩, q3, q4, q5, q6, q7, q8⟩, ⟨l1, l2, l3⟩, ⟨g1, g2⟩⟩ := h
  unfold aiOK at hx
  simp only [Bool.and_eq_true] at hx
  obtain ⟨sx1, sx2⟩ := isStr_c hx.1.1
  obtain ⟨sy0, sy1, sy2⟩ := inR_c (by decide) (by decide) hx.1.2
  have yt : y.toInt = (nC y : Int) := by rw [sy2, nI_toInt (by omega), nC_nI (by omega)]
  have r0 : ∀ q, bApp b x y z 0 q = if q = 0 then nI (itN b + 1) else b 0 q := fun q => by unfold bApp; rw [bPut_at, bPut_row (by decide), bPut_row (by decide), bPut_row (by decide)]
  have r2 : ∀ q, bApp b x y z 2 q = if q = itN b then x else b 2 q := fun q => by unfold bApp; rw [bPut_row (by decide), bPut_row (by decide), bPut_row (by decide), bPut_at]
  have r3 : ∀ q, bApp b x y z 3 q = if q = itN b then y else b 3 q := fun q => by unfold bApp; rw [bPut_row (by decide), bPut_row (by decide), bPut_at, bPut_row (by decide)]
  have r4 : ∀ q, bApp b x y z 4 q = if q = itN b then z else b 4 q := fun q => by unfold bApp; rw [bPut_row (by decide), bPut_at, bPut_row (by decide), bPut_row (by decide)]
  have r : ∀ r', r' ≠ 0 → r' ≠ 2 → r' ≠ 3 → r' ≠ 4 → bApp b x y z r' = b r' := fun r' e0 e2 e3 e4 => by unfold bApp; rw [bPut_row e0, bPut_row e4, bPut_row e3, bPut_row e2]
  have r1 := r 1 (by decide) (by decide) (by decide) (by decide)
  have r5 := r 5 (by decide) (by decide) (by decide) (by decide)
  have r6 := r 6 (by decide) (by decide) (by decide) (by decide)
  have r7 := r 7 (by decide) (by decide) (by decide) (by decide)
  have r8 := r 8 (by decide) (by decide) (by decide) (by decide)
  have i0 : itN (bApp b x y z) = itN b + 1 := by unfold itN; rw [r0, if_pos rfl, nI_clamp (by unfold itN at hn; omega)]; rfl
  have u : ∀ j, j ≠ 5 → j ≠ 6 + itN b → j ≠ 18 + itN b → j ≠ 30 + itN b → mAIa a x y z j = a j := fun j e1 e2 e3 e4 => by unfold mAIa; rw [hN, pk_un e1, pk_un e4, pk_un e3, pk_un e2]
  have u5 : mAIa a x y z 5 = nI (itN b + 1) := by unfold mAIa; rw [hN, pk_us]
  have u2 : mAIa a x y z (6 + itN b) = x := by unfold mAIa; rw [hN, pk_un (by omega), pk_un (by omega), pk_un (by omega), pk_us]
  have u3 : mAIa a x y z (18 + itN b) = y := by unfold mAIa; rw [hN, pk_un (by omega), pk_un (by omega), pk_us]
  have u4 : mAIa a x y z (30 + itN b) = z := by unfold mAIa; rw [hN, pk_un (by omega), pk_us]
  refine ⟨⟨⟨?_, ?_⟩, ?_, fun q hq => ?_, ?_, ?_, ?_, fun q hq => ?_⟩, ⟨⟨?_, ?_⟩, ?_, fun q hq => ?_, fun q hq => ?_, fun q hq => ?_, ?_, ?_⟩, ⟨?_, ?_, ?_⟩, ⟨fun q hq => ?_, ?_⟩⟩
  · rw [i0, r0, if_pos rfl]
  · rw [i0]; omega
  · rw [r8]; exact h1
  · rw [r3]
    split
    · rw [yt]; omega
    · exact h2 q hq
  · intro q hq; unfold nwN ovN; rw [r5, r7]; exact h3 q hq
  · intro q hq; unfold odN; rw [r6]; exact h4 q hq
  · intro q hq; unfold wtN; rw [r1]; exact h5 q hq
  · rw [r2]
    split
    · exact ⟨nC x, sx1, sx2⟩
    · exact h6 q (by omega)
  · rw [u5, r0, if_pos rfl]
  · rw [u 4 (by omega) (by omega) (by omega) (by omega), r0, if_neg (by decide)]; exact q2
  · intro q hq; rw [u q (by omega) (by omega) (by omega) (by omega), r1]; exact q3 q hq
  · rw [r2]
    by_cases e : q = itN b
    · rw [if_pos e, e]; exact u2
    · rw [if_neg e, u _ (by omega) (by omega) (by omega) (by omega)]; exact q4 q hq
  · rw [r3]
    by_cases e : q = itN b
    · rw [if_pos e, e]; exact u3
    · rw [if_neg e, u _ (by omega) (by omega) (by omega) (by omega)]; exact q5 q hq
  · rw [r4]
    by_cases e : q = itN b
    · rw [if_pos e, e]; exact u4
    · rw [if_neg e, u _ (by omega) (by omega) (by omega) (by omega)]; exact q6 q hq
  · intro q hq; rw [u _ (by omega) (by omega) (by omega) (by omega), r8]; exact q7 q hq
  · intro q hq; rw [u _ (by omega) (by omega) (by omega) (by omega), u _ (by omega) (by omega) (by omega) (by omega), r5, r7]; exact q8 q hq
  · intro q hq hb; unfold nwN; rw [i0, r5, r6]; rw [r5] at hb
    obtain ⟨a1, a2, a3⟩ := l1 q hq hb
    exact ⟨by omega, by unfold nwN at a2; omega, a3⟩
  · intro q hq hb; unfold odN; rw [i0, r5, r6]; rw [r6] at hb
    obtain ⟨a1, a2, a3⟩ := l2 q hq hb
    exact ⟨by omega, by unfold odN at a2; omega, a3⟩
  · intro q hq; rw [r5, r6]; exact l3 q hq
  · rw [i0] at hq
    rw [r3]
    split
    · rw [yt]; omega
    · exact g1 q (by omega)
  · rw [r8]; exact g2
theorem Rel.link {a : Nat → Int32} {b : Nat → Nat → Int32} (h : Rel a b) {k j mo : Nat} (hk : k < itN b) (hj : j < itN b) (hkj : k ≠ j) (hm : mo < 24) (uk : isLnk b k = false) (uj : isLnk b j = false) : Rel (mRIa a k j mo) (bLnk b k j mo) := by
  have h12 := h.le
  have hB' := bWF_lnk h.1 (k := k) (j := j) (mo := mo) (by omega) (by omega) hm
  obtain ⟨⟨h0, h1, h2, h3, h4, h5, h6⟩, ⟨⟨q1, q2⟩, q3, q4, q5, q6, q7, q8⟩, ⟨l1, l2, l3⟩, ⟨g1, g2⟩⟩ := h
  unfold isLnk at uk uj
  simp only [Bool.or_eq_false_iff, Bool.not_eq_false', decide_eq_true_eq] at uk uj
  have r5 : ∀ q, bLnk b k j mo 5 q = if q = k then nI j else b 5 q := fun q => by unfold bLnk; rw [bPut_row (by decide), bPut_row (by decide), bPut_at]
  have r6 : ∀ q, bLnk b k j mo 6 q = if q = j then nI k else b 6 q := fun q => by unfold bLnk; rw [bPut_row (by decide), bPut_at, bPut_row (by decide)]
  have r7 : ∀ q, bLnk b k j mo 7 q = if q = k then nI mo else b 7 q := fun q => by unfold bLnk; rw [bPut_at, bPut_row (by decide), bPut_row (by decide)]
  have r : ∀ r', r' ≠ 5 → r' ≠ 6 → r' ≠ 7 → bLnk b k j mo r' = b r' := fun r' e5 e6 e7 => by unfold bLnk; rw [bPut_row e7, bPut_row e6, bPut_row e5]
  have i0 : itN (bLnk b k j mo) = itN b := by unfold itN; rw [r 0 (by decide) (by decide) (by decide)]
  have u : ∀ i, i ≠ 42 + k → i ≠ 54 + k → mRIa a k j mo i = a i := fun i e1 e2 => by unfold mRIa; rw [pk_un e2, pk_un e1]
  have u1 : mRIa a k j mo (42 + k) = nI j := by unfold mRIa; rw [pk_un (by omega), pk_us]
  have u2 : mRIa a k j mo (54 + k) = nI mo := by unfold mRIa; rw [pk_us]
  refine ⟨hB', ⟨⟨?_, ?_⟩, ?_, ?_, ?_, ?_, ?_, fun q hq => ?_⟩, ⟨fun q hq hb => ?_, fun q hq hb => ?_, fun q hq hb => ?_⟩, ⟨?_, ?_⟩⟩
  · rw [u 5 (by omega) (by omega), r 0 (by decide) (by decide) (by decide)]; exact q1
  · rw [u 4 (by omega) (by omega), r 0 (by decide) (by decide) (by decide)]; exact q2
  · intro q hq; rw [u q (by omega) (by omega), r 1 (by decide) (by decide) (by decide)]; exact q3 q hq
  · intro q hq; rw [u _ (by omega) (by omega), r 2 (by decide) (by decide) (by decide)]; exact q4 q hq
  · intro q hq; rw [u _ (by omega) (by omega), r 3 (by decide) (by decide) (by decide)]; exact q5 q hq
  · intro q hq; rw [u _ (by omega) (by omega), r 4 (by decide) (by decide) (by decide)]; exact q6 q hq
  · intro q hq; rw [u _ (by omega) (by omega), r 8 (by decide) (by decide) (by decide)]; exact q7 q hq
  · rw [r5, r7]
    by_cases e : q = k
    · rw [if_pos e, if_pos e, e, u1, u2]
      exact Or.inr ⟨nI_n1 (by omega), rfl, rfl⟩
    · rw [if_neg e, if_neg e, u _ (by omega) (by omega), u _ (by omega) (by omega)]
      exact q8 q hq
  · unfold nwN
    rw [i0]
    rw [r5] at hb ⊢
    by_cases e : q = k
    · rw [if_pos e, nI_clamp (by omega), r6, if_pos rfl, e]
      exact ⟨hk, hj, rfl⟩
    · rw [if_neg e] at hb ⊢
      obtain ⟨a1, a2, a3⟩ := l1 q hq hb
      refine ⟨a1, a2, ?_⟩
      rw [r6]
      by_cases e2 : (b 5 q).toNatClampNeg = j
      · exfalso
        have : b 6 (nwN b q) = -1 := by unfold nwN; rw [e2]; exact uj.2
        rw [this] at a3
        exact nI_n1 (by omega) a3.symm
      · rw [if_neg e2]; exact a3
  · unfold odN
    rw [i0]
    rw [r6] at hb ⊢
    by_cases e : q = j
    · rw [if_pos e, nI_clamp (by omega), r5, if_pos rfl, e]
      exact ⟨hj, hk, rfl⟩
    · rw [if_neg e] at hb ⊢
      obtain ⟨a1, a2, a3⟩ := l2 q hq hb
      refine ⟨a1, a2, ?_⟩
      rw [r5]
      by_cases e2 : (b 6 q).toNatClampNeg = k
      · exfalso
        have : b 5 (odN b q) = -1 := by unfold odN; rw [e2]; exact uk.1
        rw [this] at a3
        exact nI_n1 (by omega) a3.symm
      · rw [if_neg e2]; exact a3
  · rw [r5] at hb
    rw [r6]
    by_cases e : q = k
    · rw [if_neg (by omega), e]; exact uk.2
    · rw [if_neg e] at hb
      rw [if_neg (fun z => by rw [z] at hb; exact hb uj.1)]
      exact l3 q hq hb
  · intro q hq; rw [i0] at hq; rw [r 3 (by decide) (by decide) (by decide)]; exact g1 q hq
  · rw [r 8 (by decide) (by decide) (by decide)]; exact g2
theorem Rel.oldEq {a : Nat → Int32} {b : Nat → Nat → Int32} (h : Rel a b) {k : Nat} (hk : k < 12) (hl : isLnk b k = true) : mERo a k = bOld b k ∧ bOld b k < itN b ∧ b 5 (bOld b k) ≠ -1 := by
  have h12 := h.le
  unfold isLnk at hl
  simp only [Bool.or_eq_true, Bool.not_eq_true', decide_eq_false_iff_not] at hl
  unfold mERo bOld
  by_cases e5 : b 5 k = -1
  · have e6 : b 6 k ≠ -1 := by
      rcases hl with q | q
      · exact absurd e5 q
      · exact q
    rw [if_pos ((h.nil hk).mpr e5), if_neg e6, h.olD hk e6]
    obtain ⟨a1, a2, a3⟩ := h.2.2.1.2.1 k hk e6
    exact ⟨rfl, a2, by rw [a3]; exact nI_n1 (by omega)⟩
  · rw [if_neg (fun z => e5 ((h.nil hk).mp z)), if_pos (h.2.2.1.2.2 k hk e5)]
    exact ⟨rfl, (h.2.2.1.1 k hk e5).1, e5⟩
theorem Rel.unl {a : Nat → Int32} {b : Nat → Nat → Int32} (h : Rel a b) {k : Nat} (hk : k < 12) (hl : isLnk b k = true) : Rel (mERa a k) (bUnl b k) := by
  have h12 := h.le
  have hB' := bWF_unl h.1 (k := k)
  obtain ⟨eo, oN, o5⟩ := h.oldEq hk hl
  unfold mERa
  rw [eo]
  unfold bUnl at hB' ⊢
  rw [if_neg o5] at hB' ⊢
  generalize bOld b k = o at oN o5 hB' ⊢
  have hw := h.2.2.1.1 o (by omega) o5
  obtain ⟨⟨h0, h1, h2, h3, h4, h5, h6⟩, ⟨⟨q1, q2⟩, q3, q4, q5, q6, q7, q8⟩, ⟨l1, l2, l3⟩, ⟨g1, g2⟩⟩ := h
  have e5 : b 5 o = nI (nwN b o) := (h3 o (by omega) o5).1
  generalize hnw : nwN b o = v at hB' hw e5 ⊢
  obtain ⟨w1, w2, w3⟩ := hw
  have r5 : ∀ q, bPut (bPut b 5 o (-1)) 6 v (-1) 5 q = if q = o then -1 else b 5 q := fun q => by rw [bPut_row (by decide), bPut_at]
  have r6 : ∀ q, bPut (bPut b 5 o (-1)) 6 v (-1) 6 q = if q = v then -1 else b 6 q := fun q => by rw [bPut_at, bPut_row (by decide)]
  have r : ∀ r', r' ≠ 5 → r' ≠ 6 → bPut (bPut b 5 o (-1)) 6 v (-1) r' = b r' := fun r' x5 x6 => by rw [bPut_row x6, bPut_row x5]
  have i0 : itN (bPut (bPut b 5 o (-1)) 6 v (-1)) = itN b := by unfold itN; rw [r 0 (by decide) (by decide)]
  have u : ∀ i, i ≠ 42 + o → i ≠ 54 + o → upd (upd a (42 + o) (-9)) (54 + o) (nI 0) i = a i := fun i e1 e2 => by rw [pk_un e2, pk_un e1]
  have u1 : upd (upd a (42 + o) (-9)) (54 + o) (nI 0) (42 + o) = -9 := by rw [pk_un (by omega), pk_us]
  refine ⟨hB', ⟨⟨?_, ?_⟩, ?_, ?_, ?_, ?_, ?_, fun q hq => ?_⟩, ⟨fun q hq hb => ?_, fun q hq hb => ?_, fun q hq hb => ?_⟩, ⟨?_, ?_⟩⟩
  · rw [u 5 (by omega) (by omega), r 0 (by decide) (by decide)]; exact q1
  · rw [u 4 (by omega) (by omega), r 0 (by decide) (by decide)]; exact q2
  · intro q hq; rw [u q (by omega) (by omega), r 1 (by decide) (by decide)]; exact q3 q hq
  · intro q hq; rw [u _ (by omega) (by omega), r 2 (by decide) (by decide)]; exact q4 q hq
  · intro q hq; rw [u _ (by omega) (by omega), r 3 (by decide) (by decide)]; exact q5 q hq
  · intro q hq; rw [u _ (by omega) (by omega), r 4 (by decide) (by decide)]; exact q6 q hq
  · intro q hq; rw [u _ (by omega) (by omega), r 8 (by decide) (by decide)]; exact q7 q hq
  · rw [r5, r 7 (by decide) (by decide)]
    by_cases e : q = o
    · rw [if_pos e, e, u1]
      exact Or.inl ⟨rfl, rfl⟩
    · rw [if_neg e, u _ (by omega) (by omega), u _ (by omega) (by omega)]
      exact q8 q hq
  · unfold nwN
    rw [i0]
    rw [r5] at hb ⊢
    by_cases e : q = o
    · rw [if_pos e] at hb; exact absurd rfl hb
    · rw [if_neg e] at hb ⊢
      obtain ⟨a1, a2, a3⟩ := l1 q hq hb
      refine ⟨a1, a2, ?_⟩
      rw [r6]
      by_cases e2 : (b 5 q).toNatClampNeg = v
      · exfalso
        have : b 6 v = nI q := by rw [← e2]; exact a3
        rw [w3] at this
        exact e ((nI_eq (by omega) (by omega)).mp this).symm
      · rw [if_neg e2]; exact a3
  · unfold odN
    rw [i0]
    rw [r6] at hb ⊢
    by_cases e : q = v
    · rw [if_pos e] at hb; exact absurd rfl hb
    · rw [if_neg e] at hb ⊢
      obtain ⟨a1, a2, a3⟩ := l2 q hq hb
      refine ⟨a1, a2, ?_⟩
      rw [r5]
      by_cases e2 : (b 6 q).toNatClampNeg = o
      · exfalso
        have : b 5 o = nI q := by rw [← e2]; exact a3
        rw [e5] at this
        exact e ((nI_eq (by omega) (by omega)).mp this).symm
      · rw [if_neg e2]; exact a3
  · rw [r5] at hb
    rw [r6]
    by_cases e : q = o
    · rw [if_pos e] at hb; exact absurd rfl hb
    · rw [if_neg e] at hb
      split
      · rfl
      · exact l3 q hq hb
  · intro q hq; rw [i0] at hq; rw [r 3 (by decide) (by decide)]; exact g1 q hq
  · rw [r 8 (by decide) (by decide)]; exact g2
theorem Rel.imp {a : Nat → Int32} {b : Nat → Nat → Int32} (h : Rel a b) {c : Nat → Nat} {L it : Nat} (hit : it ≤ 12) : ∀ {n : Nat}, (∀ k, k < n → qOk c L it (psn c L it k) = true) → Rel (impA c L it a n) (impB c L it b n)
  | 0, _ => h
  | n + 1, hq => by
    have ih := Rel.imp h hit (n := n) (fun k hk => hq k (by omega))
    obtain ⟨v1, v2, v3⟩ := qOk_vals hit (hq n (by omega))
    exact ih.put8 (by omega) v2 v3
theorem an_RI {a : Nat → Int32} {b : Nat → Nat → Int32} (h : Rel a b) (x y z : Int32) : mRIf a x y z = fRI b x y z ∧ mRIe a x y z = eRI b x y z ∧ (eRI b x y z = true → Rel (mRIa a (nC x) (nC y) (nC z)) (bLnk b (nC x) (nC y) (nC z))) := by
  have h12 := h.le
  by_cases hq : riOK b x y z = true
  · have hq2 := hq
    unfold riOK at hq2
    simp only [Bool.and_eq_true, Bool.not_eq_true', decide_eq_false_iff_not] at hq2
    obtain ⟨x1, x2⟩ := isIt_c h.1 hq2.1.1.1
    obtain ⟨y1, y2⟩ := isIt_c h.1 hq2.1.1.2
    obtain ⟨z1, z2⟩ := isMon_c hq2.2
    have hne : nC x ≠ nC y := fun e => hq2.1.2 (by rw [x2, y2, e])
    have hs := h.rs (k := nC x) (j := nC y) (mo := nC z) (by omega) (by omega) z1
    have e1 : mRIe a x y z = eRI b x y z := by unfold mRIe eRI; rw [h.rok, hs]
    refine ⟨?_, e1, fun e => ?_⟩
    · unfold mRIf fRI
      rw [h.rok, hs, if_pos hq, if_pos hq]
      by_cases hc : canL b (nC x) (nC y) (nC z) = true
      · rw [if_pos hc, if_pos hc]
        unfold canL at hc
        simp only [Bool.and_eq_true, Bool.not_eq_true'] at hc
        rw [rplN_eq (h.link x1 y1 hne z1 hc.1.1.1.2 hc.1.1.2)]
      · rw [if_neg hc, if_neg hc]
    · unfold eRI at e
      rw [hq, Bool.true_and] at e
      unfold canL at e
      simp only [Bool.and_eq_true, Bool.not_eq_true'] at e
      exact h.link x1 y1 hne z1 e.1.1.1.2 e.1.1.2
  · have hf : riOK b x y z = false := Bool.eq_false_iff.mpr hq
    refine ⟨?_, ?_, fun e => ?_⟩
    · unfold mRIf fRI
      rw [h.rok, if_neg hq, if_neg hq]
    · unfold mRIe eRI
      rw [h.rok, hf, Bool.false_and, Bool.false_and]
    · unfold eRI at e
      rw [hf, Bool.false_and] at e
      cases e
theorem an_ER {a : Nat → Int32} {b : Nat → Nat → Int32} (h : Rel a b) (x : Int32) : mERf a x = fER b x ∧ mERe a x = eER b x ∧ (eER b x = true → Rel (mERa a (nC x)) (bUnl b (nC x))) := by
  have h12 := h.le
  by_cases hq : isIt b x = true
  · obtain ⟨x1, x2⟩ := isIt_c h.1 hq
    have ht := h.tk (k := nC x) (by omega)
    have e1 : mERe a x = eER b x := by unfold mERe eER; rw [h.it, ht]
    refine ⟨?_, e1, fun e => ?_⟩
    · unfold mERf fER
      rw [h.it, ht, if_pos hq, if_pos hq]
      by_cases hc : isLnk b (nC x) = true
      · rw [if_pos hc, if_pos hc, rplN_eq (h.unl (k := nC x) (by omega) hc)]
      · rw [if_neg hc, if_neg hc]
    · unfold eER at e
      rw [hq, Bool.true_and] at e
      exact h.unl (k := nC x) (by omega) e
  · have hf : isIt b x = false := Bool.eq_false_iff.mpr hq
    refine ⟨?_, ?_, fun e => ?_⟩
    · unfold mERf fER
      rw [h.it, if_neg hq, if_neg hq]
    · unfold mERe eER
      rw [h.it, hf, Bool.false_and, Bool.false_and]
    · unfold eER at e
      rw [hf, Bool.false_and] at e
      cases e
/-! the pasts and the ring -/
def Hs (pa : Nat → Int32) (g : Nat → Nat → Nat → Int32) (i n : Nat) : Prop := ∀ t, t < n → Rel (fun j => pa (354 * (n - 1 - t) + j)) (g ((i + 7 - t) % 8))
theorem edP_top {pa a : Nat → Int32} {n j : Nat} (hn : n ≤ 8) (hj : j < 354) : edP pa a n (354 * (kp8 n - 1) + j) = a j := by
  unfold edP kp8
  by_cases n8 : n = 8
  · rw [if_pos n8, if_neg (by omega)]
    unfold puP
    rw [if_pos (by omega)]
    exact congrArg a (by omega)
  · rw [if_neg n8, if_pos (by omega)]
    unfold puP
    rw [if_pos (by omega)]
    exact congrArg a (by omega)
theorem edP_low {pa a : Nat → Int32} {n q j : Nat} (n8 : n ≠ 8) (hq : q < n) (hj : j < 354) : edP pa a n (354 * q + j) = pa (354 * q + j) := by
  unfold edP puP
  rw [if_neg n8]
  exact if_neg (by omega)
theorem edP_low8 {pa a : Nat → Int32} {q j : Nat} (hq : q < 7) (hj : j < 354) : edP pa a 8 (354 * q + j) = pa (354 * (q + 1) + j) := by
  unfold edP puP
  rw [if_pos rfl]
  refine (if_neg (by omega)).trans ?_
  unfold shP
  rw [if_pos (by omega)]
  exact congrArg pa (by omega)
theorem Hs.edit {pa : Nat → Int32} {g : Nat → Nat → Nat → Int32} {i n : Nat} {a : Nat → Int32} {b : Nat → Nat → Int32} (hH : Hs pa g i n) (hR : Rel a b) (hi : i < 8) (hn : n ≤ 8) : Hs (edP pa a n) (va_up g i b) (nx8 i) (kp8 n) := by
  have hnx : nx8 i = (i + 1) % 8 := by unfold nx8; split <;> omega
  intro t ht
  have ht8 : t < 8 := Nat.lt_of_lt_of_le ht kp8_le
  by_cases t0 : t = 0
  · subst t0
    have e1 : (nx8 i + 7 - 0) % 8 = i := by rw [hnx]; omega
    rw [e1]
    unfold va_up
    rw [if_pos rfl]
    exact hR.ext fun j hj => edP_top hn hj
  · have e1 : (nx8 i + 7 - t) % 8 = (i + 7 - (t - 1)) % 8 := by rw [hnx]; omega
    have e2 : (i + 7 - (t - 1)) % 8 ≠ i := by omega
    rw [e1]
    unfold va_up
    rw [if_neg e2]
    by_cases n8 : n = 8
    · subst n8
      have h1 := hH (t - 1) (by omega)
      have k8 : kp8 8 = 8 := by decide
      rw [k8]
      refine h1.ext fun j hj => ?_
      have := edP_low8 (pa := pa) (a := a) (q := 8 - 1 - t) (j := j) (by omega) hj
      rw [show 8 - 1 - t + 1 = 8 - 1 - (t - 1) by omega] at this
      exact this
    · have kn : kp8 n = n + 1 := by unfold kp8; rw [if_pos (by omega)]
      rw [kn] at ht ⊢
      have h1 := hH (t - 1) (by omega)
      refine h1.ext fun j hj => ?_
      have := edP_low (pa := pa) (a := a) (q := n + 1 - 1 - t) (j := j) n8 (by omega) hj
      rw [show n + 1 - 1 - t = n - 1 - (t - 1) by omega] at this
      rw [show n + 1 - 1 - t = n - 1 - (t - 1) by omega]
      exact this
theorem Hs.undo {pa : Nat → Int32} {g : Nat → Nat → Nat → Int32} {i n : Nat} {a : Nat → Int32} (hH : Hs pa g i n) (hi : i < 8) (hn : 0 < n) (hn8 : n ≤ 8) : Rel (unP pa (n - 1) a) (g (pv8 i)) ∧ Hs pa g (pv8 i) (n - 1) := by
  have hpv : pv8 i = (i + 7) % 8 := by unfold pv8; split <;> omega
  refine ⟨?_, fun t ht => ?_⟩
  · have h1 := hH 0 hn
    rw [show (i + 7 - 0) % 8 = pv8 i by rw [hpv]; omega] at h1
    refine h1.ext fun j hj => ?_
    unfold unP
    rw [if_pos hj]
    rfl
  · have h1 := hH (t + 1) (by omega)
    rw [show (i + 7 - (t + 1)) % 8 = (pv8 i + 7 - t) % 8 by rw [hpv]; omega, show n - 1 - (t + 1) = n - 1 - 1 - t by omega] at h1
    exact h1
