/-! numbers that are not negative, and no NaN: by their bits -/
def posF (x : UInt32) : Prop := x.toNat ≤ 2139095040
def okF (x : UInt32) : Prop := x = NEG1 ∨ posF x
theorem posF_ne {x : UInt32} (h : posF x) : FP.Core.val32 x ≠ .nan := by
  rw [FP.Core.ne_nan32]
  unfold posF at h
  omega
theorem posF_sgn {x : UInt32} (h : posF x) : FP.Core.sgn (FP.Core.val32 x) = false := by
  rw [FP.Core.sgn_bits32 (posF_ne h)]
  unfold posF at h
  simp only [decide_eq_false_iff_not]
  omega
theorem posF_of {x : UInt32} (h : FP.Core.val32 x ≠ .nan) (hs : FP.Core.sgn (FP.Core.val32 x) = false) : posF x := by
  rw [FP.Core.sgn_bits32 h] at hs
  rw [FP.Core.ne_nan32] at h
  simp only [decide_eq_false_iff_not] at hs
  unfold posF
  omega
theorem posF_cases {x : UInt32} (h : posF x) : FP.Core.val32 x = .inf false ∨ ∃ c q, FP.Core.val32 x = .fin false c q := by
  have h1 := posF_ne h
  have h2 := posF_sgn h
  cases hv : FP.Core.val32 x with
  | nan => exact absurd hv h1
  | inf s => rw [hv] at h2; cases h2; exact Or.inl rfl
  | fin s c q => rw [hv] at h2; cases h2; exact Or.inr ⟨c, q, rfl⟩
theorem n32_of {x : UInt32} (h : FP.Core.val32 x ≠ .nan) : vf_n32 x := by
  unfold vf_n32
  rw [FP.Core.ne_nan32] at h
  rw [UInt32.le_iff_toNat_le, FP.Core.mask_toNat32]
  exact h
theorem n32_iff {x : UInt32} : vf_n32 x ↔ FP.Core.val32 x ≠ .nan := by
  refine ⟨fun h => ?_, n32_of⟩
  unfold vf_n32 at h
  rw [UInt32.le_iff_toNat_le, FP.Core.mask_toNat32] at h
  rw [FP.Core.ne_nan32]
  exact h
theorem sgn_round {d : FP.Core.Datum} (h : d ≠ .nan) : FP.Core.sgn (FP.Core.round FP.Core.b32 d) = FP.Core.sgn d := by
  cases d with
  | nan => exact absurd rfl h
  | inf s => rfl
  | fin s c q => exact FP.Core.sgn_roundRatio _ _ _ _ _
theorem round_ne {d : FP.Core.Datum} (h : d ≠ .nan) : FP.Core.round FP.Core.b32 d ≠ .nan := by
  cases d with
  | nan => exact absurd rfl h
  | inf s => exact h
  | fin s c q => exact FP.Core.roundRatio_ne_nan _ _ _ _ _
theorem fkey_pos {x : UInt32} (h : posF x) : FP.Core.fkey x = (x.toNat : Int) := by
  unfold posF at h
  unfold FP.Core.fkey
  rw [if_neg (by omega)]
theorem posF_0 : posF FP.fconst0 := by unfold posF; decide
theorem cNeg_pos {x : UInt32} (h : posF x) : cNeg x = false := by
  unfold cNeg
  rw [decide_eq_false_iff_not]
  intro h1
  have h2 := (FP.Core.fcmp_lt_key (posF_ne h) (posF_ne posF_0)).mp h1
  rw [fkey_pos h, fkey_pos posF_0] at h2
  have : (FP.fconst0).toNat = 0 := rfl
  omega
theorem cNeg_NEG1 : cNeg NEG1 = true := by decide +kernel
theorem ok_pos {x : UInt32} (h : okF x) (hn : cNeg x = false) : posF x := by
  rcases h with h | h
  · rw [h, cNeg_NEG1] at hn; cases hn
  · exact h
theorem ok_neg {x : UInt32} (h : okF x) (hn : cNeg x = true) : x = NEG1 := by
  rcases h with h | h
  · exact h
  · rw [cNeg_pos h] at hn; cases hn
theorem cZer_pos {x : UInt32} (h : posF x) : cZer x = true ↔ x.toNat = 0 := by
  unfold cZer
  rw [decide_eq_true_iff]
  show FP.Core.fcmp x FP.fconst0 = some .eq ↔ _
  rw [FP.Core.fcmp_eq_key (posF_ne h) (posF_ne posF_0), fkey_pos h, fkey_pos posF_0]
  have : (FP.fconst0).toNat = 0 := rfl
  omega
theorem posF_max : posF 2139095039 := by unfold posF; decide
theorem cInf_pos {x : UInt32} (h : posF x) : cInf x = true ↔ x.toNat = 2139095040 := by
  unfold cInf
  rw [decide_eq_true_iff]
  show FP.Core.fcmp x 2139095039 = some .gt ↔ _
  rw [FP.Core.fcmp_gt_key (posF_ne h) (posF_ne posF_max), fkey_pos h, fkey_pos posF_max]
  have : (2139095039 : UInt32).toNat = 2139095039 := rfl
  unfold posF at h
  omega
theorem val32_of_inf {x : UInt32} (h : x.toNat = 2139095040) : FP.Core.val32 x = .inf false := by
  have : x = 2139095040 := UInt32.toNat_inj.mp h
  rw [this]
  decide +kernel
theorem cInf_val {x : UInt32} (h : posF x) : cInf x = true ↔ FP.Core.val32 x = .inf false := by
  rw [cInf_pos h]
  refine ⟨val32_of_inf, fun h1 => ?_⟩
  have h2 : FP.Core.val32 (2139095040 : UInt32) = .inf false := by decide +kernel
  rw [FP.Core.val32_inj (posF_ne h) (h1.trans h2.symm)]
  rfl
theorem cZer_val {x : UInt32} (h : posF x) : cZer x = true ↔ ∃ q, FP.Core.val32 x = .fin false 0 q := by
  rw [cZer_pos h]
  refine ⟨fun h1 => ⟨FP.Core.b32.qmin, ?_⟩, fun ⟨q, h1⟩ => ?_⟩
  · have : x = 0 := UInt32.toNat_inj.mp h1
    rw [this]; exact FP.Core.val32_zero
  · have h2 : FP.Core.FZero x := ⟨_, _, h1⟩
    have h3 := (FP.Core.zero_bits232 x).mp h2
    unfold posF at h
    omega
theorem posF_add {a b : UInt32} (ha : posF a) (hb : posF b) : posF (FP.fadd a b) := by
  have key : FP.Core.exactSum (FP.Core.val32 a) (FP.Core.val32 b) ≠ .nan ∧ FP.Core.sgn (FP.Core.exactSum (FP.Core.val32 a) (FP.Core.val32 b)) = false := by
    rcases posF_cases ha with h1 | ⟨c, q, h1⟩ <;> rcases posF_cases hb with h2 | ⟨d, r, h2⟩ <;> rw [h1, h2]
    · exact ⟨by simp [FP.Core.exactSum], by simp [FP.Core.exactSum, FP.Core.sgn]⟩
    · exact ⟨by simp [FP.Core.exactSum], by simp [FP.Core.exactSum, FP.Core.sgn]⟩
    · exact ⟨by simp [FP.Core.exactSum], by simp [FP.Core.exactSum, FP.Core.sgn]⟩
    · refine ⟨by simp [FP.Core.exactSum], ?_⟩
      simp only [FP.Core.exactSum, FP.Core.sgn, FP.Core.sumSign, FP.Core.sumUnits, FP.Core.signed, Bool.false_eq_true, if_false]
      split
      · rfl
      · simp only [decide_eq_false_iff_not]
        omega
  refine posF_of ?_ ?_
  · show FP.Core.val32 (FP.Core.fadd a b) ≠ _
    rw [FP.Core.val32_fadd]; exact round_ne key.1
  · show FP.Core.sgn (FP.Core.val32 (FP.Core.fadd a b)) = _
    rw [FP.Core.val32_fadd, sgn_round key.1]; exact key.2
theorem posF_mul {a b : UInt32} (ha : posF a) (hb : posF b) (h1 : (cZer a && cInf b) = false) (h2 : (cInf a && cZer b) = false) : posF (FP.fmul a b) := by
  have key : FP.Core.exactProduct (FP.Core.val32 a) (FP.Core.val32 b) ≠ .nan ∧ FP.Core.sgn (FP.Core.exactProduct (FP.Core.val32 a) (FP.Core.val32 b)) = false := by
    rcases posF_cases ha with g1 | ⟨c, q, g1⟩ <;> rcases posF_cases hb with g2 | ⟨d, r, g2⟩
    · rw [g1, g2]; exact ⟨by simp [FP.Core.exactProduct], by simp [FP.Core.exactProduct, FP.Core.sgn]⟩
    · have hd : d ≠ 0 := fun e => by
        rw [(cInf_val ha).mpr g1, (cZer_val hb).mpr ⟨r, by rw [g2, e]⟩] at h2; cases h2
      rw [g1, g2]; exact ⟨by simp [FP.Core.exactProduct, hd], by simp [FP.Core.exactProduct, FP.Core.sgn, hd]⟩
    · have hd : c ≠ 0 := fun e => by
        rw [(cInf_val hb).mpr g2, (cZer_val ha).mpr ⟨q, by rw [g1, e]⟩] at h1; cases h1
      rw [g1, g2]; exact ⟨by simp [FP.Core.exactProduct, hd], by simp [FP.Core.exactProduct, FP.Core.sgn, hd]⟩
    · rw [g1, g2]; exact ⟨by simp [FP.Core.exactProduct], by simp [FP.Core.exactProduct, FP.Core.sgn]⟩
  refine posF_of ?_ ?_
  · show FP.Core.val32 (FP.Core.fmul a b) ≠ _
    rw [FP.Core.val32_fmul]; exact round_ne key.1
  · show FP.Core.sgn (FP.Core.val32 (FP.Core.fmul a b)) = _
    rw [FP.Core.val32_fmul, sgn_round key.1]; exact key.2
theorem posF_div {a b : UInt32} (ha : posF a) (hb : posF b) (h1 : (cZer a && cZer b) = false) (h2 : (cInf a && cInf b) = false) : posF (FP.fdiv a b) := by
  have key : FP.Core.quotient FP.Core.b32 (FP.Core.val32 a) (FP.Core.val32 b) ≠ .nan ∧ FP.Core.sgn (FP.Core.quotient FP.Core.b32 (FP.Core.val32 a) (FP.Core.val32 b)) = false := by
    rcases posF_cases ha with g1 | ⟨c, q, g1⟩ <;> rcases posF_cases hb with g2 | ⟨d, r, g2⟩
    · rw [(cInf_val ha).mpr g1, (cInf_val hb).mpr g2] at h2; cases h2
    · rw [g1, g2]; exact ⟨by simp [FP.Core.quotient], by simp [FP.Core.quotient, FP.Core.sgn]⟩
    · rw [g1, g2]; exact ⟨by simp [FP.Core.quotient], by simp [FP.Core.quotient, FP.Core.sgn]⟩
    · rw [g1, g2]
      by_cases hd : d = 0
      · have hc : c ≠ 0 := fun e => by
          rw [(cZer_val ha).mpr ⟨q, by rw [g1, e]⟩, (cZer_val hb).mpr ⟨r, by rw [g2, hd]⟩] at h1; cases h1
        exact ⟨by simp [FP.Core.quotient, hd, hc], by simp [FP.Core.quotient, FP.Core.sgn, hd, hc]⟩
      · have e : FP.Core.quotient FP.Core.b32 (.fin false c q) (.fin false d r) = FP.Core.roundRatio FP.Core.b32 false c d (q - r) := by simp [FP.Core.quotient, hd]
        rw [e]
        exact ⟨FP.Core.roundRatio_ne_nan _ _ _ _ _, FP.Core.sgn_roundRatio _ _ _ _ _⟩
  refine posF_of ?_ ?_
  · show FP.Core.val32 (FP.Core.fdiv a b) ≠ _
    rw [FP.Core.val32_fdiv]; exact key.1
  · show FP.Core.sgn (FP.Core.val32 (FP.Core.fdiv a b)) = _
    rw [FP.Core.val32_fdiv]; exact key.2
theorem posF_i2f {n : Int32} (h : 0 ≤ n.toInt) : posF (FP.i2f n) := by
  have e : FP.Core.val32 (FP.Core.i2f n) = FP.Core.round FP.Core.b32 (FP.Core.ofInt n.toInt) := FP.Core.val32_i2f n
  refine posF_of ?_ ?_
  · show FP.Core.val32 (FP.Core.i2f n) ≠ _
    rw [e]; exact round_ne (by simp [FP.Core.ofInt])
  · show FP.Core.sgn (FP.Core.val32 (FP.Core.i2f n)) = _
    rw [e, sgn_round (by simp [FP.Core.ofInt])]
    simp only [FP.Core.ofInt, FP.Core.sgn, decide_eq_false_iff_not]
    omega
theorem ok_plus {a b : UInt32} (ha : okF a) (hb : okF b) : okF (cPlus a b) := by
  unfold cPlus
  split
  · exact Or.inl rfl
  · rename_i h
    simp only [Bool.or_eq_true, not_or, Bool.not_eq_true] at h
    exact Or.inr (posF_add (ok_pos ha h.1) (ok_pos hb h.2))
theorem ok_times {a b : UInt32} (ha : okF a) (hb : okF b) : okF (cTimes a b) := by
  unfold cTimes
  split
  · exact Or.inl rfl
  · rename_i h
    simp only [Bool.or_eq_true, not_or, Bool.not_eq_true] at h
    exact Or.inr (posF_mul (ok_pos ha h.1.1.1) (ok_pos hb h.1.1.2) h.1.2 h.2)
theorem ok_over {a b : UInt32} (ha : okF a) (hb : okF b) : okF (cOver a b) := by
  unfold cOver
  split
  · exact Or.inl rfl
  · rename_i h
    simp only [Bool.or_eq_true, not_or, Bool.not_eq_true] at h
    exact Or.inr (posF_div (ok_pos ha h.1.1.1) (ok_pos hb h.1.1.2) h.1.2 h.2)
theorem hn_plus {a b : UInt32} (ha : okF a) (hb : okF b) : cNeg a = false → cNeg b = false → vf_n32 (FP.fadd a b) := fun h1 h2 => n32_of (posF_ne (posF_add (ok_pos ha h1) (ok_pos hb h2)))
theorem hn_times {a b : UInt32} (ha : okF a) (hb : okF b) : cNeg a = false → cNeg b = false → (cZer a && cInf b) = false → (cInf a && cZer b) = false → vf_n32 (FP.fmul a b) := fun h1 h2 h3 h4 => n32_of (posF_ne (posF_mul (ok_pos ha h1) (ok_pos hb h2) h3 h4))
theorem hn_over {a b : UInt32} (ha : okF a) (hb : okF b) : cNeg a = false → cNeg b = false → (cZer a && cZer b) = false → (cInf a && cInf b) = false → vf_n32 (FP.fdiv a b) := fun h1 h2 h3 h4 => n32_of (posF_ne (posF_div (ok_pos ha h1) (ok_pos hb h2) h3 h4))
theorem posF_100 : posF 1120403456 := by unfold posF; decide
theorem posF_half : posF 1056964608 := by unfold posF; decide
theorem posF_x100 {x : UInt32} (h : posF x) : posF (FP.fmul x 1120403456) := by
  refine posF_mul h posF_100 ?_ ?_
  · have : cInf 1120403456 = false := by decide +kernel
    rw [this]; simp
  · have : cZer 1120403456 = false := by decide +kernel
    rw [this]; simp
theorem hn_100 {x : UInt32} (h : okF x) (hn : cNeg x = false) : vf_n32 (FP.fmul x 1120403456) := n32_of (posF_ne (posF_x100 (ok_pos h hn)))
theorem hn_100h {x : UInt32} (h : okF x) (hn : cNeg x = false) : vf_n32 (FP.fadd (FP.fmul x 1120403456) 1056964608) := n32_of (posF_ne (posF_add (posF_x100 (ok_pos h hn)) posF_half))
def cHund (x : UInt32) : Int32 := if cNeg x then 0 else FP.f2i (FP.fadd (FP.fmul x 1120403456) 1056964608)
theorem ok_i2f {n : Int32} (h : 0 ≤ n.toInt) : okF (FP.i2f n) := Or.inr (posF_i2f h)
theorem ok_0 : okF FP.fconst0 := Or.inr posF_0
theorem ok_1 : okF FP.fconst1 := Or.inr (by unfold posF; decide)
theorem ok_100 : okF 1120403456 := Or.inr posF_100
theorem ok_i2f_nI {n : Nat} (h : n < 2 ^ 31) : okF (FP.i2f (nI n)) := ok_i2f (by rw [nI_toInt h]; omega)
