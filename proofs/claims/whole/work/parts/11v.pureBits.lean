def cBits (x : UInt32) : Int32 := if cNeg x then nI 2143289344 else x.toInt32
/-! a finite float by its significand and its exponent's field; halving and doubling -/
def fl (c j : Nat) : UInt32 := UInt32.ofNat (j * 8388608 + c)
def cn (c j : Nat) : Prop := c < 16777216 ∧ j ≤ 253 ∧ (j = 0 ∨ 8388608 ≤ c)
theorem fl_nat {c j : Nat} (h : cn c j) : (fl c j).toNat = j * 8388608 + c := by
  obtain ⟨h1, h2, -⟩ := h
  unfold fl
  rw [UInt32.toNat_ofNat_of_lt' (by simp only [UInt32.size]; omega)]
theorem cn_fits {c j : Nat} (h : cn c j) : FP.Core.fits FP.Core.b32 (.fin false c ((j : Int) - 149)) := by
  obtain ⟨h1, h2, h3⟩ := h
  refine ⟨?_, ?_, ?_, ?_⟩
  · show c < 2 ^ 24; omega
  · rw [FP.Core.qmin_b32]; omega
  · have : FP.Core.b32.qmax = 104 := by decide
    rw [this]; omega
  · rw [FP.Core.qmin_b32, FP.Core.tails_b32]
    rcases h3 with h3 | h3
    · exact Or.inl (by omega)
    · exact Or.inr (by omega)
theorem fl_of {c j : Nat} (h : cn c j) : FP.Core.of32 (.fin false c ((j : Int) - 149)) = fl c j := by
  have ht : FP.Core.b32.tails = 8388608 := by decide
  have hee : FP.Core.b32.exps = 256 := by decide
  unfold FP.Core.of32 fl
  congr 1
  obtain ⟨h1, h2, h3⟩ := h
  unfold FP.Core.encode FP.Core.assemble
  simp only [ht, hee, FP.Core.qmin_b32]
  split
  · rename_i hc
    simp only [Bool.toNat_false]
    omega
  · rename_i hc
    simp only [Bool.toNat_false]
    rw [show ((j : Int) - 149 - -149).toNat = j by omega]
    omega
theorem fl_val {c j : Nat} (h : cn c j) : FP.Core.val32 (fl c j) = .fin false c ((j : Int) - 149) := by
  rw [← fl_of h]
  exact FP.Core.val32_of32 (cn_fits h)
theorem fl_ex {x : UInt32} (h : x.toNat < 2139095040) : ∃ c j, cn c j ∧ x = fl c j := by
  by_cases h1 : x.toNat < 16777216
  · have hc : cn x.toNat 0 := ⟨h1, by omega, Or.inl rfl⟩
    refine ⟨x.toNat, 0, hc, ?_⟩
    rw [← UInt32.toNat_inj, fl_nat hc]; omega
  · have hc : cn (x.toNat % 8388608 + 8388608) (x.toNat / 8388608 - 1) := ⟨by omega, by omega, Or.inr (by omega)⟩
    refine ⟨_, _, hc, ?_⟩
    rw [← UInt32.toNat_inj, fl_nat hc]; omega
theorem fl_pos {c j : Nat} (h : cn c j) : posF (fl c j) := by
  unfold posF
  rw [fl_nat h]
  obtain ⟨h1, h2, -⟩ := h
  omega
theorem v32_2 : FP.Core.val32 FP.fconst2 = .fin false 8388608 (-22) := by decide +kernel
theorem v32_8 : FP.Core.val32 1258291200 = .fin false 8388608 0 := by decide +kernel
theorem fl_eq {x : UInt32} {c j : Nat} (h : cn c j) (hv : FP.Core.val32 x = .fin false c ((j : Int) - 149)) : x = fl c j := by
  refine FP.Core.val32_inj (by rw [hv]; exact FP.Core.Datum.noConfusion) (hv.trans (fl_val h).symm)
theorem fl_half {c j : Nat} (h : cn c j) (hj : 1 ≤ j) : FP.fdiv (fl c j) FP.fconst2 = fl c (j - 1) := by
  have h2 : cn c (j - 1) := by obtain ⟨a1, a2, a3⟩ := h; exact ⟨a1, by omega, Or.inr (by omega)⟩
  refine fl_eq h2 ?_
  show FP.Core.val32 (FP.Core.fdiv (fl c j) FP.fconst2) = _
  rw [FP.Core.val32_fdiv, fl_val h, v32_2]
  have e : FP.Core.quotient FP.Core.b32 (.fin false c ((j : Int) - 149)) (.fin false 8388608 (-22)) = FP.Core.roundRatio FP.Core.b32 false c 8388608 ((j : Int) - 149 - -22) := by simp [FP.Core.quotient]
  rw [e]
  refine FP.Core.roundRatio_exact FP.Core.good_b32 (by decide) (cn_fits h2) ?_
  rw [show ((j : Int) - 149 - -22 - (((j - 1 : Nat) : Int) - 149)).toNat = 23 by omega, show ((((j - 1 : Nat) : Int) - 149) - ((j : Int) - 149 - -22)).toNat = 0 by omega]
  omega
theorem fl_mulX {c j d k : Nat} {q : Int} {y : UInt32} (h : cn c j) (hy : FP.Core.val32 y = .fin false 8388608 q) (h2 : cn d k) (he : c * 8388608 * 2 ^ ((j : Int) - 149 + q - ((k : Int) - 149)).toNat = d * 1 * 2 ^ ((k : Int) - 149 - ((j : Int) - 149 + q)).toNat) : FP.fmul (fl c j) y = fl d k := by
  refine fl_eq h2 ?_
  show FP.Core.val32 (FP.Core.fmul (fl c j) y) = _
  rw [FP.Core.val32_fmul, fl_val h, hy]
  show FP.Core.roundRatio FP.Core.b32 (false != false) (c * 8388608) 1 ((j : Int) - 149 + q) = _
  exact FP.Core.roundRatio_exact FP.Core.good_b32 (by decide) (cn_fits h2) he
def dblC (c : Nat) : Nat := if c < 8388608 then 2 * c else c
def dblJ (c j : Nat) : Nat := if c < 8388608 then 0 else j + 1
theorem dbl_cn {c j : Nat} (h : cn c j) (hj : j < 253) : cn (dblC c) (dblJ c j) := by
  obtain ⟨h1, h2, h3⟩ := h
  unfold cn dblC dblJ
  split <;> omega
theorem fl_dbl {c j : Nat} (h : cn c j) (hj : j < 253) : FP.fmul (fl c j) FP.fconst2 = fl (dblC c) (dblJ c j) := by
  refine fl_mulX h v32_2 (dbl_cn h hj) ?_
  obtain ⟨h1, h2, h3⟩ := h
  unfold dblC dblJ
  split
  · have : j = 0 := by omega
    subst this
    rw [show (((0 : Nat) : Int) - 149 + -22 - (((0 : Nat) : Int) - 149)).toNat = 0 by omega, show ((((0 : Nat) : Int) - 149) - (((0 : Nat) : Int) - 149 + -22)).toNat = 22 by omega]
    omega
  · rw [show ((j : Int) - 149 + -22 - (((j + 1 : Nat) : Int) - 149)).toNat = 0 by omega, show ((((j + 1 : Nat) : Int) - 149) - ((j : Int) - 149 + -22)).toNat = 23 by omega]
    omega
theorem fl_up {c j : Nat} (h : cn c j) (hj : j ≤ 230) (hc : 8388608 ≤ c) : FP.fmul (fl c j) 1258291200 = fl c (j + 23) := by
  refine fl_mulX h v32_8 (by obtain ⟨a1, a2, a3⟩ := h; exact ⟨a1, by omega, Or.inr hc⟩) ?_
  rw [show ((j : Int) - 149 + 0 - (((j + 23 : Nat) : Int) - 149)).toNat = 0 by omega, show ((((j + 23 : Nat) : Int) - 149) - ((j : Int) - 149 + 0)).toNat = 23 by omega]
  omega
theorem fl_up0 : FP.fmul (fl 0 0) 1258291200 = fl 0 0 := by decide +kernel
theorem fl_f2i {c j v : Nat} (h : cn c j) (hj : j ≤ 149) (hv : c = v * 2 ^ (149 - j)) : FP.f2i (fl c j) = nI v := by
  have hvv : v ≤ c := by rw [hv]; exact Nat.le_mul_of_pos_right _ (Nat.two_pow_pos _)
  have h1 := h.1
  show FP.Core.toI (FP.Core.val32 (fl c j)) = _
  rw [fl_val h]
  show Int32.ofInt (max (-2 ^ 31) (min (2 ^ 31 - 1) (FP.Core.signed false (c * 2 ^ ((j : Int) - 149).toNat / 2 ^ (-((j : Int) - 149)).toNat)))) = _
  rw [show ((j : Int) - 149).toNat = 0 by omega, show (-((j : Int) - 149)).toNat = 149 - j by omega, hv, Nat.pow_zero, Nat.mul_one, Nat.mul_div_cancel _ (Nat.two_pow_pos _)]
  show Int32.ofInt (max (-2 ^ 31) (min (2 ^ 31 - 1) (v : Int))) = _
  rw [show max (-2 ^ 31 : Int) (min (2 ^ 31 - 1) (v : Int)) = (v : Int) by omega]
  rfl
/-- what the second loop keeps -/
def bL (c j i : Nat) (u : Nat × Nat) : Prop := cn u.1 u.2 ∧ ((8388608 ≤ c ∧ u.1 = c ∧ u.2 = j + i) ∨ (c < 8388608 ∧ j = 0 ∧ u.1 * 2 ^ u.2 = c * 2 ^ i))
theorem bL_lt {c j i : Nat} {u : Nat × Nat} (h : bL c j i u) (hc : cn c j) (hi : i < 126) (hj : j ≤ 126) : u.2 < 253 := by
  obtain ⟨⟨a1, a2, a3⟩, h⟩ := h
  rcases h with ⟨b1, b2, b3⟩ | ⟨b1, b2, b3⟩
  · omega
  · by_cases hu : u.2 = 0
    · omega
    · have h4 : 8388608 ≤ u.1 := by omega
      by_cases h5 : u.2 < 253
      · exact h5
      · exfalso
        have h6 : 8388608 * 2 ^ 253 ≤ u.1 * 2 ^ u.2 := Nat.mul_le_mul h4 (Nat.pow_le_pow_right (by decide) (by omega))
        have h7 : c * 2 ^ i ≤ 8388608 * 2 ^ 126 := Nat.mul_le_mul (by omega) (Nat.pow_le_pow_right (by decide) (by omega))
        rw [b3] at h6
        exact absurd (Nat.le_trans h6 h7) (by decide)
theorem bL_step {c j i : Nat} {u : Nat × Nat} (h : bL c j i u) (hc : cn c j) (hi : i < 126) (hj : j ≤ 126) : bL c j (i + 1) (dblC u.1, dblJ u.1 u.2) := by
  have h0 := bL_lt h hc hi hj
  refine ⟨dbl_cn h.1 h0, ?_⟩
  obtain ⟨⟨a1, a2, a3⟩, h⟩ := h
  rcases h with ⟨b1, b2, b3⟩ | ⟨b1, b2, b3⟩
  · refine Or.inl ⟨b1, ?_, ?_⟩
    · show dblC u.1 = c
      unfold dblC; rw [if_neg (by omega)]; exact b2
    · show dblJ u.1 u.2 = _
      unfold dblJ; rw [if_neg (by omega)]; omega
  · refine Or.inr ⟨b1, b2, ?_⟩
    show dblC u.1 * 2 ^ dblJ u.1 u.2 = _
    rw [Nat.pow_succ, ← Nat.mul_assoc, ← b3]
    unfold dblC dblJ
    split
    · have : u.2 = 0 := by omega
      rw [this]; omega
    · rw [Nat.pow_succ, ← Nat.mul_assoc]
theorem key_lt {a b : UInt32} (ha : posF a) (hb : posF b) : FP.fcmp a b = some .lt ↔ a.toNat < b.toNat := by
  show FP.Core.fcmp a b = some .lt ↔ _
  rw [FP.Core.fcmp_lt_key (posF_ne ha) (posF_ne hb), fkey_pos ha, fkey_pos hb]
  omega
theorem key_none {a b : UInt32} (ha : posF a) (hb : posF b) : FP.fcmp a b ≠ none := by
  intro h
  have := (FP.Core.fcmp_none a b).mp h
  rcases this with h1 | h1
  · exact posF_ne ha h1
  · exact posF_ne hb h1
def eN (i : Nat) : Int32 := -(nI i)
theorem eN_0 : nI 0 = eN 0 := by decide
theorem eN_s (i : Nat) : eN i + (-1) = eN (i + 1) := by
  unfold eN
  rw [nI_succ, Int32.neg_add, Int32.sub_eq_add_neg]
theorem eN_126 : eN 126 ≤ (-126) := by decide
theorem eN_int {i : Nat} (h : i ≤ 126) : (eN i).toInt = -(i : Int) := by
  unfold eN
  rw [Int32.toInt_neg, nI_toInt (by omega)]
  rw [Int.bmod_eq_of_le] <;> omega
theorem eN_nle {i : Nat} (h : i < 126) : ¬ eN i ≤ (-126) := by
  rw [Int32.le_iff_toInt_le, eN_int (by omega)]
  have : (-126 : Int32).toInt = -126 := by decide
  rw [this]; omega
theorem sh23 (a : Nat) : (nI a) <<< (nI 23 &&& 31) = nI (a * 8388608) := by
  have : (nI 23 &&& 31) = 23 := by decide
  rw [this]
  apply Int32.toBitVec_inj.mp
  rw [Int32.toBitVec_shiftLeft]
  show (BitVec.ofNat 32 a) <<< ((23 : Int32).toBitVec.smod 32) = BitVec.ofNat 32 (a * 8388608)
  have h2 : ((23 : Int32).toBitVec.smod 32) = 23#32 := by decide
  rw [h2]
  apply BitVec.eq_of_toNat_eq
  simp [BitVec.toNat_shiftLeft, Nat.shiftLeft_eq]
theorem eN_sub {i : Nat} (h : i ≤ 126) : eN i - (-126) = nI (126 - i) := by
  have h1 : eN i - (-126) = nI 126 - nI i := by
    unfold eN
    rw [show nI 126 = 126 by decide, Int32.sub_eq_add_neg, Int32.sub_eq_add_neg, Int32.add_comm]
    rfl
  rw [h1, pk_sub h]
theorem nI_sub126 (k : Nat) : nI k - (-126) = nI (k + 126) := by
  rw [← nI_add, Int32.sub_eq_add_neg, Int32.neg_neg, show nI 126 = 126 by decide]
theorem nI_toNat32 (x : UInt32) : nI x.toNat = x.toInt32 := by
  apply Int32.toBitVec_inj.mp
  show BitVec.ofNat 32 x.toBitVec.toNat = x.toBitVec
  simp
theorem cBits_fl {c j : Nat} (h : cn c j) : cBits (fl c j) = nI (j * 8388608 + c) := by
  unfold cBits
  rw [if_neg (by rw [cNeg_pos (fl_pos h)]; decide), ← nI_toNat32, fl_nat h]
theorem end1 {c j k : Nat} (h : cn c j) (hj : 126 ≤ j) (hk : k + 126 = j) : (nI k - (-126)) <<< (nI 23 &&& 31) + FP.f2i (FP.fmul (fl c (j - k)) 1258291200) = cBits (fl c j) := by
  have h1 := h.1
  have h2 := h.2.2
  have hc : 8388608 ≤ c := by omega
  rw [show j - k = 126 by omega, nI_sub126, sh23, fl_up ⟨h1, by omega, Or.inr hc⟩ (by omega) hc, fl_f2i (v := c) ⟨h1, by omega, Or.inr hc⟩ (by omega) (by simp), nI_add, cBits_fl h, hk]
theorem end2 {c j i : Nat} {u : Nat × Nat} (hc : cn c j) (hj : j ≤ 126) (hi : i ≤ 126) (h : bL c j i u) (hu : u.2 ≤ 126) (hx : i = 126 ∨ 127 * 8388608 ≤ (fl u.1 u.2).toNat) : (eN i - (-126)) <<< (nI 23 &&& 31) + FP.f2i (FP.fmul (fl u.1 u.2) 1258291200) = cBits (fl c j) := by
  obtain ⟨h0, h⟩ := h
  rw [fl_nat h0] at hx
  rw [eN_sub hi, sh23, cBits_fl hc]
  obtain ⟨a1, a2, a3⟩ := h0
  rcases h with ⟨b1, b2, b3⟩ | ⟨b1, b2, b3⟩
  · have hc1 := hc.1
    have hu2 : u.2 = 126 := by omega
    rw [b2, hu2, fl_up ⟨hc1, by omega, Or.inr b1⟩ (by omega) b1, fl_f2i (v := c) ⟨hc1, by omega, Or.inr b1⟩ (by omega) (by simp), nI_add, show 126 - i = j by omega]
  · have hi2 : i = 126 := by
      rcases hx with hx | hx
      · exact hx
      · exfalso
        have e1 : u.2 = 126 := by omega
        have e2 : c * 2 ^ i ≤ c * 2 ^ 126 := Nat.mul_le_mul_left _ (Nat.pow_le_pow_right (by decide) hi)
        rw [← b3, e1] at e2
        have e3 := Nat.le_of_mul_le_mul_right e2 (by decide)
        omega
    subst hi2
    have e4 : u.1 = c * 2 ^ (126 - u.2) := by
      have : u.1 * 2 ^ u.2 = c * 2 ^ (126 - u.2) * 2 ^ u.2 := by
        rw [Nat.mul_assoc, ← Nat.pow_add, show 126 - u.2 + u.2 = 126 by omega]; exact b3
      exact Nat.eq_of_mul_eq_mul_right (Nat.two_pow_pos _) this
    by_cases hn : 8388608 ≤ u.1
    · rw [fl_up ⟨a1, by omega, Or.inr hn⟩ (by omega) hn, fl_f2i (v := c) ⟨a1, by omega, Or.inr hn⟩ (by omega) (by rw [show 149 - (u.2 + 23) = 126 - u.2 by omega]; exact e4), nI_add, b2]
    · have hu0 : u.2 = 0 := by omega
      rw [hu0] at e4
      have hc0 : c = 0 := by
        rcases Nat.eq_zero_or_pos c with h9 | h9
        · exact h9
        · exfalso
          have := Nat.mul_le_mul_right (2 ^ (126 - 0)) h9
          rw [← e4] at this
          exact absurd (Nat.le_trans this (Nat.le_of_lt (Nat.lt_of_not_le hn))) (by decide)
      have hu1 : u.1 = 0 := by rw [e4, hc0, Nat.zero_mul]
      rw [hu1, hu0, fl_up0, fl_f2i (c := 0) (j := 0) (v := 0) ⟨by omega, by omega, Or.inl rfl⟩ (by omega) (by simp), nI_add, b2, hc0]
theorem bL_u {c j i : Nat} {u : Nat × Nat} (h : bL c j i u) (hu : (fl u.1 u.2).toNat < 127 * 8388608) : dblJ u.1 u.2 ≤ 126 := by
  rw [fl_nat h.1] at hu
  have := h.1.2.2
  unfold dblJ
  split <;> omega
theorem bL_0 {c j : Nat} (h : cn c j) : bL c j 0 (c, j) := by
  refine ⟨h, ?_⟩
  by_cases hc : 8388608 ≤ c
  · exact Or.inl ⟨hc, rfl, rfl⟩
  · have := h.2.2
    have hj : j = 0 := by omega
    subst hj
    exact Or.inr ⟨by omega, rfl, rfl⟩
theorem tw2 : (FP.fconst2).toNat = 128 * 8388608 := rfl
theorem tw1 : (FP.fconst1).toNat = 127 * 8388608 := rfl
theorem posF_2 : posF FP.fconst2 := by unfold posF; decide
theorem posF_1 : posF FP.fconst1 := by unfold posF; decide
theorem posF_8 : posF 1258291200 := by unfold posF; decide
theorem hn_half {x : UInt32} (h : posF x) : vf_n32 (FP.fdiv x FP.fconst2) := by
  refine n32_of (posF_ne (posF_div h posF_2 ?_ ?_))
  · have : cZer FP.fconst2 = false := by decide +kernel
    rw [this]; simp
  · have : cInf FP.fconst2 = false := by decide +kernel
    rw [this]; simp
theorem hn_dbl {x y : UInt32} (h : posF x) (hy : posF y) (h1 : cZer y = false) (h2 : cInf y = false) : vf_n32 (FP.fmul x y) := by
  refine n32_of (posF_ne (posF_mul h hy ?_ ?_))
  · rw [h2]; simp
  · rw [h1]; simp
theorem cn_sub {c j i : Nat} (h : cn c j) (hi : i + 126 ≤ j ∨ i = 0) : cn c (j - i) := by
  obtain ⟨h1, h2, h3⟩ := h
  unfold cn
  omega
theorem key_ge {a b : UInt32} (ha : posF a) (hb : posF b) (h : FP.fcmp a b = some .gt ∨ FP.fcmp a b = some .eq) : b.toNat ≤ a.toNat := by
  apply Nat.le_of_not_lt
  intro h1
  rw [(key_lt ha hb).mpr h1] at h
  rcases h with h | h <;> cases h
theorem key_nlt {a b : UInt32} (ha : posF a) (hb : posF b) (h : FP.fcmp a b ≠ some .lt) : b.toNat ≤ a.toNat := by
  apply Nat.le_of_not_lt
  intro h1
  exact h ((key_lt ha hb).mpr h1)
theorem key_lt2 {a b : UInt32} (ha : posF a) (hb : posF b) (h : FP.fcmp a b = some .lt ∨ FP.fcmp a b = none) : a.toNat < b.toNat := by
  rcases h with h | h
  · exact (key_lt ha hb).mp h
  · exact absurd h (key_none ha hb)
theorem nI_n126 {k : Nat} (h : k < 2 ^ 31) : ¬ nI k ≤ (-126) := by
  rw [Int32.le_iff_toInt_le, nI_toInt h]
  have : (-126 : Int32).toInt = -126 := by decide
  rw [this]; omega
theorem cBits_inf {x : UInt32} (ox : okF x) (h1 : cNeg x = false) (h2 : cInf x = true) : nI 2139095040 = cBits x := by
  have h3 := (cInf_pos (ok_pos ox h1)).mp h2
  unfold cBits
  rw [h1, ← nI_toNat32, h3]
  rfl
theorem fin_of {x : UInt32} (ox : okF x) (h1 : cNeg x = false) (h2 : cInf x = false) : x.toNat < 2139095040 := by
  have h3 := ok_pos ox h1
  have h4 : x.toNat ≠ 2139095040 := fun h => by rw [(cInf_pos h3).mpr h] at h2; cases h2
  unfold posF at h3
  omega
