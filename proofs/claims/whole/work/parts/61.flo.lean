/-! a float of the component stands for a datum of the reference: -1 for a NaN, else the number itself -/
def Rep (d : Dm) (c : UInt32) : Prop := (d = .nan ∧ c = NEG1) ∨ (d = vl c ∧ posF c)
theorem Rep.num {c : UInt32} (h : posF c) : Rep (vl c) c := Or.inr ⟨rfl, h⟩
theorem rep_i2f {n : Int32} (h : 0 ≤ n.toInt) : Rep (vl (FP.i2f n)) (FP.i2f n) := Rep.num (posF_i2f h)
theorem rep_i2f_nI {n : Nat} (h : n < 2 ^ 31) : Rep (vl (FP.i2f (nI n))) (FP.i2f (nI n)) := rep_i2f (by rw [nI_toInt h]; omega)
theorem rep_0 : Rep (vl FP.fconst0) FP.fconst0 := Rep.num posF_0
theorem rep_1 : Rep (vl FP.fconst1) FP.fconst1 := Rep.num posF_1
theorem rep_100 : Rep (vl 1120403456) 1120403456 := Rep.num posF_100
theorem dAdd_nan {x y : Dm} (h : x = .nan ∨ y = .nan) : dAdd x y = .nan := by
  unfold dAdd
  rcases h with h | h
  · rw [h]; rfl
  · rw [h]; cases x <;> rfl
theorem dMul_nan {x y : Dm} (h : x = .nan ∨ y = .nan) : dMul x y = .nan := by
  unfold dMul
  rcases h with h | h
  · rw [h]; rfl
  · rw [h]; cases x <;> rfl
theorem dDiv_nan {x y : Dm} (h : x = .nan ∨ y = .nan) : dDiv x y = .nan := by
  unfold dDiv
  rcases h with h | h
  · rw [h]; rfl
  · rw [h]; cases x <;> rfl
theorem rep_add {x y : Dm} {a b : UInt32} (hx : Rep x a) (hy : Rep y b) : Rep (dAdd x y) (cPlus a b) := by
  unfold cPlus
  rcases hx with ⟨hx, ha⟩ | ⟨hx, ha⟩
  · rw [ha, cNeg_NEG1]
    exact Or.inl ⟨dAdd_nan (Or.inl hx), rfl⟩
  · rcases hy with ⟨hy, hb⟩ | ⟨hy, hb⟩
    · rw [hb, cNeg_NEG1, Bool.or_true]
      exact Or.inl ⟨dAdd_nan (Or.inr hy), rfl⟩
    · rw [cNeg_pos ha, cNeg_pos hb]
      refine Or.inr ⟨?_, posF_add ha hb⟩
      rw [hx, hy]
      exact (FP.Core.val32_fadd a b).symm
theorem rep_mul {x y : Dm} {a b : UInt32} (hx : Rep x a) (hy : Rep y b) : Rep (dMul x y) (cTimes a b) := by
  unfold cTimes
  rcases hx with ⟨hx, ha⟩ | ⟨hx, ha⟩
  · rw [ha, cNeg_NEG1]
    exact Or.inl ⟨dMul_nan (Or.inl hx), rfl⟩
  · rcases hy with ⟨hy, hb⟩ | ⟨hy, hb⟩
    · rw [hb, cNeg_NEG1, Bool.or_true]
      exact Or.inl ⟨dMul_nan (Or.inr hy), rfl⟩
    · rw [cNeg_pos ha, cNeg_pos hb]
      cases h1 : (cZer a && cInf b)
      · cases h2 : (cInf a && cZer b)
        · refine Or.inr ⟨?_, posF_mul ha hb h1 h2⟩
          rw [hx, hy]
          exact (FP.Core.val32_fmul a b).symm
        · refine Or.inl ⟨?_, rfl⟩
          simp only [Bool.and_eq_true] at h2
          obtain ⟨q, e2⟩ := (cZer_val hb).mp h2.2
          rw [hx, hy]
          unfold dMul
          rw [show vl a = .inf false from (cInf_val ha).mp h2.1, show vl b = .fin false 0 q from e2]
          rfl
      · refine Or.inl ⟨?_, rfl⟩
        simp only [Bool.and_eq_true] at h1
        obtain ⟨q, e1⟩ := (cZer_val ha).mp h1.1
        rw [hx, hy]
        unfold dMul
        rw [show vl b = .inf false from (cInf_val hb).mp h1.2, show vl a = .fin false 0 q from e1]
        rfl
theorem rep_div {x y : Dm} {a b : UInt32} (hx : Rep x a) (hy : Rep y b) : Rep (dDiv x y) (cOver a b) := by
  unfold cOver
  rcases hx with ⟨hx, ha⟩ | ⟨hx, ha⟩
  · rw [ha, cNeg_NEG1]
    exact Or.inl ⟨dDiv_nan (Or.inl hx), rfl⟩
  · rcases hy with ⟨hy, hb⟩ | ⟨hy, hb⟩
    · rw [hb, cNeg_NEG1, Bool.or_true]
      exact Or.inl ⟨dDiv_nan (Or.inr hy), rfl⟩
    · rw [cNeg_pos ha, cNeg_pos hb]
      cases h1 : (cZer a && cZer b)
      · cases h2 : (cInf a && cInf b)
        · refine Or.inr ⟨?_, posF_div ha hb h1 h2⟩
          rw [hx, hy]
          exact (FP.Core.val32_fdiv a b).symm
        · refine Or.inl ⟨?_, rfl⟩
          simp only [Bool.and_eq_true] at h2
          rw [hx, hy]
          unfold dDiv
          rw [show vl a = .inf false from (cInf_val ha).mp h2.1, show vl b = .inf false from (cInf_val hb).mp h2.2]
          rfl
      · refine Or.inl ⟨?_, rfl⟩
        simp only [Bool.and_eq_true] at h1
        obtain ⟨q, e1⟩ := (cZer_val ha).mp h1.1
        obtain ⟨q2, e2⟩ := (cZer_val hb).mp h1.2
        rw [hx, hy]
        unfold dDiv
        rw [show vl a = .fin false 0 q from e1, show vl b = .fin false 0 q2 from e2]
        simp [FP.Core.quotient]
theorem rep_hun {x : Dm} {a : UInt32} (h : Rep x a) : hunD x = cHund a := by
  unfold hunD cHund
  rcases h with ⟨h, ha⟩ | ⟨h, ha⟩
  · rw [ha, cNeg_NEG1, h, dMul_nan (Or.inl rfl), dAdd_nan (Or.inl rfl)]
    decide
  · rw [cNeg_pos ha, h]
    show FP.Core.toI _ = FP.Core.toI (FP.Core.val32 (FP.Core.fadd (FP.Core.fmul a 1120403456) 1056964608))
    rw [FP.Core.val32_fadd, FP.Core.val32_fmul]
    rfl
theorem rep_bit {x : Dm} {a : UInt32} (h : Rep x a) : bitD x = cBits a := by
  unfold bitD cBits
  rcases h with ⟨h, ha⟩ | ⟨h, ha⟩
  · rw [ha, cNeg_NEG1, h]
    rfl
  · rw [cNeg_pos ha, h, if_neg (posF_ne ha), FP.Core.of32_val32 (posF_ne ha)]
    rfl
/-! prices, movements and indices -/
theorem Rel.obR {a : Nat → Int32} {b : Nat → Nat → Int32} (h : Rel a b) {k mo : Nat} (hk : k < 12) (hm : mo < 24) : Rep (obD a k mo) (obsP b k mo) := by
  unfold obD obsP
  rw [h.pr hk hm, h.sz hk]
  exact rep_div (rep_i2f (h.1.2.1 _ (by omega))) (rep_i2f (h.1.2.2.1 k hk))
theorem Rel.efR {a : Nat → Int32} {b : Nat → Nat → Int32} (h : Rel a b) {k mo : Nat} (hk : k < 12) (hm : mo < 24) : Rep (efD a k mo) (effP b k mo) := by
  have h12 := h.le
  unfold efD effP
  rw [h.pni hk]
  cases hp : isPNI b k mo
  · exact h.obR hk hm
  · obtain ⟨-, e2, e3, -, e5, e6, -⟩ := h.lnk hk (isPNI_ne hp)
    rw [e2, e3]
    exact rep_mul (h.obR (by omega) hm) (rep_div (h.obR hk e6) (h.obR (by omega) e6))
section ACC
variable {b : Nat → Nat → Int32} {e : Nat → Bool} {v : Nat → UInt32} {x : Int32} {f t : Nat} {F : Int32} {p : Nat → Bool} {P Q : Nat → Dm} {N : Nat}
theorem mat_swap {k : Nat} : mat b e x t f k = mat b e x f t k := by
  unfold mat
  cases decide (b 2 k = x) <;> cases e (k * 24 + f) <;> cases e (k * 24 + t) <;> rfl
theorem ac_n (h : ∀ k, k < N → p k = mat b e x f t k ∧ (p k = true → Rep (P k) (v (k * 24 + f)) ∧ Rep (Q k) (v (k * 24 + t)))) : ∀ n, n ≤ N → (acG F p P Q n).2.2 = cntP (mat b e x f t) n
  | 0, _ => rfl
  | n + 1, hn => by
    have ih := ac_n h n (by omega)
    obtain ⟨h1, -⟩ := h n (by omega)
    cases hp : p n
    · rw [acG_f hp, ih, cntP_f (by rw [← h1]; exact hp)]
    · rw [acG_t hp]
      show (acG F p P Q n).2.2 + 1 = _
      rw [ih, cntP_t (by rw [← h1]; exact hp)]
theorem ac_U0 (hF : F = 0) (h : ∀ k, k < N → p k = mat b e x f t k ∧ (p k = true → Rep (P k) (v (k * 24 + f)) ∧ Rep (Q k) (v (k * 24 + t)))) : ∀ n, n ≤ N → Rep (acG F p P Q n).1 (sumP b e v x f t t n) ∧ Rep (acG F p P Q n).2.1 (sumP b e v x f t f n)
  | 0, _ => ⟨rep_0, rep_0⟩
  | n + 1, hn => by
    obtain ⟨i1, i2⟩ := ac_U0 hF h n (by omega)
    obtain ⟨h1, h2⟩ := h n (by omega)
    unfold sumP
    cases hp : p n
    · rw [acG_f hp, if_neg (by rw [← h1, hp]; decide), if_neg (by rw [← h1, hp]; decide)]
      exact ⟨i1, i2⟩
    · obtain ⟨r1, r2⟩ := h2 hp
      rw [acG_t hp, if_pos (by rw [← h1, hp]), if_pos (by rw [← h1, hp])]
      unfold tkU tkL
      rw [if_pos hF, if_pos hF]
      exact ⟨rep_add i1 r2, rep_add i2 r1⟩
theorem ac_U1 (hF0 : ¬ F = 0) (hF : F = nI 1) (h : ∀ k, k < N → p k = mat b e x f t k ∧ (p k = true → Rep (P k) (v (k * 24 + f)) ∧ Rep (Q k) (v (k * 24 + t)))) : ∀ n, n ≤ N → Rep (acG F p P Q n).1 (sumR b e v x f t n)
  | 0, _ => rep_0
  | n + 1, hn => by
    have ih := ac_U1 hF0 hF h n (by omega)
    obtain ⟨h1, h2⟩ := h n (by omega)
    unfold sumR
    cases hp : p n
    · rw [acG_f hp, if_neg (by rw [← h1, hp]; decide)]
      exact ih
    · obtain ⟨r1, r2⟩ := h2 hp
      rw [acG_t hp, if_pos (by rw [← h1, hp])]
      unfold tkU
      rw [if_neg hF0, if_pos hF]
      exact rep_add ih (rep_div r2 r1)
theorem ac_L2 (hF0 : ¬ F = 0) (hF : ¬ F = nI 1) (h : ∀ k, k < N → p k = mat b e x f t k ∧ (p k = true → Rep (P k) (v (k * 24 + f)) ∧ Rep (Q k) (v (k * 24 + t)))) : ∀ n, n ≤ N → Rep (acG F p P Q n).2.1 (sumR b e v x t f n)
  | 0, _ => rep_0
  | n + 1, hn => by
    have ih := ac_L2 hF0 hF h n (by omega)
    obtain ⟨h1, h2⟩ := h n (by omega)
    unfold sumR
    rw [mat_swap]
    cases hp : p n
    · rw [acG_f hp, if_neg (by rw [← h1, hp]; decide)]
      exact ih
    · obtain ⟨r1, r2⟩ := h2 hp
      rw [acG_t hp, if_pos (by rw [← h1, hp])]
      unfold tkL
      rw [if_neg hF0, if_neg hF]
      exact rep_add ih (rep_div r1 r2)
theorem ac_mov (hB : bWF b) (hN : N = itN b) (hF : F = b 0 1) (h : ∀ k, k < N → p k = mat b e x f t k ∧ (p k = true → Rep (P k) (v (k * 24 + f)) ∧ Rep (Q k) (v (k * 24 + t)))) : (acG F p P Q N).2.2 = cntM b e x f t ∧ (0 < cntM b e x f t → Rep (rsD F (acG F p P Q N).1 (acG F p P Q N).2.1 (acG F p P Q N).2.2) (movC b e v x f t)) := by
  have h12 := hB.1.2
  have hc := ac_n (F := F) h N (Nat.le_refl N)
  have hcl := cntM_le b e x f t
  have hcm : (acG F p P Q N).2.2 = cntM b e x f t := by rw [hc, hN]; rfl
  refine ⟨hcm, fun hpos => ?_⟩
  rw [hcm]
  unfold rsD movC
  rw [if_neg (show ¬ cntM b e x f t = 0 by omega)]
  by_cases h0 : F = 0
  · obtain ⟨u1, u2⟩ := ac_U0 h0 h N (Nat.le_refl N)
    rw [if_pos h0, if_pos (show b 0 1 = 0 by rw [← hF]; exact h0), ← hN]
    exact rep_div u1 u2
  · rw [if_neg h0, if_neg (show ¬ b 0 1 = 0 by rw [← hF]; exact h0)]
    by_cases h1 : F = nI 1
    · rw [if_pos h1, if_pos (show b 0 1 = nI 1 by rw [← hF]; exact h1), ← hN]
      exact rep_div (ac_U1 h0 h1 h N (Nat.le_refl N)) (rep_i2f_nI (by omega))
    · rw [if_neg h1, if_neg (show ¬ b 0 1 = nI 1 by rw [← hF]; exact h1), ← hN]
      exact rep_div (rep_i2f_nI (by omega)) (ac_L2 h0 h1 h N (Nat.le_refl N))
end ACC
theorem Rel.mvR {a : Nat → Int32} {b : Nat → Nat → Int32} (h : Rel a b) {x : Int32} {f t : Nat} (hf : f < 24) (ht : t < 24) : Rep (mvD a x f t) (mvB b x f t) := by
  have h12 := h.le
  have key := ac_mov (b := b) (e := eB b) (v := vB b) (x := x) (f := f) (t := t) (F := a 4) (p := maM a x f t) (P := fun k => efD a k f) (Q := fun k => efD a k t) (N := mN a) h.1 h.n h.2.1.1.2 (fun k hk => by
    rw [h.n] at hk
    refine ⟨h.ma (by omega) hf ht, fun _ => ?_⟩
    rw [vB_at hf, vB_at ht]
    exact ⟨h.efR (by omega) hf, h.efR (by omega) ht⟩)
  unfold mvD endD acM
  rcases Nat.eq_zero_or_pos (cntM b (eB b) x f t) with z | z
  · rw [if_pos (by rw [key.1]; exact z)]
    unfold mvB movC
    rw [if_pos z]
    exact rep_1
  · rw [if_neg (by rw [key.1]; omega)]
    exact key.2 z
theorem Rel.knR {a : Nat → Int32} {b : Nat → Nat → Int32} (h : Rel a b) {k : Nat} (hk : k < 12) : ∀ {m : Nat}, m < 24 → Rep (knD a k m) (knV b k m)
  | 0, hm => h.efR hk hm
  | m + 1, hm => by
    unfold knD knV
    rw [h.ef hk hm]
    split
    · exact h.efR hk hm
    · rw [h.st hk]
      exact rep_mul (Rel.knR h hk (by omega)) (h.mvR (by omega) hm)
theorem kEB_at {b : Nat → Nat → Int32} {k m : Nat} (hm : m < 24) : kEB b (k * 24 + m) = knE b k m := by
  unfold kEB
  rw [show (k * 24 + m) / 24 = k by omega, show (k * 24 + m) % 24 = m by omega]
theorem kVB_at {b : Nat → Nat → Int32} {k m : Nat} (hm : m < 24) : kVB b (k * 24 + m) = knV b k m := by
  unfold kVB
  rw [show (k * 24 + m) / 24 = k by omega, show (k * 24 + m) % 24 = m by omega]
theorem Rel.diR {a : Nat → Int32} {b : Nat → Nat → Int32} (h : Rel a b) {x : Int32} {f t : Nat} (hf : f < 24) (ht : t < 24) : diH a x f t = hasDir b (kEB b) x f t ∧ (hasDir b (kEB b) x f t = true → Rep (diD a x f t) (dirC b (kEB b) (kVB b) x f t)) := by
  have h12 := h.le
  have key := ac_mov (b := b) (e := kEB b) (v := kVB b) (x := x) (f := f) (t := t) (F := a 4) (p := fun k => decide (a (6 + k) = x) && knM a k f && knM a k t) (P := fun k => knD a k f) (Q := fun k => knD a k t) (N := mN a) h.1 h.n h.2.1.1.2 (fun k hk => by
    rw [h.n] at hk
    refine ⟨?_, fun _ => ?_⟩
    · unfold mat
      rw [h.st (by omega), h.kn (by omega) hf, h.kn (by omega) ht, kEB_at hf, kEB_at ht]
    · rw [kVB_at hf, kVB_at ht]
      exact ⟨h.knR (by omega) hf, h.knR (by omega) ht⟩)
  unfold diH diD hdF diA hasDir
  rw [key.1]
  refine ⟨rfl, fun hp => ?_⟩
  have hp : 0 < cntM b (kEB b) x f t := of_decide_eq_true hp
  rw [if_neg (by omega), ← key.1]
  exact rep_mul (key.2 hp) rep_100
theorem Rel.chR {a : Nat → Int32} {b : Nat → Nat → Int32} (h : Rel a b) {x : Int32} {fr : Nat} : ∀ {n : Nat}, fr + n < 24 → Rep (chD a x fr n) (chC b (eB b) (vB b) x fr n)
  | 0, _ => rep_100
  | n + 1, hn => by
    unfold chD chC
    exact rep_mul (Rel.chR h (by omega)) (h.mvR (by omega) (by omega))
theorem Rel.agR {a : Nat → Int32} {b : Nat → Nat → Int32} (h : Rel a b) {f t : Nat} (hf : f < 24) (ht : t < 24) : ∀ {n : Nat}, n ≤ 4 → Rep (agD a f t n).1 (agC b (kEB b) (kVB b) f t n) ∧ (agD a f t n).2 = nI (wDir b (kEB b) f t n)
  | 0, _ => ⟨rep_0, rfl⟩
  | n + 1, hn => by
    obtain ⟨i1, i2⟩ := Rel.agR h hf ht (n := n) (by omega)
    obtain ⟨d1, d2⟩ := h.diR (x := nI n) hf ht
    obtain ⟨w1, w2⟩ := h.1.2.2.2.2.2.1 n (by omega)
    unfold agD agC wDir
    rw [d1]
    by_cases hd : hasDir b (kEB b) (nI n) f t = true
    · rw [if_pos hd, if_pos hd, if_pos hd, h.w (by omega), w1]
      refine ⟨rep_add i1 (rep_mul (rep_i2f_nI (by omega)) (d2 hd)), ?_⟩
      show (agD a f t n).2 + _ = _
      rw [i2, nI_add]
    · rw [if_neg hd, if_neg hd, if_neg hd]
      exact ⟨i1, i2⟩
theorem an_KB {a : Nat → Int32} {b : Nat → Nat → Int32} (h : Rel a b) (x y : Int32) : mKBf a x y = fKB b x y := by
  have h12 := h.le
  unfold mKBf fKB
  rw [h.it, isMonM_eq]
  split
  · rename_i q
    simp only [Bool.and_eq_true] at q
    have hk := (isIt_c h.1 q.1).1
    have hm := (isMon_c q.2).1
    rw [h.kn (by omega) hm, rep_bit (h.knR (by omega) hm)]
  · rfl
theorem smm_eq (x y z : Int32) : smmM x y z = smm x y z := by unfold smmM smm; rw [isStrM_eq, isMonM_eq, isMonM_eq]
theorem smm_c {x y z : Int32} (q : smm x y z = true) : nC y < 24 ∧ nC z < 24 ∧ y = nI (nC y) ∧ z = nI (nC z) := by
  unfold smm at q
  simp only [Bool.and_eq_true] at q
  exact ⟨(isMon_c q.1.2).1, (isMon_c q.2).1, (isMon_c q.1.2).2, (isMon_c q.2).2⟩
theorem an_MB {a : Nat → Int32} {b : Nat → Nat → Int32} (h : Rel a b) (x y z : Int32) : mMBf a x y z = fMB b x y z := by
  unfold mMBf fMB
  rw [smm_eq]
  split
  · rename_i q
    obtain ⟨h1, h2, -, -⟩ := smm_c q
    rw [rep_bit (h.mvR h1 h2)]
  · rfl
theorem an_DI {a : Nat → Int32} {b : Nat → Nat → Int32} (h : Rel a b) (x y z : Int32) : mDIf a x y z = fDI b x y z := by
  unfold mDIf fDI
  rw [smm_eq]
  split
  · rename_i q
    obtain ⟨h1, h2, -, -⟩ := smm_c q
    obtain ⟨d1, d2⟩ := h.diR (x := x) h1 h2
    rw [d1]
    split
    · rename_i q2
      exact rep_hun (d2 q2)
    · rfl
  · rfl
theorem le_nlt (y z : Int32) : (!decide (z < y)) = decide (y ≤ z) := by
  rw [← decide_not, decide_eq_decide, Int32.le_iff_toInt_le, Int32.lt_iff_toInt_lt]
  omega
theorem le_c {x y z : Int32} (q : smm x y z = true) (h : y ≤ z) : nC y + (nC z - nC y) < 24 := by
  obtain ⟨h1, h2, h3, h4⟩ := smm_c q
  rw [h3, h4, nI_leI (by omega) (by omega)] at h
  omega
theorem an_CI {a : Nat → Int32} {b : Nat → Nat → Int32} (h : Rel a b) (x y z : Int32) : mCIf a x y z = fCI b x y z := by
  unfold mCIf fCI
  rw [smm_eq, le_nlt]
  split
  · rename_i q
    simp only [Bool.and_eq_true, decide_eq_true_eq] at q
    exact rep_hun (h.chR (le_c q.1 q.2))
  · rfl
theorem an_DR {a : Nat → Int32} {b : Nat → Nat → Int32} (h : Rel a b) (x y z : Int32) : mDRf a x y z = fDR b x y z := by
  unfold mDRf fDR
  rw [smm_eq]
  split
  · rename_i q
    simp only [Bool.and_eq_true, decide_eq_true_eq] at q
    obtain ⟨h1, h2, -, -⟩ := smm_c q.1
    obtain ⟨d1, d2⟩ := h.diR (x := x) h1 h2
    rw [d1]
    split
    · rename_i q2
      rw [rep_hun (d2 q2), rep_hun (h.chR (x := x) (le_c q.1 q.2))]
    · rfl
  · rfl
theorem Rel.aggR {a : Nat → Int32} {b : Nat → Nat → Int32} (h : Rel a b) {f t : Nat} (hf : f < 24) (ht : t < 24) : (0 < (agD a f t 4).2 ↔ ¬ wDir b (kEB b) f t 4 = 0) ∧ (¬ wDir b (kEB b) f t 4 = 0 → Rep (aggD a f t) (aggC b (kEB b) (kVB b) f t)) := by
  obtain ⟨g1, g2⟩ := h.agR hf ht (Nat.le_refl 4)
  have hw := wDir_le h.1 (e2 := kEB b) (fr := f) (tt := t) (Nat.le_refl 4)
  refine ⟨?_, fun hne => ?_⟩
  · rw [g2, Int32.lt_iff_toInt_lt, nI_toInt (by omega)]
    have : (0 : Int32).toInt = 0 := by decide
    omega
  · unfold aggD aggC
    rw [if_neg (by rw [g2]; exact nI_ne0 (by omega) (by omega)), g2]
    exact rep_div g1 (rep_i2f_nI (by omega))
theorem an_AX {a : Nat → Int32} {b : Nat → Nat → Int32} (h : Rel a b) (x y : Int32) : mAXf a x y = fAX b x y := by
  unfold mAXf fAX
  rw [isMonM_eq, isMonM_eq]
  split
  · rename_i q
    simp only [Bool.and_eq_true] at q
    obtain ⟨g1, g2⟩ := h.aggR (isMon_c q.1).1 (isMon_c q.2).1
    by_cases hw : wDir b (kEB b) (nC x) (nC y) 4 = 0
    · rw [if_pos hw, if_neg (fun z => g1.mp z hw)]
    · rw [if_neg hw, if_pos (g1.mpr hw), rep_hun (g2 hw)]
  · rfl
theorem an_AB {a : Nat → Int32} {b : Nat → Nat → Int32} (h : Rel a b) (x y : Int32) : mABf a x y = fAB b x y := by
  unfold mABf fAB
  rw [isMonM_eq, isMonM_eq]
  split
  · rename_i q
    simp only [Bool.and_eq_true] at q
    obtain ⟨g1, g2⟩ := h.aggR (isMon_c q.1).1 (isMon_c q.2).1
    by_cases hw : wDir b (kEB b) (nC x) (nC y) 4 = 0
    · rw [if_pos hw, if_neg (fun z => g1.mp z hw)]
    · rw [if_neg hw, if_pos (g1.mpr hw), rep_bit (g2 hw)]
  · rfl
/-! an effective price is a number, neither 0 nor infinite: by the range of its bits -/
def rg (L U : Nat) (x : UInt32) : Prop := L * 8388608 ≤ x.toNat ∧ x.toNat < U * 8388608
theorem rg_pos {L U : Nat} {x : UInt32} (h : rg L U x) (hU : U ≤ 255) : posF x := by
  unfold posF
  obtain ⟨-, h2⟩ := h
  omega
theorem rg_mod {L U : Nat} {x : UInt32} (h : rg L U x) (hU : U ≤ 255) : x.toNat % 2 ^ 31 = x.toNat := by
  obtain ⟨-, h2⟩ := h
  omega
theorem rg_nz {L U : Nat} {x : UInt32} (h : rg L U x) (hU : U ≤ 255) (hL : 1 ≤ L) : cZer x = false ∧ cInf x = false ∧ cNeg x = false := by
  have hp := rg_pos h hU
  refine ⟨Bool.eq_false_iff.mpr fun e => ?_, Bool.eq_false_iff.mpr fun e => ?_, cNeg_pos hp⟩
  · have := (cZer_pos hp).mp e
    obtain ⟨h1, -⟩ := h
    omega
  · have := (cInf_pos hp).mp e
    obtain ⟨-, h2⟩ := h
    omega
theorem div_mag_ge {x y La Kb K : Nat} (hx : La * FP.Core.b32.tails ≤ FP.Core.mag FP.Core.b32 x) (hxf : FP.Core.mag FP.Core.b32 x < FP.Core.infBits FP.Core.b32) (hy : FP.Core.mag FP.Core.b32 y < Kb * FP.Core.b32.tails) (hy0 : 1 ≤ FP.Core.mag FP.Core.b32 y) (hb : Kb ≤ 255) (hL : 1 ≤ La) (hK : 1 ≤ K) (hK2 : K ≤ 255) (h : K + 22 + Kb ≤ La + 149) : K * FP.Core.b32.tails ≤ FP.Core.mag FP.Core.b32 (FP.Core.div FP.Core.b32 x y) := by
  have hf := FP.Core.good_b32
  have hqm := FP.Core.qmin_b32
  obtain ⟨s, c, q, x1, x2, x3⟩ := FP.Core.fin_of_mag hf hxf
  obtain ⟨t, d, r, y1, y2, y3⟩ := FP.Core.fin_of_mag hf (FP.Core.mag_lt_inf hy (by rw [FP.Core.exps_b32]; exact hb))
  obtain ⟨kb, l2⟩ := FP.Core.units_lt_start hy
  have l1 : FP.Core.b32.tails * 2 ^ (La - 1) ≤ FP.Core.zmag FP.Core.b32 (.fin s c q) := by
    rw [x3, ← FP.Core.unitsOf_start hL]; exact FP.Core.unitsOf_le_iff.mpr hx
  have hd0 : d ≠ 0 := by
    rintro rfl
    have h1 : FP.Core.zmag FP.Core.b32 (.fin t 0 r) = 0 := Nat.zero_mul _
    rw [y3] at h1
    have := FP.Core.unitsOf_eq_zero.mp h1
    omega
  have hd : FP.Core.decode FP.Core.b32 (FP.Core.div FP.Core.b32 x y) = FP.Core.roundRatio FP.Core.b32 (s != t) c d (q - r) := by
    unfold FP.Core.div
    rw [FP.Core.decode_enc hf (FP.Core.quotient_fits hf _ _), x1, y1]
    simp only [FP.Core.quotient, if_neg hd0]
  have hx1 := x2.2.1
  have hy1 := y2.2.1
  refine FP.Core.mag_ge hf hd (by omega) (e0 := 2 * FP.Core.b32.qmin - r) (by omega) (by omega) ?_ ?_
  · exact Nat.mul_le_mul_right _ (by rw [FP.Core.exps_b32]; exact hK2)
  · rw [FP.Core.unitsOf_start hK]
    have e1 : FP.Core.inUnits c (q - r) (2 * FP.Core.b32.qmin - r) = FP.Core.zmag FP.Core.b32 (.fin s c q) * 2 ^ (-FP.Core.b32.qmin).toNat := by
      show c * _ = c * _ * _
      rw [Nat.mul_assoc, ← Nat.pow_add]; congr 2; omega
    have e2 : 2 ^ (FP.Core.b32.qmin - (2 * FP.Core.b32.qmin - r)).toNat * d = FP.Core.zmag FP.Core.b32 (.fin t d r) := by
      show _ = d * _
      rw [Nat.mul_comm]; congr 2; omega
    rw [e1, Nat.mul_assoc, e2, y3]
    have ht : FP.Core.b32.tails = 2 ^ 23 := FP.Core.tails_b32
    have p1 : FP.Core.b32.tails * 2 ^ (K - 1) * FP.Core.unitsOf FP.Core.b32 (FP.Core.mag FP.Core.b32 y) ≤ FP.Core.b32.tails * 2 ^ (K - 1) * (FP.Core.b32.tails * 2 ^ (Kb - 1)) := Nat.mul_le_mul_left _ (Nat.le_of_lt l2)
    have p2 : FP.Core.b32.tails * 2 ^ (K - 1) * (FP.Core.b32.tails * 2 ^ (Kb - 1)) = 2 ^ (23 + (K - 1) + (23 + (Kb - 1))) := by rw [ht, Nat.pow_add, Nat.pow_add, Nat.pow_add 2 23 (Kb - 1)]
    have p3 : 2 ^ (23 + (K - 1) + (23 + (Kb - 1))) ≤ 2 ^ (23 + (La - 1) + 149) := Nat.pow_le_pow_right (by decide) (by omega)
    have p4 : 2 ^ (23 + (La - 1) + 149) = FP.Core.b32.tails * 2 ^ (La - 1) * 2 ^ (-FP.Core.b32.qmin).toNat := by
      rw [ht, hqm, show (-(-149 : Int)).toNat = 149 from rfl, Nat.pow_add, Nat.pow_add]
    have p5 : FP.Core.b32.tails * 2 ^ (La - 1) * 2 ^ (-FP.Core.b32.qmin).toNat ≤ FP.Core.zmag FP.Core.b32 (.fin s c q) * 2 ^ (-FP.Core.b32.qmin).toNat := Nat.mul_le_mul_right _ l1
    exact Nat.le_trans p1 (by rw [p2]; exact Nat.le_trans p3 (by rw [p4]; exact p5))
theorem mul_mag_ge {x y La Lb K : Nat} (hx : La * FP.Core.b32.tails ≤ FP.Core.mag FP.Core.b32 x) (hxf : FP.Core.mag FP.Core.b32 x < FP.Core.infBits FP.Core.b32) (hy : Lb * FP.Core.b32.tails ≤ FP.Core.mag FP.Core.b32 y) (hyf : FP.Core.mag FP.Core.b32 y < FP.Core.infBits FP.Core.b32) (ha : 1 ≤ La) (hb : 1 ≤ Lb) (hK : 1 ≤ K) (hK2 : K ≤ 255) (h : K + 149 + 1 ≤ 23 + La + Lb) : K * FP.Core.b32.tails ≤ FP.Core.mag FP.Core.b32 (FP.Core.mul FP.Core.b32 x y) := by
  have hf := FP.Core.good_b32
  have hqm := FP.Core.qmin_b32
  obtain ⟨s, c, q, x1, x2, x3⟩ := FP.Core.fin_of_mag hf hxf
  obtain ⟨t, d, r, y1, y2, y3⟩ := FP.Core.fin_of_mag hf hyf
  obtain ⟨p1, p2, p3⟩ := FP.Core.product_units x2 y2
  have hd : FP.Core.decode FP.Core.b32 (FP.Core.mul FP.Core.b32 x y) = FP.Core.roundRatio FP.Core.b32 (s != t) (c * d) 1 (q + r) := by
    unfold FP.Core.mul
    rw [FP.Core.decode_enc hf (FP.Core.round_fits hf _), x1, y1, p1]; rfl
  have l1 : FP.Core.b32.tails * 2 ^ (La - 1) ≤ FP.Core.unitsOf FP.Core.b32 (FP.Core.mag FP.Core.b32 x) := by
    rw [← FP.Core.unitsOf_start ha]; exact FP.Core.unitsOf_le_iff.mpr hx
  have l2 : FP.Core.b32.tails * 2 ^ (Lb - 1) ≤ FP.Core.unitsOf FP.Core.b32 (FP.Core.mag FP.Core.b32 y) := by
    rw [← FP.Core.unitsOf_start hb]; exact FP.Core.unitsOf_le_iff.mpr hy
  refine FP.Core.mag_ge hf hd (by decide) (e0 := 2 * FP.Core.b32.qmin) (by omega) p2 ?_ ?_
  · exact Nat.mul_le_mul_right _ (by rw [FP.Core.exps_b32]; exact hK2)
  · rw [p3, x3, y3, FP.Core.unitsOf_start hK, Nat.mul_one]
    have ht : FP.Core.b32.tails = 2 ^ 23 := FP.Core.tails_b32
    have e1 : FP.Core.b32.tails * 2 ^ (K - 1) * 2 ^ (FP.Core.b32.qmin - 2 * FP.Core.b32.qmin).toNat = 2 ^ (23 + (K - 1) + 149) := by
      rw [ht, hqm, show ((-149 : Int) - 2 * -149).toNat = 149 from rfl, Nat.pow_add, Nat.pow_add]
    have e2 : 2 ^ (23 + (K - 1) + 149) ≤ 2 ^ (23 + (La - 1) + (23 + (Lb - 1))) := Nat.pow_le_pow_right (by decide) (by omega)
    have e3 : 2 ^ (23 + (La - 1) + (23 + (Lb - 1))) = FP.Core.b32.tails * 2 ^ (La - 1) * (FP.Core.b32.tails * 2 ^ (Lb - 1)) := by rw [ht, Nat.pow_add, Nat.pow_add, Nat.pow_add 2 23 (Lb - 1)]
    rw [e1]
    exact Nat.le_trans e2 (by rw [e3]; exact Nat.mul_le_mul l1 l2)
theorem rg_div {La Ua Lb Ub K U : Nat} {a b : UInt32} (ha : rg La Ua a) (hb : rg Lb Ub b) (ua : Ua ≤ 255) (ub : Ub ≤ 255) (la : 1 ≤ La) (lb : 1 ≤ Lb) (hK : 1 ≤ K) (hK2 : K ≤ 255) (h : K + 22 + Ub ≤ La + 149) (hU : U = Ua + (149 - 23 - 1) - Lb + 3) (hU2 : U ≤ 255) : rg K U (cOver a b) := by
  obtain ⟨za, ia, na⟩ := rg_nz ha ua la
  obtain ⟨zb, ib, nb⟩ := rg_nz hb ub lb
  have e : cOver a b = FP.fdiv a b := by
    unfold cOver
    rw [na, nb, za, zb, ia, ib]
    rfl
  have hp : posF (FP.fdiv a b) := posF_div (rg_pos ha ua) (rg_pos hb ub) (by rw [za]; rfl) (by rw [ia]; rfl)
  have hm : (FP.fdiv a b).toNat % 2 ^ 31 = (FP.fdiv a b).toNat := by unfold posF at hp; omega
  rw [e]
  refine ⟨?_, ?_⟩
  · have h1 : (FP.fdiv a b).toNat = FP.Core.div FP.Core.b32 a.toNat b.toNat := FP.Core.toNat_of32 (FP.Core.quotient_fits FP.Core.good_b32 _ _)
    have h2 := div_mag_ge (x := a.toNat) (y := b.toNat) (La := La) (Kb := Ub) (K := K) (by rw [FP.Core.mag_toNat32, FP.Core.tails_b32, rg_mod ha ua]; exact ha.1) (by rw [FP.Core.mag_toNat32, FP.Core.infBits_b32, rg_mod ha ua]; have := ha.2; omega) (by rw [FP.Core.mag_toNat32, FP.Core.tails_b32, rg_mod hb ub]; exact hb.2) (by rw [FP.Core.mag_toNat32, rg_mod hb ub]; have := hb.1; omega) ub la hK hK2 h
    rw [← h1, FP.Core.mag_toNat32, FP.Core.tails_b32, hm] at h2
    exact h2
  · have ma := rg_mod ha ua
    have mb := rg_mod hb ub
    obtain ⟨a1, a2⟩ := ha
    obtain ⟨b1, b2⟩ := hb
    have g1 : a.toNat % 2 ^ 31 < Ua * 2 ^ 23 := by omega
    have g2 : Lb * 2 ^ 23 ≤ b.toNat % 2 ^ 31 := by rw [mb]; exact b1
    have g3 : b.toNat % 2 ^ 31 < 255 * 2 ^ 23 := by omega
    have h4 : (FP.fdiv a b).toNat % 2 ^ 31 < (Ua + (149 - 23 - 1) - Lb + 3) * 2 ^ 23 := FP.Core.fdiv_mag g1 g2 g3 ua lb
    rw [hm, ← hU] at h4
    omega
theorem rg_mul {La Ua Lb Ub K U : Nat} {a b : UInt32} (ha : rg La Ua a) (hb : rg Lb Ub b) (ua : Ua ≤ 255) (ub : Ub ≤ 255) (la : 1 ≤ La) (lb : 1 ≤ Lb) (hK : 1 ≤ K) (hK2 : K ≤ 255) (h : K + 149 + 1 ≤ 23 + La + Lb) (hU : U = Ua + Ub - 129 + 3) (hU2 : U ≤ 255) : rg K U (cTimes a b) := by
  obtain ⟨za, ia, na⟩ := rg_nz ha ua la
  obtain ⟨zb, ib, nb⟩ := rg_nz hb ub lb
  have e : cTimes a b = FP.fmul a b := by
    unfold cTimes
    rw [na, nb, za, zb, ia, ib]
    rfl
  have hp : posF (FP.fmul a b) := posF_mul (rg_pos ha ua) (rg_pos hb ub) (by rw [za]; rfl) (by rw [ia]; rfl)
  have hm : (FP.fmul a b).toNat % 2 ^ 31 = (FP.fmul a b).toNat := by unfold posF at hp; omega
  rw [e]
  refine ⟨?_, ?_⟩
  · have h1 : (FP.fmul a b).toNat = FP.Core.mul FP.Core.b32 a.toNat b.toNat := FP.Core.toNat_of32 (FP.Core.round_fits FP.Core.good_b32 _)
    have h2 := mul_mag_ge (x := a.toNat) (y := b.toNat) (La := La) (Lb := Lb) (K := K) (by rw [FP.Core.mag_toNat32, FP.Core.tails_b32, rg_mod ha ua]; exact ha.1) (by rw [FP.Core.mag_toNat32, FP.Core.infBits_b32, rg_mod ha ua]; have := ha.2; omega) (by rw [FP.Core.mag_toNat32, FP.Core.tails_b32, rg_mod hb ub]; exact hb.1) (by rw [FP.Core.mag_toNat32, FP.Core.infBits_b32, rg_mod hb ub]; have := hb.2; omega) la lb hK hK2 h
    rw [← h1, FP.Core.mag_toNat32, FP.Core.tails_b32, hm] at h2
    exact h2
  · have ma := rg_mod ha ua
    have mb := rg_mod hb ub
    obtain ⟨a1, a2⟩ := ha
    obtain ⟨b1, b2⟩ := hb
    have g1 : a.toNat % 2 ^ 31 < Ua * 2 ^ 23 := by omega
    have g2 : b.toNat % 2 ^ 31 < Ub * 2 ^ 23 := by omega
    have h4 : (FP.fmul a b).toNat % 2 ^ 31 < (Ua + Ub - 129 + 3) * 2 ^ 23 := FP.Core.fmul_mag g1 g2 ua ub
    rw [hm, ← hU] at h4
    omega
theorem rg_int {v : Int32} {j K : Nat} (h1 : 1 ≤ v.toInt) (h2 : v.toInt ≤ 2 ^ j) (hK : 1 ≤ K) (hj : j + 149 + 1 ≤ 23 + K) : rg 127 (K + 1) (FP.i2f v) := by
  have hp := posF_i2f (n := v) (by omega)
  have hm : (FP.i2f v).toNat % 2 ^ 31 = (FP.i2f v).toNat := by unfold posF at hp; omega
  have e : (FP.i2f v).toNat = FP.Core.fromInt FP.Core.b32 v.toInt := FP.Core.toNat_i2f v
  have g1 := FP.Core.fromInt_ge32 (a := FP.i2f v) e (by omega)
  have g2 := FP.Core.fromInt_mag32 (a := FP.i2f v) e (j := j) (K := K) (by
    have : ((v.toInt.natAbs : Nat) : Int) ≤ ((2 ^ j : Nat) : Int) := by
      rw [Int.natCast_pow]
      have : ((v.toInt.natAbs : Nat) : Int) = v.toInt := by omega
      rw [this]; exact h2
    exact Int.ofNat_le.mp this) hK hj
  rw [hm] at g1 g2
  exact ⟨by omega, by omega⟩
theorem Rel.obG {a : Nat → Int32} {b : Nat → Nat → Int32} (h : Rel a b) {k mo : Nat} (hk : k < itN b) (hm : mo < 24) (ho : hasObs b k mo = true) : rg 116 146 (obsP b k mo) := by
  have h12 := h.le
  unfold hasObs at ho
  simp only [Bool.and_eq_true, Bool.not_eq_true', decide_eq_false_iff_not] at ho
  have o2 := ho.2
  rw [Int32.le_iff_toInt_le] at o2
  have z0 : (0 : Int32).toInt = 0 := by decide
  have p2 := h.2.2.2.2 (k * 24 + mo) (by omega)
  obtain ⟨s1, s2⟩ := h.2.2.2.1 k hk
  have g1 : rg 127 145 (FP.i2f (b 8 (k * 24 + mo))) := rg_int (j := 17) (K := 144) (by omega) (by omega) (by omega) (by omega)
  have g2 : rg 127 138 (FP.i2f (b 3 k)) := rg_int (j := 10) (K := 137) s1 (by omega) (by omega) (by omega)
  exact rg_div g1 g2 (by omega) (by omega) (by omega) (by omega) (by omega) (by omega) (by omega) rfl (by omega)
theorem Rel.efG {a : Nat → Int32} {b : Nat → Nat → Int32} (h : Rel a b) {k mo : Nat} (hk : k < itN b) (hm : mo < 24) (he : hasEff b k mo = true) : rg 86 178 (effP b k mo) := by
  have h12 := h.le
  unfold hasEff at he
  simp only [Bool.and_eq_true] at he
  have h2 := he.2
  unfold effP
  cases hp : isPNI b k mo
  · rw [hp] at h2
    obtain ⟨q1, q2⟩ := h.obG hk hm h2
    exact ⟨by show 86 * 8388608 ≤ (obsP b k mo).toNat; omega, by show (obsP b k mo).toNat < 178 * 8388608; omega⟩
  · rw [hp] at h2
    simp only [if_true, Bool.and_eq_true] at h2
    obtain ⟨-, -, -, -, e5, e6, -⟩ := h.lnk (by omega) (isPNI_ne hp)
    have g1 := h.obG hk e6 h2.1.1
    have g2 := h.obG e5 e6 h2.1.2
    have g3 := h.obG e5 hm h2.2
    have g4 : rg 97 158 (cOver (obsP b k (ovN b k)) (obsP b (nwN b k) (ovN b k))) := rg_div g1 g2 (by omega) (by omega) (by omega) (by omega) (by omega) (by omega) (by omega) rfl (by omega)
    exact rg_mul g3 g4 (by omega) (by omega) (by omega) (by omega) (by omega) (by omega) (by omega) rfl (by omega)
/-- the ratio of two effective prices is a number -/
theorem Rel.raN {a : Nat → Int32} {b : Nat → Nat → Int32} (h : Rel a b) {k f t : Nat} (hk : k < itN b) (hf : f < 24) (ht : t < 24) (h1 : hasEff b k f = true) (h2 : hasEff b k t = true) : dDiv (efD a k t) (efD a k f) = vl (cOver (effP b k t) (effP b k f)) ∧ posF (cOver (effP b k t) (effP b k f)) := by
  have h12 := h.le
  have hr := rep_div (h.efR (k := k) (by omega) ht) (h.efR (k := k) (by omega) hf)
  rcases hr with ⟨-, e⟩ | hr
  · exfalso
    obtain ⟨za, ia, na⟩ := rg_nz (h.efG hk ht h2) (by omega) (by omega)
    obtain ⟨zb, ib, nb⟩ := rg_nz (h.efG hk hf h1) (by omega) (by omega)
    have hp := posF_div (rg_pos (h.efG hk ht h2) (by omega)) (rg_pos (h.efG hk hf h1) (by omega)) (by rw [za]; rfl) (by rw [ia]; rfl)
    unfold cOver at e
    rw [na, nb, za, zb, ia, ib] at e
    have e : FP.fdiv (effP b k t) (effP b k f) = NEG1 := e
    rw [e] at hp
    unfold posF NEG1 at hp
    exact absurd hp (by decide)
  · exact hr
theorem Rel.gr {a : Nat → Int32} {b : Nat → Nat → Int32} (h : Rel a b) {x : Int32} {f t : Nat} (hf : f < 24) (ht : t < 24) : ∀ {n : Nat}, n ≤ itN b → ((grD a x f t n).1 = -9 ∧ (stpC b (eB b) (vB b) x f t n).1 = -1) ∨ (∃ k, k < 12 ∧ (grD a x f t n).1 = nI k ∧ (stpC b (eB b) (vB b) x f t n).1 = nI k ∧ (grD a x f t n).2 = vl (stpC b (eB b) (vB b) x f t n).2)
  | 0, _ => Or.inl ⟨rfl, rfl⟩
  | n + 1, hn => by
    have h12 := h.le
    have ih := Rel.gr h (x := x) hf ht (n := n) (by omega)
    unfold grD stpC
    rw [h.ma (by omega) hf ht]
    cases hm : mat b (eB b) x f t n
    · exact ih
    · obtain ⟨m1, m2⟩ := mat_ex hm
      rw [eB_at hf] at m1
      rw [eB_at ht] at m2
      obtain ⟨e1, e2⟩ := h.raN (k := n) (by omega) hf ht m1 m2
      rw [vB_at hf, vB_at ht, e1]
      have new : ((nI n, vl (cOver (effP b n t) (effP b n f))) : Int32 × Dm).1 = nI n ∧ ((nI n, cOver (effP b n t) (effP b n f)) : Int32 × UInt32).1 = nI n := ⟨rfl, rfl⟩
      rcases ih with ⟨i1, i2⟩ | ⟨k, hk, i1, i2, i3⟩
      · rw [if_pos (by rw [i1]; rfl), if_pos (by rw [i2]; rfl)]
        exact Or.inr ⟨n, by omega, rfl, rfl, rfl⟩
      · have c1 : decide ((grD a x f t n).1 = -9) = false := decide_eq_false (by rw [i1]; exact nI_n9 (by omega))
        have c2 : decide ((stpC b (eB b) (vB b) x f t n).1 = -1) = false := decide_eq_false (by rw [i2]; exact nI_n1 (by omega))
        rw [c1, c2, i3]
        have c3 : FP.Core.order (vl (cOver (effP b n t) (effP b n f))) (vl (stpC b (eB b) (vB b) x f t n).2) = FP.fcmp (cOver (effP b n t) (effP b n f)) (stpC b (eB b) (vB b) x f t n).2 := rfl
        rw [c3]
        cases hc : decide (FP.fcmp (cOver (effP b n t) (effP b n f)) (stpC b (eB b) (vB b) x f t n).2 = some .gt)
        · exact Or.inr ⟨k, hk, i1, i2, i3⟩
        · exact Or.inr ⟨n, by omega, rfl, rfl, rfl⟩
theorem an_GR {a : Nat → Int32} {b : Nat → Nat → Int32} (h : Rel a b) (x y z : Int32) : mGRf a x y z = fGR b x y z := by
  unfold mGRf fGR
  rw [smm_eq, h.n]
  split
  · rename_i q
    obtain ⟨h1, h2, -, -⟩ := smm_c q
    rcases h.gr (x := x) h1 h2 (Nat.le_refl (itN b)) with ⟨i1, i2⟩ | ⟨k, hk, i1, i2, -⟩
    · rw [if_pos i2, i1]
    · rw [i2, if_neg (nI_n1 (by omega)), i1]
  · rfl
