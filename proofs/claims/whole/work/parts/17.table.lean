set_option maxHeartbeats 4000000 in
set_option maxRecDepth 100000 in
/-- PriceTable.hasImputed -/
theorem metX3_hasImputed (l : Launch) (G : GG) (ta : Nat) (ea ka ad : Nat → Nat) (fs : Bool) (e1 : Nat → Bool) (v1 : Nat → UInt32) (e2 : Nat → Bool) (v2 : Nat → UInt32) (b : Nat → Nat → Int32) (hB : bWF b) (ov1 : okV v1) (ov2 : okV v2) (k mo : Nat) (hk : k < 12) (hm : mo < 24) : Met l yX3_hasImputed wsX3_hasImputed ({ frames := 2, cells := 0, slots := 0, locals := 60 }) (pR G (tcells G ta ea ka ad fs e1 v1 e2 v2 b) [.ref ta, .int (nI k), .int (nI mo)]) (vp_Si (fun r => r = bI (hasImp e1 e2 k mo))) 0 0 (fun _ => False) := by
  refine Met.ofW (cc := cX3_hasImputed) (maxL := 3) (ret := (some .boolean)) (by decide) rfl ?_
  intro p e s m args below meth c s₁ B hml hv
  obtain ⟨rfl, hK, hP⟩ := hv
  have hx := B.exec
  have hb := B.bytes
  have hr := B.returns
  have hlocks := B.notSynchronized
  have hts := atoms_spec (ws := wsX3_hasImputed) B.pre
  have hown : s.vm.findClass RX3 = some m.cls := findClass_of_methodNamed B.named
  have hl := lv_entry ([.ref ta, .int (nI k), .int (nI mo)]) (n := 3) (Nat.le_of_ble_eq_true rfl)
  rw [lg_entry_eq]
  generalize (lg_sl ([.ref ta, .int (nI k), .int (nI mo)]) ++ List.replicate (3 - (lg_sl ([.ref ta, .int (nI k), .int (nI mo)])).length) Slot.unset).toArray = ls at hl ⊢
  have hl : lv_has ls 3 [(0, .ref ta), (1, .int (nI k)), (2, .int (nI mo))] := hl
  refine lv_aload_n hx hb dX3_hasImputed_0 rfl (lv_at hl 0 rfl) ?_
  refine va_get (D := G.1) (ci := 3) (v := .ref (ka 0)) (C := RX3) (T := TX3) (N := 4) hx hb hts (by decide +kernel) hown hK.1 hP 0 rfl rfl 1 (by decide) (hts (.fieldLink RX3 24 "PriceIndexCalculator$PriceTable" "known" "LPriceIndexCalculator$PriceRows;") (by decide +kernel)) (fun _ h9 => h9) rfl dX3_hasImputed_1 ?_
  refine lv_iload_n hx hb dX3_hasImputed_4 rfl (lv_at hl 1 rfl) ?_
  refine lv_iload_n hx hb dX3_hasImputed_5 rfl (lv_at hl 2 rfl) ?_
  refine cr_i (va_runV (As := [.int (nI k), .int (nI mo)]) (rest := []) ⟨hx, hb, hml, hown, hts⟩ (metX2_has l G ka (ad 0) e2 v2 k mo (by omega) (by omega)) (cwV 2 hts gX3_hasImputed_X2_has rfl rfl rfl (by decide +kernel) ⟨Nat.le_of_ble_eq_true rfl, Nat.le_of_ble_eq_true rfl⟩) (pR_V (q0 := 0) hK (hP.sub (ws' := rcells G ka (ad 0) e2 v2) [4, 5, 6] rfl) rfl rfl) rfl rfl hl.1 rfl (lv_room (Nat.le_of_ble_eq_true rfl)) dX3_hasImputed_6 ⟨Nat.zero_le _, Nat.zero_le _⟩) (fun r_1 hr_2 => ?_)
  subst hr_2
  refine nb_if_eq (B := e2 (k * 24 + mo)) (tgt := 28) hx hb dX3_hasImputed_9 (by decide) (fun c_3 => ?_) (fun c_3 => ?_)
  · refine lv_iconst (v := nI 0) hx hb dX3_hasImputed_28 (by decide) ?_
    exact W.zret (v := nI 0) (ty := .boolean) hx hb hr (by rfl) (fun t ht hW => ⟨_, rfl, ((congrArg bI (by simp [hasImp, c_3] : hasImp e1 e2 k mo = false)).symm), ht⟩) (fun q hq => absurd hq List.not_mem_nil) dX3_hasImputed_29
  · refine lv_aload_n hx hb dX3_hasImputed_12 rfl (lv_at hl 0 rfl) ?_
    refine va_get (D := G.1) (ci := 3) (v := .ref (ea 0)) (C := RX3) (T := TX3) (N := 4) hx hb hts (by decide +kernel) hown hK.1 hP 0 rfl rfl 0 (by decide) (hts (.fieldLink RX3 20 "PriceIndexCalculator$PriceTable" "effective" "LPriceIndexCalculator$PriceRows;") (by decide +kernel)) (fun _ h9 => h9) rfl dX3_hasImputed_13 ?_
    refine lv_iload_n hx hb dX3_hasImputed_16 rfl (lv_at hl 1 rfl) ?_
    refine lv_iload_n hx hb dX3_hasImputed_17 rfl (lv_at hl 2 rfl) ?_
    refine cr_i (va_runV (As := [.int (nI k), .int (nI mo)]) (rest := []) ⟨hx, hb, hml, hown, hts⟩ (metX2_has l G ea (ad 0) e1 v1 k mo (by omega) (by omega)) (cwV 2 hts gX3_hasImputed_X2_has rfl rfl rfl (by decide +kernel) ⟨Nat.le_of_ble_eq_true rfl, Nat.le_of_ble_eq_true rfl⟩) (pR_V (q0 := 0) hK (hP.sub (ws' := rcells G ea (ad 0) e1 v1) [1, 2, 3] rfl) rfl rfl) rfl rfl hl.1 rfl (lv_room (Nat.le_of_ble_eq_true rfl)) dX3_hasImputed_18 ⟨Nat.zero_le _, Nat.zero_le _⟩) (fun r_4 hr_5 => ?_)
    subst hr_5
    refine nb_if_ne (B := e1 (k * 24 + mo)) (tgt := 28) hx hb dX3_hasImputed_21 (by decide) (fun c_6 => ?_) (fun c_6 => ?_)
    · refine lv_iconst (v := nI 0) hx hb dX3_hasImputed_28 (by decide) ?_
      exact W.zret (v := nI 0) (ty := .boolean) hx hb hr (by rfl) (fun t ht hW => ⟨_, rfl, ((congrArg bI (by simp [hasImp, c_3, c_6] : hasImp e1 e2 k mo = false)).symm), ht⟩) (fun q hq => absurd hq List.not_mem_nil) dX3_hasImputed_29
    · refine lv_iconst (v := nI 1) hx hb dX3_hasImputed_24 (by decide) ?_
      refine lv_goto (tgt := 29) hx hb dX3_hasImputed_25 (by decide) ?_
      exact W.zret (v := nI 1) (ty := .boolean) hx hb hr (by rfl) (fun t ht hW => ⟨_, rfl, ((congrArg bI (by simp [hasImp, c_3, c_6] : hasImp e1 e2 k mo = true)).symm), ht⟩) (fun q hq => absurd hq List.not_mem_nil) dX3_hasImputed_29
set_option maxHeartbeats 4000000 in
set_option maxRecDepth 100000 in
/-- PriceTable.hasDirect -/
theorem metX3_hasDirect (l : Launch) (G : GG) (ta : Nat) (ea ka ad : Nat → Nat) (fs : Bool) (e1 : Nat → Bool) (v1 : Nat → UInt32) (e2 : Nat → Bool) (v2 : Nat → UInt32) (b : Nat → Nat → Int32) (hB : bWF b) (ov1 : okV v1) (ov2 : okV v2) (x : Int32) (fr tt : Nat) (hfr : fr < 24) (htt : tt < 24) : Met l yX3_hasDirect wsX3_hasDirect ({ frames := 3, cells := 0, slots := 0, locals := 90 }) (pR G (tcells G ta ea ka ad fs e1 v1 e2 v2 b) [.ref ta, .int x, .int (nI fr), .int (nI tt)]) (vp_Si (fun r => r = bI (hasDir b e2 x fr tt))) 0 0 (fun _ => False) := by
  refine Met.ofW (cc := cX3_hasDirect) (maxL := 4) (ret := (some .boolean)) (by decide) rfl ?_
  intro p e s m args below meth c s₁ B hml hv
  obtain ⟨rfl, hK, hP⟩ := hv
  have hx := B.exec
  have hb := B.bytes
  have hr := B.returns
  have hlocks := B.notSynchronized
  have hts := atoms_spec (ws := wsX3_hasDirect) B.pre
  have hown : s.vm.findClass RX3 = some m.cls := findClass_of_methodNamed B.named
  have hl := lv_entry ([.ref ta, .int x, .int (nI fr), .int (nI tt)]) (n := 4) (Nat.le_of_ble_eq_true rfl)
  rw [lg_entry_eq]
  generalize (lg_sl ([.ref ta, .int x, .int (nI fr), .int (nI tt)]) ++ List.replicate (4 - (lg_sl ([.ref ta, .int x, .int (nI fr), .int (nI tt)])).length) Slot.unset).toArray = ls at hl ⊢
  have hl : lv_has ls 4 [(0, .ref ta), (1, .int x), (2, .int (nI fr)), (3, .int (nI tt))] := hl
  have hit := hB.1.2
  have hcm := cntM_le b e2 x fr tt
  refine lv_aload_n hx hb dX3_hasDirect_0 rfl (lv_at hl 0 rfl) ?_
  refine va_get (D := G.1) (ci := 3) (v := .ref (ka 0)) (C := RX3) (T := TX3) (N := 4) hx hb hts (by decide +kernel) hown hK.1 hP 0 rfl rfl 1 (by decide) (hts (.fieldLink RX3 24 "PriceIndexCalculator$PriceTable" "known" "LPriceIndexCalculator$PriceRows;") (by decide +kernel)) (fun _ h9 => h9) rfl dX3_hasDirect_1 ?_
  refine lv_iload_n hx hb dX3_hasDirect_4 rfl (lv_at hl 1 rfl) ?_
  refine lv_iload_n hx hb dX3_hasDirect_5 rfl (lv_at hl 2 rfl) ?_
  refine lv_iload_n hx hb dX3_hasDirect_6 rfl (lv_at hl 3 rfl) ?_
  refine cr_i (va_runV (As := [.int x, .int (nI fr), .int (nI tt)]) (rest := []) ⟨hx, hb, hml, hown, hts⟩ (metX2_countMatched l G ka ad e2 v2 b hB x fr tt (by omega) (by omega)) (cwV 3 hts gX3_hasDirect_X2_countMatched rfl rfl rfl (by decide +kernel) ⟨Nat.le_of_ble_eq_true rfl, Nat.le_of_ble_eq_true rfl⟩) (pR_V (q0 := 0) hK (hP.sub (ws' := rbcells G ka ad e2 v2 b) [4, 5, 6, 7, 8, 9, 10, 11, 12, 13, 14, 15] rfl) rfl rfl) rfl rfl hl.1 rfl (lv_room (Nat.le_of_ble_eq_true rfl)) dX3_hasDirect_7 ⟨Nat.zero_le _, Nat.zero_le _⟩) (fun r_1 hr_2 => ?_)
  subst hr_2
  refine n_if_le (x := cntM b e2 x fr tt) (tgt := 17) hx hb (by omega) dX3_hasDirect_10 (by decide) (fun c_3 => ?_) (fun c_3 => ?_)
  · refine lv_iconst (v := nI 0) hx hb dX3_hasDirect_17 (by decide) ?_
    exact W.zret (v := nI 0) (ty := .boolean) hx hb hr (by rfl) (fun t ht hW => ⟨_, rfl, ((congrArg bI (by simp [hasDir, c_3] : hasDir b e2 x fr tt = false)).symm), ht⟩) (fun q hq => absurd hq List.not_mem_nil) dX3_hasDirect_18
  · refine lv_iconst (v := nI 1) hx hb dX3_hasDirect_13 (by decide) ?_
    refine lv_goto (tgt := 18) hx hb dX3_hasDirect_14 (by decide) ?_
    exact W.zret (v := nI 1) (ty := .boolean) hx hb hr (by rfl) (fun t ht hW => ⟨_, rfl, ((congrArg bI (by simp [hasDir, c_3] : hasDir b e2 x fr tt = true)).symm), ht⟩) (fun q hq => absurd hq List.not_mem_nil) dX3_hasDirect_18
set_option maxHeartbeats 4000000 in
set_option maxRecDepth 100000 in
/-- PriceTable.direct -/
theorem metX3_direct (l : Launch) (G : GG) (ta : Nat) (ea ka ad : Nat → Nat) (fs : Bool) (e1 : Nat → Bool) (v1 : Nat → UInt32) (e2 : Nat → Bool) (v2 : Nat → UInt32) (b : Nat → Nat → Int32) (hB : bWF b) (ov1 : okV v1) (ov2 : okV v2) (x : Int32) (fr tt : Nat) (hfr : fr < 24) (htt : tt < 24) : Met l yX3_direct wsX3_direct ({ frames := 4, cells := 0, slots := 0, locals := 120 }) (pR G (tcells G ta ea ka ad fs e1 v1 e2 v2 b) [.ref ta, .int x, .int (nI fr), .int (nI tt)]) (vp_Sf (fun r => r = dirC b e2 v2 x fr tt)) 0 0 (fun _ => False) := by
  refine Met.ofW (cc := cX3_direct) (maxL := 4) (ret := (some .float)) (by decide) rfl ?_
  intro p e s m args below meth c s₁ B hml hv
  obtain ⟨rfl, hK, hP⟩ := hv
  have hx := B.exec
  have hb := B.bytes
  have hr := B.returns
  have hlocks := B.notSynchronized
  have hts := atoms_spec (ws := wsX3_direct) B.pre
  have hown : s.vm.findClass RX3 = some m.cls := findClass_of_methodNamed B.named
  have hl := lv_entry ([.ref ta, .int x, .int (nI fr), .int (nI tt)]) (n := 4) (Nat.le_of_ble_eq_true rfl)
  rw [lg_entry_eq]
  generalize (lg_sl ([.ref ta, .int x, .int (nI fr), .int (nI tt)]) ++ List.replicate (4 - (lg_sl ([.ref ta, .int x, .int (nI fr), .int (nI tt)])).length) Slot.unset).toArray = ls at hl ⊢
  have hl : lv_has ls 4 [(0, .ref ta), (1, .int x), (2, .int (nI fr)), (3, .int (nI tt))] := hl
  refine lv_aload_n hx hb dX3_direct_0 rfl (lv_at hl 0 rfl) ?_
  refine va_get (D := G.1) (ci := 3) (v := .ref (ka 0)) (C := RX3) (T := TX3) (N := 4) hx hb hts (by decide +kernel) hown hK.1 hP 0 rfl rfl 1 (by decide) (hts (.fieldLink RX3 24 "PriceIndexCalculator$PriceTable" "known" "LPriceIndexCalculator$PriceRows;") (by decide +kernel)) (fun _ h9 => h9) rfl dX3_direct_1 ?_
  refine lv_iload_n hx hb dX3_direct_4 rfl (lv_at hl 1 rfl) ?_
  refine lv_iload_n hx hb dX3_direct_5 rfl (lv_at hl 2 rfl) ?_
  refine lv_iload_n hx hb dX3_direct_6 rfl (lv_at hl 3 rfl) ?_
  refine cr_f (va_runV (As := [.int x, .int (nI fr), .int (nI tt)]) (rest := []) ⟨hx, hb, hml, hown, hts⟩ (metX2_movement l G ka ad e2 v2 b hB ov2 x fr tt (by omega) (by omega)) (cwV 3 hts gX3_direct_X2_movement rfl rfl rfl (by decide +kernel) ⟨Nat.le_of_ble_eq_true rfl, Nat.le_of_ble_eq_true rfl⟩) (pR_V (q0 := 0) hK (hP.sub (ws' := rbcells G ka ad e2 v2 b) [4, 5, 6, 7, 8, 9, 10, 11, 12, 13, 14, 15] rfl) rfl rfl) rfl rfl hl.1 rfl (lv_room (Nat.le_of_ble_eq_true rfl)) dX3_direct_7 ⟨Nat.zero_le _, Nat.zero_le _⟩) (fun r_1 hr_2 => ?_)
  subst hr_2
  refine lv_ldcf hx hb hown (hts (.constantFloat RX3 86 (1120403456)) (by decide +kernel)) dX3_direct_10 ?_
  refine cr_f (va_runS (As := [.float (movC b e2 v2 x fr tt), .float (1120403456 : UInt32)]) (rest := []) ⟨hx, hb, hml, hown, hts⟩ (metX5_times l G (movC b e2 v2 x fr tt) (1120403456 : UInt32) (ok_mov hB ov2 (by omega) (by omega)) ok_100) (va_cwS 2 hts gX3_direct_X5_times rfl rfl rfl (by decide +kernel) ⟨Nat.le_of_ble_eq_true rfl, Nat.le_of_ble_eq_true rfl⟩) (pR_S hK (va_P_nil _ _ _)) rfl rfl hl.1 rfl (lv_room (Nat.le_of_ble_eq_true rfl)) dX3_direct_12 ⟨Nat.zero_le _, Nat.zero_le _⟩) (fun r_3 hr_4 => ?_)
  subst hr_4
  exact W.fret (v := cTimes (movC b e2 v2 x fr tt) (1120403456 : UInt32)) hx hb hr (fun t ht hW => ⟨_, rfl, rfl, ht⟩) (fun q hq => absurd hq List.not_mem_nil) dX3_direct_15
set_option maxHeartbeats 4000000 in
set_option maxRecDepth 100000 in
/-- PriceTable.chained -/
theorem metX3_chained (l : Launch) (G : GG) (ta : Nat) (ea ka ad : Nat → Nat) (fs : Bool) (e1 : Nat → Bool) (v1 : Nat → UInt32) (e2 : Nat → Bool) (v2 : Nat → UInt32) (b : Nat → Nat → Int32) (hB : bWF b) (ov1 : okV v1) (ov2 : okV v2) (x : Int32) (fr tt : Nat) (hfr : fr < 24) (htt : tt < 24) (hft : fr ≤ tt) : Met l yX3_chained wsX3_chained ({ frames := 4, cells := 0, slots := 0, locals := 120 }) (pR G (tcells G ta ea ka ad fs e1 v1 e2 v2 b) [.ref ta, .int x, .int (nI fr), .int (nI tt)]) (vp_Sf (fun r => r = chC b e1 v1 x fr (tt - fr))) 0 0 (fun _ => False) := by
  refine Met.ofW (cc := cX3_chained) (maxL := 6) (ret := (some .float)) (by decide) rfl ?_
  intro p e s m args below meth c s₁ B hml hv
  obtain ⟨rfl, hK, hP⟩ := hv
  have hx := B.exec
  have hb := B.bytes
  have hr := B.returns
  have hlocks := B.notSynchronized
  have hts := atoms_spec (ws := wsX3_chained) B.pre
  have hown : s.vm.findClass RX3 = some m.cls := findClass_of_methodNamed B.named
  have hl := lv_entry ([.ref ta, .int x, .int (nI fr), .int (nI tt)]) (n := 6) (Nat.le_of_ble_eq_true rfl)
  rw [lg_entry_eq]
  generalize (lg_sl ([.ref ta, .int x, .int (nI fr), .int (nI tt)]) ++ List.replicate (6 - (lg_sl ([.ref ta, .int x, .int (nI fr), .int (nI tt)])).length) Slot.unset).toArray = ls at hl ⊢
  have hl : lv_has ls 6 [(0, .ref ta), (1, .int x), (2, .int (nI fr)), (3, .int (nI tt))] := hl
  refine lv_ldcf hx hb hown (hts (.constantFloat RX3 86 (1120403456)) (by decide +kernel)) dX3_chained_0 ?_
  refine lv_fstore (lv' := [(4, .float (1120403456 : UInt32)), (0, .ref ta), (1, .int x), (2, .int (nI fr)), (3, .int (nI tt))]) hx hb dX3_chained_2 hl (by decide) rfl (fun ls hl => ?_)
  refine lv_iload_n hx hb dX3_chained_4 rfl (lv_at hl 3 rfl) ?_
  refine lv_istore (lv' := [(5, .int (nI fr)), (4, .float (1120403456 : UInt32)), (0, .ref ta), (1, .int x), (2, .int (nI fr)), (3, .int (nI tt))]) hx hb dX3_chained_5 hl (by decide) rfl (fun ls hl => ?_)
  refine lpR (S := UInt32) (tt) (fun i u => fr ≤ i ∧ u = chC b e1 v1 x fr (i - fr)) (fun i u => [(0, .ref ta), (1, .int x), (2, .int (nI fr)), (3, .int (nI tt)), (4, .float u), (5, .int (nI i))]) (fun u ls hI_2 hl => ?_) (fun i u ls hi_3 hI_2 hl ih_1 => ?_) (fr) 1120403456 (by omega) (⟨Nat.le_refl _, by rw [Nat.sub_self]; rfl⟩) (lv_sub hl [2, 3, 4, 5, 1, 0] rfl)
  · obtain ⟨a, rfl⟩ : ∃ z, z = u := ⟨_, rfl⟩
    have hl : lv_has ls 6 [(0, .ref ta), (1, .int x), (2, .int (nI fr)), (3, .int (nI tt)), (4, .float a), (5, .int (nI tt))] := hl
    have hfi := hI_2.1
    have oa : okF a := by rw [hI_2.2]; exact ok_ch hB ov1 (by omega)
    refine lv_iload hx hb dX3_chained_7 (lv_at hl 5 rfl) ?_
    refine lv_iload_n hx hb dX3_chained_9 rfl (lv_at hl 3 rfl) ?_
    refine n_icmp_ge (x := tt) (y := tt) (tgt := 40) hx hb (by omega) (by omega) dX3_chained_10 (by decide) (fun c_4 => ?_) (fun c_4 => ?_)
    · refine lv_fload hx hb dX3_chained_40 (lv_at hl 4 rfl) ?_
      exact W.fret (v := a) hx hb hr (fun t ht hW => ⟨_, rfl, hI_2.2, ht⟩) (fun q hq => absurd hq List.not_mem_nil) dX3_chained_42
    · exact absurd c_4 (by omega)
  · obtain ⟨a, rfl⟩ : ∃ z, z = u := ⟨_, rfl⟩
    have hl : lv_has ls 6 [(0, .ref ta), (1, .int x), (2, .int (nI fr)), (3, .int (nI tt)), (4, .float a), (5, .int (nI i))] := hl
    have hfi := hI_2.1
    have oa : okF a := by rw [hI_2.2]; exact ok_ch hB ov1 (by omega)
    refine lv_iload hx hb dX3_chained_7 (lv_at hl 5 rfl) ?_
    refine lv_iload_n hx hb dX3_chained_9 rfl (lv_at hl 3 rfl) ?_
    refine n_icmp_ge (x := i) (y := tt) (tgt := 40) hx hb (by omega) (by omega) dX3_chained_10 (by decide) (fun c_5 => ?_) (fun c_5 => ?_)
    · exact absurd c_5 (by omega)
    · refine lv_fload hx hb dX3_chained_13 (lv_at hl 4 rfl) ?_
      refine lv_aload_n hx hb dX3_chained_15 rfl (lv_at hl 0 rfl) ?_
      refine va_get (D := G.1) (ci := 3) (v := .ref (ea 0)) (C := RX3) (T := TX3) (N := 4) hx hb hts (by decide +kernel) hown hK.1 hP 0 rfl rfl 0 (by decide) (hts (.fieldLink RX3 20 "PriceIndexCalculator$PriceTable" "effective" "LPriceIndexCalculator$PriceRows;") (by decide +kernel)) (fun _ h9 => h9) rfl dX3_chained_16 ?_
      refine lv_iload_n hx hb dX3_chained_19 rfl (lv_at hl 1 rfl) ?_
      refine lv_iload hx hb dX3_chained_20 (lv_at hl 5 rfl) ?_
      refine lv_iload hx hb dX3_chained_22 (lv_at hl 5 rfl) ?_
      refine lv_iconst (v := nI 1) hx hb dX3_chained_24 (by decide) ?_
      refine n_add hx hb dX3_chained_25 ?_
      refine cr_f (va_runV (As := [.int x, .int (nI i), .int (nI (i + 1))]) (rest := [.float a]) ⟨hx, hb, hml, hown, hts⟩ (metX2_movement l G ea ad e1 v1 b hB ov1 x i (i + 1) (by omega) (by omega)) (cwV 3 hts gX3_chained_X2_movement rfl rfl rfl (by decide +kernel) ⟨Nat.le_of_ble_eq_true rfl, Nat.le_of_ble_eq_true rfl⟩) (pR_V (q0 := 0) hK (hP.sub (ws' := rbcells G ea ad e1 v1 b) [1, 2, 3, 7, 8, 9, 10, 11, 12, 13, 14, 15] rfl) rfl rfl) rfl rfl hl.1 rfl (lv_room (Nat.le_of_ble_eq_true rfl)) dX3_chained_26 ⟨Nat.zero_le _, Nat.zero_le _⟩) (fun r_6 hr_7 => ?_)
      subst hr_7
      refine cr_f (va_runS (As := [.float a, .float (movC b e1 v1 x i (i + 1))]) (rest := []) ⟨hx, hb, hml, hown, hts⟩ (metX5_times l G a (movC b e1 v1 x i (i + 1)) oa (ok_mov hB ov1 (by omega) (by omega))) (va_cwS 2 hts gX3_chained_X5_times rfl rfl rfl (by decide +kernel) ⟨Nat.le_of_ble_eq_true rfl, Nat.le_of_ble_eq_true rfl⟩) (pR_S hK (va_P_nil _ _ _)) rfl rfl hl.1 rfl (lv_room (Nat.le_of_ble_eq_true rfl)) dX3_chained_29 ⟨Nat.zero_le _, Nat.zero_le _⟩) (fun r_8 hr_9 => ?_)
      subst hr_9
      refine lv_fstore (lv' := [(4, .float (cTimes a (movC b e1 v1 x i (i + 1)))), (0, .ref ta), (1, .int x), (2, .int (nI fr)), (3, .int (nI tt)), (5, .int (nI i))]) hx hb dX3_chained_32 hl (by decide) rfl (fun ls hl => ?_)
      refine lv_iinc (v := nI (i + 1)) (lv' := [(5, .int (nI (i + 1))), (4, .float (cTimes a (movC b e1 v1 x i (i + 1)))), (0, .ref ta), (1, .int x), (2, .int (nI fr)), (3, .int (nI tt))]) hx hb dX3_chained_34 hl (k := 5) rfl (by exact nI_add _ _) (by decide) rfl (fun ls hl => ?_)
      refine lv_goto (tgt := 7) hx hb dX3_chained_37 (by decide) ?_
      exact ih_1 (cTimes a (movC b e1 v1 x i (i + 1))) _ (⟨by omega, by rw [hI_2.2, show (i + 1) - fr = (i - fr) + 1 by omega, chC, show fr + (i - fr) = i by omega]⟩) (lv_sub hl [2, 3, 4, 5, 1, 0] rfl)
set_option maxHeartbeats 4000000 in
set_option maxRecDepth 100000 in
/-- PriceTable.weightOfDirect -/
theorem metX3_weightOfDirect (l : Launch) (G : GG) (ta : Nat) (ea ka ad : Nat → Nat) (fs : Bool) (e1 : Nat → Bool) (v1 : Nat → UInt32) (e2 : Nat → Bool) (v2 : Nat → UInt32) (b : Nat → Nat → Int32) (hB : bWF b) (ov1 : okV v1) (ov2 : okV v2) (fr tt : Nat) (hfr : fr < 24) (htt : tt < 24) : Met l yX3_weightOfDirect wsX3_weightOfDirect ({ frames := 4, cells := 0, slots := 0, locals := 120 }) (pR G (tcells G ta ea ka ad fs e1 v1 e2 v2 b) [.ref ta, .int (nI fr), .int (nI tt)]) (vp_Si (fun r => r = nI (wDir b e2 fr tt 4))) 0 0 (fun _ => False) := by
  refine Met.ofW (cc := cX3_weightOfDirect) (maxL := 5) (ret := (some .int)) (by decide) rfl ?_
  intro p e s m args below meth c s₁ B hml hv
  obtain ⟨rfl, hK, hP⟩ := hv
  have hx := B.exec
  have hb := B.bytes
  have hr := B.returns
  have hlocks := B.notSynchronized
  have hts := atoms_spec (ws := wsX3_weightOfDirect) B.pre
  have hown : s.vm.findClass RX3 = some m.cls := findClass_of_methodNamed B.named
  have hl := lv_entry ([.ref ta, .int (nI fr), .int (nI tt)]) (n := 5) (Nat.le_of_ble_eq_true rfl)
  rw [lg_entry_eq]
  generalize (lg_sl ([.ref ta, .int (nI fr), .int (nI tt)]) ++ List.replicate (5 - (lg_sl ([.ref ta, .int (nI fr), .int (nI tt)])).length) Slot.unset).toArray = ls at hl ⊢
  have hl : lv_has ls 5 [(0, .ref ta), (1, .int (nI fr)), (2, .int (nI tt))] := hl
  refine lv_iconst (v := nI 0) hx hb dX3_weightOfDirect_0 (by decide) ?_
  refine lv_istore_n (lv' := [(3, .int (nI 0)), (0, .ref ta), (1, .int (nI fr)), (2, .int (nI tt))]) hx hb dX3_weightOfDirect_1 rfl hl (by decide) rfl (fun ls hl => ?_)
  refine lv_iconst (v := nI 0) hx hb dX3_weightOfDirect_2 (by decide) ?_
  refine lv_istore (lv' := [(4, .int (nI 0)), (3, .int (nI 0)), (0, .ref ta), (1, .int (nI fr)), (2, .int (nI tt))]) hx hb dX3_weightOfDirect_3 hl (by decide) rfl (fun ls hl => ?_)
  refine lpR (S := Nat) (4) (fun i u => u = wDir b e2 fr tt (i)) (fun i u => [(0, .ref ta), (1, .int (nI fr)), (2, .int (nI tt)), (3, .int (nI u)), (4, .int (nI i))]) (fun u ls hI_2 hl => ?_) (fun i u ls hi_3 hI_2 hl ih_1 => ?_) (0) 0 (by omega) (rfl) (lv_sub hl [2, 3, 4, 1, 0] rfl)
  · obtain ⟨w, rfl⟩ : ∃ z, z = u := ⟨_, rfl⟩
    have hl : lv_has ls 5 [(0, .ref ta), (1, .int (nI fr)), (2, .int (nI tt)), (3, .int (nI w)), (4, .int (nI 4))] := hl
    refine lv_iload hx hb dX3_weightOfDirect_5 (lv_at hl 4 rfl) ?_
    refine lv_iconst (v := nI 4) hx hb dX3_weightOfDirect_7 (by decide) ?_
    refine n_icmp_ge (x := 4) (y := 4) (tgt := 41) hx hb (by omega) (by omega) dX3_weightOfDirect_8 (by decide) (fun c_4 => ?_) (fun c_4 => ?_)
    · refine lv_iload_n hx hb dX3_weightOfDirect_41 rfl (lv_at hl 3 rfl) ?_
      exact W.iret (v := nI w) hx hb hr (fun t ht hW => ⟨_, rfl, (congrArg nI hI_2), ht⟩) (fun q hq => absurd hq List.not_mem_nil) dX3_weightOfDirect_42
    · exact absurd c_4 (by omega)
  · obtain ⟨w, rfl⟩ : ∃ z, z = u := ⟨_, rfl⟩
    have hl : lv_has ls 5 [(0, .ref ta), (1, .int (nI fr)), (2, .int (nI tt)), (3, .int (nI w)), (4, .int (nI i))] := hl
    refine lv_iload hx hb dX3_weightOfDirect_5 (lv_at hl 4 rfl) ?_
    refine lv_iconst (v := nI 4) hx hb dX3_weightOfDirect_7 (by decide) ?_
    refine n_icmp_ge (x := i) (y := 4) (tgt := 41) hx hb (by omega) (by omega) dX3_weightOfDirect_8 (by decide) (fun c_5 => ?_) (fun c_5 => ?_)
    · exact absurd c_5 (by omega)
    · refine lv_aload_n hx hb dX3_weightOfDirect_11 rfl (lv_at hl 0 rfl) ?_
      refine lv_iload hx hb dX3_weightOfDirect_12 (lv_at hl 4 rfl) ?_
      refine lv_iload_n hx hb dX3_weightOfDirect_14 rfl (lv_at hl 1 rfl) ?_
      refine lv_iload_n hx hb dX3_weightOfDirect_15 rfl (lv_at hl 2 rfl) ?_
      refine cr_i (va_runV (As := [.int (nI i), .int (nI fr), .int (nI tt)]) (rest := []) ⟨hx, hb, hml, hown, hts⟩ (metX3_hasDirect l G ta ea ka ad fs e1 v1 e2 v2 b hB ov1 ov2 (nI i) fr tt (by omega) (by omega)) (cwV 3 hts gX3_weightOfDirect_X3_hasDirect rfl rfl rfl (by decide +kernel) ⟨Nat.le_of_ble_eq_true rfl, Nat.le_of_ble_eq_true rfl⟩) (pR_V (q0 := 0) hK hP rfl rfl) rfl rfl hl.1 rfl (lv_room (Nat.le_of_ble_eq_true rfl)) dX3_weightOfDirect_16 ⟨Nat.zero_le _, Nat.zero_le _⟩) (fun r_6 hr_7 => ?_)
      subst hr_7
      refine nb_if_eq (B := hasDir b e2 (nI i) fr tt) (tgt := 35) hx hb dX3_weightOfDirect_19 (by decide) (fun c_8 => ?_) (fun c_8 => ?_)
      · refine lv_iinc (v := nI (i + 1)) (lv' := [(4, .int (nI (i + 1))), (0, .ref ta), (1, .int (nI fr)), (2, .int (nI tt)), (3, .int (nI w))]) hx hb dX3_weightOfDirect_35 hl (k := 4) rfl (by exact nI_add _ _) (by decide) rfl (fun ls hl => ?_)
        refine lv_goto (tgt := 5) hx hb dX3_weightOfDirect_38 (by decide) ?_
        exact ih_1 w _ (by rw [hI_2]; simp [wDir, c_8]) (lv_sub hl [1, 2, 3, 4, 0] rfl)
      · refine lv_iload_n hx hb dX3_weightOfDirect_22 rfl (lv_at hl 3 rfl) ?_
        refine lv_aload_n hx hb dX3_weightOfDirect_23 rfl (lv_at hl 0 rfl) ?_
        refine va_get (D := G.1) (ci := 3) (v := .ref (ad 0)) (C := RX3) (T := TX3) (N := 4) hx hb hts (by decide +kernel) hown hK.1 hP 0 rfl rfl 2 (by decide) (hts (.fieldLink RX3 9 "PriceIndexCalculator$PriceTable" "basket" "LPriceIndexCalculator$Basket;") (by decide +kernel)) (fun _ h9 => h9) rfl dX3_weightOfDirect_24 ?_
        refine va_get (D := G.1) (ci := 0) (v := .ref (ad 1)) (C := RX0) (T := TX0) (N := 10) hx hb hts (by decide +kernel) hown hK.1 hP 7 rfl rfl 2 (by decide) (hts (.fieldLink RX3 91 "PriceIndexCalculator$Basket" "weight" "[I") (by decide +kernel)) (fun _ h9 => h9) rfl dX3_weightOfDirect_27 ?_
        refine lv_iload hx hb dX3_weightOfDirect_30 (lv_at hl 4 rfl) ?_
        refine n_iald hx hb hK.1 hP 8 0 rfl rfl (j := i) (by omega) (by omega) dX3_weightOfDirect_32 ?_
        refine eq_i (y := nI (wtN b i)) ((hB.2.2.2.2.2.1 i (by omega)).1) ?_
        refine n_add hx hb dX3_weightOfDirect_33 ?_
        refine lv_istore_n (lv' := [(3, .int (nI (w + (wtN b i)))), (0, .ref ta), (1, .int (nI fr)), (2, .int (nI tt)), (4, .int (nI i))]) hx hb dX3_weightOfDirect_34 rfl hl (by decide) rfl (fun ls hl => ?_)
        refine lv_iinc (v := nI (i + 1)) (lv' := [(4, .int (nI (i + 1))), (3, .int (nI (w + (wtN b i)))), (0, .ref ta), (1, .int (nI fr)), (2, .int (nI tt))]) hx hb dX3_weightOfDirect_35 hl (k := 4) rfl (by exact nI_add _ _) (by decide) rfl (fun ls hl => ?_)
        refine lv_goto (tgt := 5) hx hb dX3_weightOfDirect_38 (by decide) ?_
        exact ih_1 (w + (wtN b i)) _ (by rw [hI_2]; simp [wDir, c_8]) (lv_sub hl [2, 3, 4, 1, 0] rfl)
set_option maxHeartbeats 4000000 in
set_option maxRecDepth 100000 in
/-- PriceTable.aggregate -/
theorem metX3_aggregate (l : Launch) (G : GG) (ta : Nat) (ea ka ad : Nat → Nat) (fs : Bool) (e1 : Nat → Bool) (v1 : Nat → UInt32) (e2 : Nat → Bool) (v2 : Nat → UInt32) (b : Nat → Nat → Int32) (hB : bWF b) (ov1 : okV v1) (ov2 : okV v2) (fr tt : Nat) (hfr : fr < 24) (htt : tt < 24) : Met l yX3_aggregate wsX3_aggregate ({ frames := 5, cells := 0, slots := 0, locals := 150 }) (pR G (tcells G ta ea ka ad fs e1 v1 e2 v2 b) [.ref ta, .int (nI fr), .int (nI tt)]) (vp_Sf (fun r => r = aggC b e2 v2 fr tt)) 0 0 (fun _ => False) := by
  refine Met.ofW (cc := cX3_aggregate) (maxL := 6) (ret := (some .float)) (by decide) rfl ?_
  intro p e s m args below meth c s₁ B hml hv
  obtain ⟨rfl, hK, hP⟩ := hv
  have hx := B.exec
  have hb := B.bytes
  have hr := B.returns
  have hlocks := B.notSynchronized
  have hts := atoms_spec (ws := wsX3_aggregate) B.pre
  have hown : s.vm.findClass RX3 = some m.cls := findClass_of_methodNamed B.named
  have hl := lv_entry ([.ref ta, .int (nI fr), .int (nI tt)]) (n := 6) (Nat.le_of_ble_eq_true rfl)
  rw [lg_entry_eq]
  generalize (lg_sl ([.ref ta, .int (nI fr), .int (nI tt)]) ++ List.replicate (6 - (lg_sl ([.ref ta, .int (nI fr), .int (nI tt)])).length) Slot.unset).toArray = ls at hl ⊢
  have hl : lv_has ls 6 [(0, .ref ta), (1, .int (nI fr)), (2, .int (nI tt))] := hl
  have hle := wDir_le hB (e2 := e2) (fr := fr) (tt := tt) (Nat.le_refl 4)
  refine lv_fconst0 hx hb dX3_aggregate_0 ?_
  refine lv_fstore_n (lv' := [(3, .float FP.fconst0), (0, .ref ta), (1, .int (nI fr)), (2, .int (nI tt))]) hx hb dX3_aggregate_1 rfl hl (by decide) rfl (fun ls hl => ?_)
  refine lv_iconst (v := nI 0) hx hb dX3_aggregate_2 (by decide) ?_
  refine lv_istore (lv' := [(4, .int (nI 0)), (3, .float FP.fconst0), (0, .ref ta), (1, .int (nI fr)), (2, .int (nI tt))]) hx hb dX3_aggregate_3 hl (by decide) rfl (fun ls hl => ?_)
  refine lpR (S := UInt32) (4) (fun i u => u = agC b e2 v2 fr tt (i)) (fun i u => [(0, .ref ta), (1, .int (nI fr)), (2, .int (nI tt)), (3, .float u), (4, .int (nI i))]) (fun u ls hI_2 hl => ?_) (fun i u ls hi_3 hI_2 hl ih_1 => ?_) (0) FP.fconst0 (by omega) (rfl) (lv_sub hl [2, 3, 4, 1, 0] rfl)
  · obtain ⟨a, rfl⟩ : ∃ z, z = u := ⟨_, rfl⟩
    have hl : lv_has ls 6 [(0, .ref ta), (1, .int (nI fr)), (2, .int (nI tt)), (3, .float a), (4, .int (nI 4))] := hl
    have oa : okF a := by rw [hI_2]; exact ok_ag hB ov2 hfr htt (by omega)
    refine lv_iload hx hb dX3_aggregate_5 (lv_at hl 4 rfl) ?_
    refine lv_iconst (v := nI 4) hx hb dX3_aggregate_7 (by decide) ?_
    refine n_icmp_ge (x := 4) (y := 4) (tgt := 59) hx hb (by omega) (by omega) dX3_aggregate_8 (by decide) (fun c_4 => ?_) (fun c_4 => ?_)
    · refine lv_fload_n hx hb dX3_aggregate_59 rfl (lv_at hl 3 rfl) ?_
      refine lv_aload_n hx hb dX3_aggregate_60 rfl (lv_at hl 0 rfl) ?_
      refine lv_iload_n hx hb dX3_aggregate_61 rfl (lv_at hl 1 rfl) ?_
      refine lv_iload_n hx hb dX3_aggregate_62 rfl (lv_at hl 2 rfl) ?_
      refine cr_i (va_runV (As := [.int (nI fr), .int (nI tt)]) (rest := [.float a]) ⟨hx, hb, hml, hown, hts⟩ (metX3_weightOfDirect l G ta ea ka ad fs e1 v1 e2 v2 b hB ov1 ov2 fr tt (by omega) (by omega)) (cwV 2 hts gX3_aggregate_X3_weightOfDirect rfl rfl rfl (by decide +kernel) ⟨Nat.le_of_ble_eq_true rfl, Nat.le_of_ble_eq_true rfl⟩) (pR_V (q0 := 0) hK hP rfl rfl) rfl rfl hl.1 rfl (lv_room (Nat.le_of_ble_eq_true rfl)) dX3_aggregate_63 ⟨Nat.zero_le _, Nat.zero_le _⟩) (fun r_5 hr_6 => ?_)
      subst hr_6
      refine lv_i2f hx hb dX3_aggregate_66 ?_
      refine cr_f (va_runS (As := [.float a, .float (FP.i2f (nI (wDir b e2 fr tt 4)))]) (rest := []) ⟨hx, hb, hml, hown, hts⟩ (metX5_over l G a (FP.i2f (nI (wDir b e2 fr tt 4))) oa (ok_i2f_nI (by omega))) (va_cwS 2 hts gX3_aggregate_X5_over rfl rfl rfl (by decide +kernel) ⟨Nat.le_of_ble_eq_true rfl, Nat.le_of_ble_eq_true rfl⟩) (pR_S hK (va_P_nil _ _ _)) rfl rfl hl.1 rfl (lv_room (Nat.le_of_ble_eq_true rfl)) dX3_aggregate_67 ⟨Nat.zero_le _, Nat.zero_le _⟩) (fun r_7 hr_8 => ?_)
      subst hr_8
      exact W.fret (v := cOver a (FP.i2f (nI (wDir b e2 fr tt 4)))) hx hb hr (fun t ht hW => ⟨_, rfl, (by rw [hI_2]; rfl), ht⟩) (fun q hq => absurd hq List.not_mem_nil) dX3_aggregate_70
    · exact absurd c_4 (by omega)
  · obtain ⟨a, rfl⟩ : ∃ z, z = u := ⟨_, rfl⟩
    have hl : lv_has ls 6 [(0, .ref ta), (1, .int (nI fr)), (2, .int (nI tt)), (3, .float a), (4, .int (nI i))] := hl
    have oa : okF a := by rw [hI_2]; exact ok_ag hB ov2 hfr htt (by omega)
    refine lv_iload hx hb dX3_aggregate_5 (lv_at hl 4 rfl) ?_
    refine lv_iconst (v := nI 4) hx hb dX3_aggregate_7 (by decide) ?_
    refine n_icmp_ge (x := i) (y := 4) (tgt := 59) hx hb (by omega) (by omega) dX3_aggregate_8 (by decide) (fun c_9 => ?_) (fun c_9 => ?_)
    · exact absurd c_9 (by omega)
    · refine lv_aload_n hx hb dX3_aggregate_11 rfl (lv_at hl 0 rfl) ?_
      refine lv_iload hx hb dX3_aggregate_12 (lv_at hl 4 rfl) ?_
      refine lv_iload_n hx hb dX3_aggregate_14 rfl (lv_at hl 1 rfl) ?_
      refine lv_iload_n hx hb dX3_aggregate_15 rfl (lv_at hl 2 rfl) ?_
      refine cr_i (va_runV (As := [.int (nI i), .int (nI fr), .int (nI tt)]) (rest := []) ⟨hx, hb, hml, hown, hts⟩ (metX3_hasDirect l G ta ea ka ad fs e1 v1 e2 v2 b hB ov1 ov2 (nI i) fr tt (by omega) (by omega)) (cwV 3 hts gX3_aggregate_X3_hasDirect rfl rfl rfl (by decide +kernel) ⟨Nat.le_of_ble_eq_true rfl, Nat.le_of_ble_eq_true rfl⟩) (pR_V (q0 := 0) hK hP rfl rfl) rfl rfl hl.1 rfl (lv_room (Nat.le_of_ble_eq_true rfl)) dX3_aggregate_16 ⟨Nat.zero_le _, Nat.zero_le _⟩) (fun r_10 hr_11 => ?_)
      subst hr_11
      refine nb_if_eq (B := hasDir b e2 (nI i) fr tt) (tgt := 53) hx hb dX3_aggregate_19 (by decide) (fun c_12 => ?_) (fun c_12 => ?_)
      · refine lv_iinc (v := nI (i + 1)) (lv' := [(4, .int (nI (i + 1))), (0, .ref ta), (1, .int (nI fr)), (2, .int (nI tt)), (3, .float a)]) hx hb dX3_aggregate_53 hl (k := 4) rfl (by exact nI_add _ _) (by decide) rfl (fun ls hl => ?_)
        refine lv_goto (tgt := 5) hx hb dX3_aggregate_56 (by decide) ?_
        exact ih_1 a _ (by rw [hI_2]; simp [agC, c_12]) (lv_sub hl [1, 2, 3, 4, 0] rfl)
      · have hwt := (hB.2.2.2.2.2.1 i (by omega)).2
        refine lv_aload_n hx hb dX3_aggregate_22 rfl (lv_at hl 0 rfl) ?_
        refine va_get (D := G.1) (ci := 3) (v := .ref (ad 0)) (C := RX3) (T := TX3) (N := 4) hx hb hts (by decide +kernel) hown hK.1 hP 0 rfl rfl 2 (by decide) (hts (.fieldLink RX3 9 "PriceIndexCalculator$PriceTable" "basket" "LPriceIndexCalculator$Basket;") (by decide +kernel)) (fun _ h9 => h9) rfl dX3_aggregate_23 ?_
        refine va_get (D := G.1) (ci := 0) (v := .ref (ad 1)) (C := RX0) (T := TX0) (N := 10) hx hb hts (by decide +kernel) hown hK.1 hP 7 rfl rfl 2 (by decide) (hts (.fieldLink RX3 91 "PriceIndexCalculator$Basket" "weight" "[I") (by decide +kernel)) (fun _ h9 => h9) rfl dX3_aggregate_26 ?_
        refine lv_iload hx hb dX3_aggregate_29 (lv_at hl 4 rfl) ?_
        refine n_iald hx hb hK.1 hP 8 0 rfl rfl (j := i) (by omega) (by omega) dX3_aggregate_31 ?_
        refine eq_i (y := nI (wtN b i)) ((hB.2.2.2.2.2.1 i (by omega)).1) ?_
        refine lv_i2f hx hb dX3_aggregate_32 ?_
        refine lv_fstore (lv' := [(5, .float (FP.i2f (nI (wtN b i)))), (0, .ref ta), (1, .int (nI fr)), (2, .int (nI tt)), (3, .float a), (4, .int (nI i))]) hx hb dX3_aggregate_33 hl (by decide) rfl (fun ls hl => ?_)
        refine lv_fload_n hx hb dX3_aggregate_35 rfl (lv_at hl 4 rfl) ?_
        refine lv_fload hx hb dX3_aggregate_36 (lv_at hl 0 rfl) ?_
        refine lv_aload_n hx hb dX3_aggregate_38 rfl (lv_at hl 1 rfl) ?_
        refine lv_iload hx hb dX3_aggregate_39 (lv_at hl 5 rfl) ?_
        refine lv_iload_n hx hb dX3_aggregate_41 rfl (lv_at hl 2 rfl) ?_
        refine lv_iload_n hx hb dX3_aggregate_42 rfl (lv_at hl 3 rfl) ?_
        refine cr_f (va_runV (As := [.int (nI i), .int (nI fr), .int (nI tt)]) (rest := [.float (FP.i2f (nI (wtN b i))), .float a]) ⟨hx, hb, hml, hown, hts⟩ (metX3_direct l G ta ea ka ad fs e1 v1 e2 v2 b hB ov1 ov2 (nI i) fr tt (by omega) (by omega)) (cwV 3 hts gX3_aggregate_X3_direct rfl rfl rfl (by decide +kernel) ⟨Nat.le_of_ble_eq_true rfl, Nat.le_of_ble_eq_true rfl⟩) (pR_V (q0 := 0) hK hP rfl rfl) rfl rfl hl.1 rfl (lv_room (Nat.le_of_ble_eq_true rfl)) dX3_aggregate_43 ⟨Nat.zero_le _, Nat.zero_le _⟩) (fun r_13 hr_14 => ?_)
        subst hr_14
        refine cr_f (va_runS (As := [.float (FP.i2f (nI (wtN b i))), .float (dirC b e2 v2 (nI i) fr tt)]) (rest := [.float a]) ⟨hx, hb, hml, hown, hts⟩ (metX5_times l G (FP.i2f (nI (wtN b i))) (dirC b e2 v2 (nI i) fr tt) (ok_i2f_nI (by omega)) (ok_dir hB ov2 (by omega) (by omega))) (va_cwS 2 hts gX3_aggregate_X5_times rfl rfl rfl (by decide +kernel) ⟨Nat.le_of_ble_eq_true rfl, Nat.le_of_ble_eq_true rfl⟩) (pR_S hK (va_P_nil _ _ _)) rfl rfl hl.1 rfl (lv_room (Nat.le_of_ble_eq_true rfl)) dX3_aggregate_46 ⟨Nat.zero_le _, Nat.zero_le _⟩) (fun r_15 hr_16 => ?_)
        subst hr_16
        refine cr_f (va_runS (As := [.float a, .float (cTimes (FP.i2f (nI (wtN b i))) (dirC b e2 v2 (nI i) fr tt))]) (rest := []) ⟨hx, hb, hml, hown, hts⟩ (metX5_plus l G a (cTimes (FP.i2f (nI (wtN b i))) (dirC b e2 v2 (nI i) fr tt)) oa (ok_times (ok_i2f_nI (by omega)) (ok_dir hB ov2 (by omega) (by omega)))) (va_cwS 2 hts gX3_aggregate_X5_plus rfl rfl rfl (by decide +kernel) ⟨Nat.le_of_ble_eq_true rfl, Nat.le_of_ble_eq_true rfl⟩) (pR_S hK (va_P_nil _ _ _)) rfl rfl hl.1 rfl (lv_room (Nat.le_of_ble_eq_true rfl)) dX3_aggregate_49 ⟨Nat.zero_le _, Nat.zero_le _⟩) (fun r_17 hr_18 => ?_)
        subst hr_18
        refine lv_fstore_n (lv' := [(3, .float (cPlus a (cTimes (FP.i2f (nI (wtN b i))) (dirC b e2 v2 (nI i) fr tt)))), (5, .float (FP.i2f (nI (wtN b i)))), (0, .ref ta), (1, .int (nI fr)), (2, .int (nI tt)), (4, .int (nI i))]) hx hb dX3_aggregate_52 rfl hl (by decide) rfl (fun ls hl => ?_)
        refine lv_iinc (v := nI (i + 1)) (lv' := [(4, .int (nI (i + 1))), (3, .float (cPlus a (cTimes (FP.i2f (nI (wtN b i))) (dirC b e2 v2 (nI i) fr tt)))), (5, .float (FP.i2f (nI (wtN b i)))), (0, .ref ta), (1, .int (nI fr)), (2, .int (nI tt))]) hx hb dX3_aggregate_53 hl (k := 5) rfl (by exact nI_add _ _) (by decide) rfl (fun ls hl => ?_)
        refine lv_goto (tgt := 5) hx hb dX3_aggregate_56 (by decide) ?_
        exact ih_1 (cPlus a (cTimes (FP.i2f (nI (wtN b i))) (dirC b e2 v2 (nI i) fr tt))) _ (by rw [hI_2]; simp [agC, c_12]) (lv_sub hl [3, 4, 5, 1, 0] rfl)
