set_option maxHeartbeats 4000000 in
set_option maxRecDepth 100000 in
/-- Real.isNan: less than zero -/
theorem metX5_isNan (l : Launch) (G : GG) (x : UInt32) : Met l yX5_isNan wsX5_isNan ({ frames := 0, cells := 0, slots := 0, locals := 0 }) (pR G ([]) [.float x]) (vp_Si (fun r => r = bI (cNeg x))) 0 0 (fun _ => False) := by
  refine Met.ofW (cc := cX5_isNan) (maxL := 1) (ret := (some .boolean)) (by decide) rfl ?_
  intro p e s m args below meth c s₁ B hml hv
  obtain ⟨rfl, hK, hP⟩ := hv
  have hx := B.exec
  have hb := B.bytes
  have hr := B.returns
  have hlocks := B.notSynchronized
  have hts := atoms_spec (ws := wsX5_isNan) B.pre
  have hown : s.vm.findClass RX5 = some m.cls := findClass_of_methodNamed B.named
  have hl := lv_entry ([.float x]) (n := 1) (Nat.le_of_ble_eq_true rfl)
  rw [lg_entry_eq]
  generalize (lg_sl ([.float x]) ++ List.replicate (1 - (lg_sl ([.float x])).length) Slot.unset).toArray = ls at hl ⊢
  have hl : lv_has ls 1 [(0, .float x)] := hl
  refine lv_fload_n hx hb dX5_isNan_0 rfl (lv_at hl 0 rfl) ?_
  refine lv_fconst0 hx hb dX5_isNan_1 ?_
  refine lv_fcmp hx hb dX5_isNan_2 ?_
  refine nf_g_ge (tgt := 10) hx hb dX5_isNan_3 (by decide) (fun c_1 => ?_) (fun c_1 => ?_)
  · refine lv_iconst (v := nI 0) hx hb dX5_isNan_10 (by decide) ?_
    exact W.zret (v := nI 0) (ty := .boolean) hx hb hr (by rfl) (fun t ht hW => ⟨_, rfl, ((congrArg bI (by simp [cNeg, c_1] : cNeg x = false)).symm), ht⟩) (fun q hq => absurd hq List.not_mem_nil) dX5_isNan_11
  · refine lv_iconst (v := nI 1) hx hb dX5_isNan_6 (by decide) ?_
    refine lv_goto (tgt := 11) hx hb dX5_isNan_7 (by decide) ?_
    exact W.zret (v := nI 1) (ty := .boolean) hx hb hr (by rfl) (fun t ht hW => ⟨_, rfl, ((congrArg bI (by simp [cNeg, c_1] : cNeg x = true)).symm), ht⟩) (fun q hq => absurd hq List.not_mem_nil) dX5_isNan_11
set_option maxHeartbeats 4000000 in
set_option maxRecDepth 100000 in
theorem metX5_isInfinite (l : Launch) (G : GG) (x : UInt32) : Met l yX5_isInfinite wsX5_isInfinite ({ frames := 0, cells := 0, slots := 0, locals := 0 }) (pR G ([]) [.float x]) (vp_Si (fun r => r = bI (cInf x))) 0 0 (fun _ => False) := by
  refine Met.ofW (cc := cX5_isInfinite) (maxL := 1) (ret := (some .boolean)) (by decide) rfl ?_
  intro p e s m args below meth c s₁ B hml hv
  obtain ⟨rfl, hK, hP⟩ := hv
  have hx := B.exec
  have hb := B.bytes
  have hr := B.returns
  have hlocks := B.notSynchronized
  have hts := atoms_spec (ws := wsX5_isInfinite) B.pre
  have hown : s.vm.findClass RX5 = some m.cls := findClass_of_methodNamed B.named
  have hl := lv_entry ([.float x]) (n := 1) (Nat.le_of_ble_eq_true rfl)
  rw [lg_entry_eq]
  generalize (lg_sl ([.float x]) ++ List.replicate (1 - (lg_sl ([.float x])).length) Slot.unset).toArray = ls at hl ⊢
  have hl : lv_has ls 1 [(0, .float x)] := hl
  refine lv_fload_n hx hb dX5_isInfinite_0 rfl (lv_at hl 0 rfl) ?_
  refine lv_ldcf hx hb hown (hts (.constantFloat RX5 8 (2139095039)) (by decide +kernel)) dX5_isInfinite_1 ?_
  refine lv_fcmp hx hb dX5_isInfinite_3 ?_
  refine nf_l_le (tgt := 11) hx hb dX5_isInfinite_4 (by decide) (fun c_1 => ?_) (fun c_1 => ?_)
  · refine lv_iconst (v := nI 0) hx hb dX5_isInfinite_11 (by decide) ?_
    exact W.zret (v := nI 0) (ty := .boolean) hx hb hr (by rfl) (fun t ht hW => ⟨_, rfl, ((congrArg bI (by simp [cInf, c_1] : cInf x = false)).symm), ht⟩) (fun q hq => absurd hq List.not_mem_nil) dX5_isInfinite_12
  · refine lv_iconst (v := nI 1) hx hb dX5_isInfinite_7 (by decide) ?_
    refine lv_goto (tgt := 12) hx hb dX5_isInfinite_8 (by decide) ?_
    exact W.zret (v := nI 1) (ty := .boolean) hx hb hr (by rfl) (fun t ht hW => ⟨_, rfl, ((congrArg bI (by simp [cInf, c_1] : cInf x = true)).symm), ht⟩) (fun q hq => absurd hq List.not_mem_nil) dX5_isInfinite_12
set_option maxHeartbeats 4000000 in
set_option maxRecDepth 100000 in
theorem metX5_nan (l : Launch) (G : GG)  : Met l yX5_nan wsX5_nan ({ frames := 0, cells := 0, slots := 0, locals := 0 }) (pR G ([]) []) (vp_Sf (fun r => r = NEG1)) 0 0 (fun _ => False) := by
  refine Met.ofW (cc := cX5_nan) (maxL := 0) (ret := (some .float)) (by decide) rfl ?_
  intro p e s m args below meth c s₁ B hml hv
  obtain ⟨rfl, hK, hP⟩ := hv
  have hx := B.exec
  have hb := B.bytes
  have hr := B.returns
  have hlocks := B.notSynchronized
  have hts := atoms_spec (ws := wsX5_nan) B.pre
  have hown : s.vm.findClass RX5 = some m.cls := findClass_of_methodNamed B.named
  have hl := lv_entry ([]) (n := 0) (Nat.le_of_ble_eq_true rfl)
  rw [lg_entry_eq]
  generalize (lg_sl ([]) ++ List.replicate (0 - (lg_sl ([])).length) Slot.unset).toArray = ls at hl ⊢
  have hl : lv_has ls 0 [] := hl
  refine lv_ldcf hx hb hown (hts (.constantFloat RX5 7 (3212836864)) (by decide +kernel)) dX5_nan_0 ?_
  exact W.fret (v := (3212836864 : UInt32)) hx hb hr (fun t ht hW => ⟨_, rfl, rfl, ht⟩) (fun q hq => absurd hq List.not_mem_nil) dX5_nan_2
set_option maxHeartbeats 4000000 in
set_option maxRecDepth 100000 in
theorem metX5_plus (l : Launch) (G : GG) (a b : UInt32) (oa : okF a) (ob : okF b) : Met l yX5_plus wsX5_plus ({ frames := 1, cells := 0, slots := 0, locals := 30 }) (pR G ([]) [.float a, .float b]) (vp_Sf (fun r => r = cPlus a b)) 0 0 (fun _ => False) := by
  refine Met.ofW (cc := cX5_plus) (maxL := 2) (ret := (some .float)) (by decide) rfl ?_
  intro p e s m args below meth c s₁ B hml hv
  obtain ⟨rfl, hK, hP⟩ := hv
  have hx := B.exec
  have hb := B.bytes
  have hr := B.returns
  have hlocks := B.notSynchronized
  have hts := atoms_spec (ws := wsX5_plus) B.pre
  have hown : s.vm.findClass RX5 = some m.cls := findClass_of_methodNamed B.named
  have hl := lv_entry ([.float a, .float b]) (n := 2) (Nat.le_of_ble_eq_true rfl)
  rw [lg_entry_eq]
  generalize (lg_sl ([.float a, .float b]) ++ List.replicate (2 - (lg_sl ([.float a, .float b])).length) Slot.unset).toArray = ls at hl ⊢
  have hl : lv_has ls 2 [(0, .float a), (1, .float b)] := hl
  refine lv_fload_n hx hb dX5_plus_0 rfl (lv_at hl 0 rfl) ?_
  refine cr_i (va_runS (As := [.float a]) (rest := []) ⟨hx, hb, hml, hown, hts⟩ (metX5_isNan l G a) (cwS 1 hts gX5_plus_X5_isNan rfl rfl rfl (by decide +kernel) ⟨Nat.le_of_ble_eq_true rfl, Nat.le_of_ble_eq_true rfl⟩) (pR_S hK (va_P_nil _ _ _)) rfl rfl hl.1 rfl (lv_room (Nat.le_of_ble_eq_true rfl)) dX5_plus_1 ⟨Nat.zero_le _, Nat.zero_le _⟩) (fun r_1 hr_2 => ?_)
  subst hr_2
  refine nb_if_ne (B := cNeg a) (tgt := 14) hx hb dX5_plus_4 (by decide) (fun c_3 => ?_) (fun c_3 => ?_)
  · refine cr_f (va_runS (As := []) (rest := []) ⟨hx, hb, hml, hown, hts⟩ (metX5_nan l G ) (cwS 0 hts gX5_plus_X5_nan rfl rfl rfl (by decide +kernel) ⟨Nat.le_of_ble_eq_true rfl, Nat.le_of_ble_eq_true rfl⟩) (pR_S hK (va_P_nil _ _ _)) rfl rfl hl.1 rfl (lv_room (Nat.le_of_ble_eq_true rfl)) dX5_plus_14 ⟨Nat.zero_le _, Nat.zero_le _⟩) (fun r_4 hr_5 => ?_)
    subst hr_5
    exact W.fret (v := NEG1) hx hb hr (fun t ht hW => ⟨_, rfl, (by simp [cPlus, c_3]), ht⟩) (fun q hq => absurd hq List.not_mem_nil) dX5_plus_17
  · refine lv_fload_n hx hb dX5_plus_7 rfl (lv_at hl 1 rfl) ?_
    refine cr_i (va_runS (As := [.float b]) (rest := []) ⟨hx, hb, hml, hown, hts⟩ (metX5_isNan l G b) (cwS 1 hts gX5_plus_X5_isNan rfl rfl rfl (by decide +kernel) ⟨Nat.le_of_ble_eq_true rfl, Nat.le_of_ble_eq_true rfl⟩) (pR_S hK (va_P_nil _ _ _)) rfl rfl hl.1 rfl (lv_room (Nat.le_of_ble_eq_true rfl)) dX5_plus_8 ⟨Nat.zero_le _, Nat.zero_le _⟩) (fun r_6 hr_7 => ?_)
    subst hr_7
    refine nb_if_eq (B := cNeg b) (tgt := 18) hx hb dX5_plus_11 (by decide) (fun c_8 => ?_) (fun c_8 => ?_)
    · refine lv_fload_n hx hb dX5_plus_18 rfl (lv_at hl 0 rfl) ?_
      refine lv_fload_n hx hb dX5_plus_19 rfl (lv_at hl 1 rfl) ?_
      refine lv_fadd hx hb dX5_plus_20 (hn_plus oa ob (by simp [cZer, c_3, c_8]) (by simp [cZer, c_3, c_8])) ?_
      exact W.fret (v := FP.fadd a b) hx hb hr (fun t ht hW => ⟨_, rfl, (by simp [cPlus, c_3, c_8]), ht⟩) (fun q hq => absurd hq List.not_mem_nil) dX5_plus_21
    · refine cr_f (va_runS (As := []) (rest := []) ⟨hx, hb, hml, hown, hts⟩ (metX5_nan l G ) (cwS 0 hts gX5_plus_X5_nan rfl rfl rfl (by decide +kernel) ⟨Nat.le_of_ble_eq_true rfl, Nat.le_of_ble_eq_true rfl⟩) (pR_S hK (va_P_nil _ _ _)) rfl rfl hl.1 rfl (lv_room (Nat.le_of_ble_eq_true rfl)) dX5_plus_14 ⟨Nat.zero_le _, Nat.zero_le _⟩) (fun r_9 hr_10 => ?_)
      subst hr_10
      exact W.fret (v := NEG1) hx hb hr (fun t ht hW => ⟨_, rfl, (by simp [cPlus, c_3, c_8]), ht⟩) (fun q hq => absurd hq List.not_mem_nil) dX5_plus_17
set_option maxHeartbeats 4000000 in
set_option maxRecDepth 100000 in
theorem metX5_times (l : Launch) (G : GG) (a b : UInt32) (oa : okF a) (ob : okF b) : Met l yX5_times wsX5_times ({ frames := 1, cells := 0, slots := 0, locals := 30 }) (pR G ([]) [.float a, .float b]) (vp_Sf (fun r => r = cTimes a b)) 0 0 (fun _ => False) := by
  refine Met.ofW (cc := cX5_times) (maxL := 2) (ret := (some .float)) (by decide) rfl ?_
  intro p e s m args below meth c s₁ B hml hv
  obtain ⟨rfl, hK, hP⟩ := hv
  have hx := B.exec
  have hb := B.bytes
  have hr := B.returns
  have hlocks := B.notSynchronized
  have hts := atoms_spec (ws := wsX5_times) B.pre
  have hown : s.vm.findClass RX5 = some m.cls := findClass_of_methodNamed B.named
  have hl := lv_entry ([.float a, .float b]) (n := 2) (Nat.le_of_ble_eq_true rfl)
  rw [lg_entry_eq]
  generalize (lg_sl ([.float a, .float b]) ++ List.replicate (2 - (lg_sl ([.float a, .float b])).length) Slot.unset).toArray = ls at hl ⊢
  have hl : lv_has ls 2 [(0, .float a), (1, .float b)] := hl
  refine lv_fload_n hx hb dX5_times_0 rfl (lv_at hl 0 rfl) ?_
  refine cr_i (va_runS (As := [.float a]) (rest := []) ⟨hx, hb, hml, hown, hts⟩ (metX5_isNan l G a) (cwS 1 hts gX5_times_X5_isNan rfl rfl rfl (by decide +kernel) ⟨Nat.le_of_ble_eq_true rfl, Nat.le_of_ble_eq_true rfl⟩) (pR_S hK (va_P_nil _ _ _)) rfl rfl hl.1 rfl (lv_room (Nat.le_of_ble_eq_true rfl)) dX5_times_1 ⟨Nat.zero_le _, Nat.zero_le _⟩) (fun r_1 hr_2 => ?_)
  subst hr_2
  refine nb_if_ne (B := cNeg a) (tgt := 40) hx hb dX5_times_4 (by decide) (fun c_3 => ?_) (fun c_3 => ?_)
  · refine cr_f (va_runS (As := []) (rest := []) ⟨hx, hb, hml, hown, hts⟩ (metX5_nan l G ) (cwS 0 hts gX5_times_X5_nan rfl rfl rfl (by decide +kernel) ⟨Nat.le_of_ble_eq_true rfl, Nat.le_of_ble_eq_true rfl⟩) (pR_S hK (va_P_nil _ _ _)) rfl rfl hl.1 rfl (lv_room (Nat.le_of_ble_eq_true rfl)) dX5_times_40 ⟨Nat.zero_le _, Nat.zero_le _⟩) (fun r_4 hr_5 => ?_)
    subst hr_5
    exact W.fret (v := NEG1) hx hb hr (fun t ht hW => ⟨_, rfl, (by simp [cTimes, cZer, c_3]), ht⟩) (fun q hq => absurd hq List.not_mem_nil) dX5_times_43
  · refine lv_fload_n hx hb dX5_times_7 rfl (lv_at hl 1 rfl) ?_
    refine cr_i (va_runS (As := [.float b]) (rest := []) ⟨hx, hb, hml, hown, hts⟩ (metX5_isNan l G b) (cwS 1 hts gX5_times_X5_isNan rfl rfl rfl (by decide +kernel) ⟨Nat.le_of_ble_eq_true rfl, Nat.le_of_ble_eq_true rfl⟩) (pR_S hK (va_P_nil _ _ _)) rfl rfl hl.1 rfl (lv_room (Nat.le_of_ble_eq_true rfl)) dX5_times_8 ⟨Nat.zero_le _, Nat.zero_le _⟩) (fun r_6 hr_7 => ?_)
    subst hr_7
    refine nb_if_ne (B := cNeg b) (tgt := 40) hx hb dX5_times_11 (by decide) (fun c_8 => ?_) (fun c_8 => ?_)
    · refine cr_f (va_runS (As := []) (rest := []) ⟨hx, hb, hml, hown, hts⟩ (metX5_nan l G ) (cwS 0 hts gX5_times_X5_nan rfl rfl rfl (by decide +kernel) ⟨Nat.le_of_ble_eq_true rfl, Nat.le_of_ble_eq_true rfl⟩) (pR_S hK (va_P_nil _ _ _)) rfl rfl hl.1 rfl (lv_room (Nat.le_of_ble_eq_true rfl)) dX5_times_40 ⟨Nat.zero_le _, Nat.zero_le _⟩) (fun r_9 hr_10 => ?_)
      subst hr_10
      exact W.fret (v := NEG1) hx hb hr (fun t ht hW => ⟨_, rfl, (by simp [cTimes, cZer, c_3, c_8]), ht⟩) (fun q hq => absurd hq List.not_mem_nil) dX5_times_43
    · refine lv_fload_n hx hb dX5_times_14 rfl (lv_at hl 0 rfl) ?_
      refine lv_fconst0 hx hb dX5_times_15 ?_
      refine lv_fcmp hx hb dX5_times_16 ?_
      refine nf_l_ne (tgt := 27) hx hb dX5_times_17 (by decide) (fun c_11 => ?_) (fun c_11 => ?_)
      · refine lv_fload_n hx hb dX5_times_27 rfl (lv_at hl 0 rfl) ?_
        refine cr_i (va_runS (As := [.float a]) (rest := []) ⟨hx, hb, hml, hown, hts⟩ (metX5_isInfinite l G a) (cwS 1 hts gX5_times_X5_isInfinite rfl rfl rfl (by decide +kernel) ⟨Nat.le_of_ble_eq_true rfl, Nat.le_of_ble_eq_true rfl⟩) (pR_S hK (va_P_nil _ _ _)) rfl rfl hl.1 rfl (lv_room (Nat.le_of_ble_eq_true rfl)) dX5_times_28 ⟨Nat.zero_le _, Nat.zero_le _⟩) (fun r_12 hr_13 => ?_)
        subst hr_13
        refine nb_if_eq (B := cInf a) (tgt := 44) hx hb dX5_times_31 (by decide) (fun c_14 => ?_) (fun c_14 => ?_)
        · refine lv_fload_n hx hb dX5_times_44 rfl (lv_at hl 0 rfl) ?_
          refine lv_fload_n hx hb dX5_times_45 rfl (lv_at hl 1 rfl) ?_
          refine lv_fmul hx hb dX5_times_46 (hn_times oa ob (by simp [cZer, c_3, c_8, c_11, c_14]) (by simp [cZer, c_3, c_8, c_11, c_14]) (by simp [cZer, c_3, c_8, c_11, c_14]) (by simp [cZer, c_3, c_8, c_11, c_14])) ?_
          exact W.fret (v := FP.fmul a b) hx hb hr (fun t ht hW => ⟨_, rfl, (by simp [cTimes, cZer, c_3, c_8, c_11, c_14]), ht⟩) (fun q hq => absurd hq List.not_mem_nil) dX5_times_47
        · refine lv_fload_n hx hb dX5_times_34 rfl (lv_at hl 1 rfl) ?_
          refine lv_fconst0 hx hb dX5_times_35 ?_
          refine lv_fcmp hx hb dX5_times_36 ?_
          refine nf_l_ne (tgt := 44) hx hb dX5_times_37 (by decide) (fun c_15 => ?_) (fun c_15 => ?_)
          · refine lv_fload_n hx hb dX5_times_44 rfl (lv_at hl 0 rfl) ?_
            refine lv_fload_n hx hb dX5_times_45 rfl (lv_at hl 1 rfl) ?_
            refine lv_fmul hx hb dX5_times_46 (hn_times oa ob (by simp [cZer, c_3, c_8, c_11, c_14, c_15]) (by simp [cZer, c_3, c_8, c_11, c_14, c_15]) (by simp [cZer, c_3, c_8, c_11, c_14, c_15]) (by simp [cZer, c_3, c_8, c_11, c_14, c_15])) ?_
            exact W.fret (v := FP.fmul a b) hx hb hr (fun t ht hW => ⟨_, rfl, (by simp [cTimes, cZer, c_3, c_8, c_11, c_14, c_15]), ht⟩) (fun q hq => absurd hq List.not_mem_nil) dX5_times_47
          · refine cr_f (va_runS (As := []) (rest := []) ⟨hx, hb, hml, hown, hts⟩ (metX5_nan l G ) (cwS 0 hts gX5_times_X5_nan rfl rfl rfl (by decide +kernel) ⟨Nat.le_of_ble_eq_true rfl, Nat.le_of_ble_eq_true rfl⟩) (pR_S hK (va_P_nil _ _ _)) rfl rfl hl.1 rfl (lv_room (Nat.le_of_ble_eq_true rfl)) dX5_times_40 ⟨Nat.zero_le _, Nat.zero_le _⟩) (fun r_16 hr_17 => ?_)
            subst hr_17
            exact W.fret (v := NEG1) hx hb hr (fun t ht hW => ⟨_, rfl, (by simp [cTimes, cZer, c_3, c_8, c_11, c_14, c_15]), ht⟩) (fun q hq => absurd hq List.not_mem_nil) dX5_times_43
      · refine lv_fload_n hx hb dX5_times_20 rfl (lv_at hl 1 rfl) ?_
        refine cr_i (va_runS (As := [.float b]) (rest := []) ⟨hx, hb, hml, hown, hts⟩ (metX5_isInfinite l G b) (cwS 1 hts gX5_times_X5_isInfinite rfl rfl rfl (by decide +kernel) ⟨Nat.le_of_ble_eq_true rfl, Nat.le_of_ble_eq_true rfl⟩) (pR_S hK (va_P_nil _ _ _)) rfl rfl hl.1 rfl (lv_room (Nat.le_of_ble_eq_true rfl)) dX5_times_21 ⟨Nat.zero_le _, Nat.zero_le _⟩) (fun r_18 hr_19 => ?_)
        subst hr_19
        refine nb_if_ne (B := cInf b) (tgt := 40) hx hb dX5_times_24 (by decide) (fun c_20 => ?_) (fun c_20 => ?_)
        · refine cr_f (va_runS (As := []) (rest := []) ⟨hx, hb, hml, hown, hts⟩ (metX5_nan l G ) (cwS 0 hts gX5_times_X5_nan rfl rfl rfl (by decide +kernel) ⟨Nat.le_of_ble_eq_true rfl, Nat.le_of_ble_eq_true rfl⟩) (pR_S hK (va_P_nil _ _ _)) rfl rfl hl.1 rfl (lv_room (Nat.le_of_ble_eq_true rfl)) dX5_times_40 ⟨Nat.zero_le _, Nat.zero_le _⟩) (fun r_21 hr_22 => ?_)
          subst hr_22
          exact W.fret (v := NEG1) hx hb hr (fun t ht hW => ⟨_, rfl, (by simp [cTimes, cZer, c_3, c_8, c_11, c_20]), ht⟩) (fun q hq => absurd hq List.not_mem_nil) dX5_times_43
        · refine lv_fload_n hx hb dX5_times_27 rfl (lv_at hl 0 rfl) ?_
          refine cr_i (va_runS (As := [.float a]) (rest := []) ⟨hx, hb, hml, hown, hts⟩ (metX5_isInfinite l G a) (cwS 1 hts gX5_times_X5_isInfinite rfl rfl rfl (by decide +kernel) ⟨Nat.le_of_ble_eq_true rfl, Nat.le_of_ble_eq_true rfl⟩) (pR_S hK (va_P_nil _ _ _)) rfl rfl hl.1 rfl (lv_room (Nat.le_of_ble_eq_true rfl)) dX5_times_28 ⟨Nat.zero_le _, Nat.zero_le _⟩) (fun r_23 hr_24 => ?_)
          subst hr_24
          refine nb_if_eq (B := cInf a) (tgt := 44) hx hb dX5_times_31 (by decide) (fun c_25 => ?_) (fun c_25 => ?_)
          · refine lv_fload_n hx hb dX5_times_44 rfl (lv_at hl 0 rfl) ?_
            refine lv_fload_n hx hb dX5_times_45 rfl (lv_at hl 1 rfl) ?_
            refine lv_fmul hx hb dX5_times_46 (hn_times oa ob (by simp [cZer, c_3, c_8, c_11, c_20, c_25]) (by simp [cZer, c_3, c_8, c_11, c_20, c_25]) (by simp [cZer, c_3, c_8, c_11, c_20, c_25]) (by simp [cZer, c_3, c_8, c_11, c_20, c_25])) ?_
            exact W.fret (v := FP.fmul a b) hx hb hr (fun t ht hW => ⟨_, rfl, (by simp [cTimes, cZer, c_3, c_8, c_11, c_20, c_25]), ht⟩) (fun q hq => absurd hq List.not_mem_nil) dX5_times_47
          · refine lv_fload_n hx hb dX5_times_34 rfl (lv_at hl 1 rfl) ?_
            refine lv_fconst0 hx hb dX5_times_35 ?_
            refine lv_fcmp hx hb dX5_times_36 ?_
            refine nf_l_ne (tgt := 44) hx hb dX5_times_37 (by decide) (fun c_26 => ?_) (fun c_26 => ?_)
            · refine lv_fload_n hx hb dX5_times_44 rfl (lv_at hl 0 rfl) ?_
              refine lv_fload_n hx hb dX5_times_45 rfl (lv_at hl 1 rfl) ?_
              refine lv_fmul hx hb dX5_times_46 (hn_times oa ob (by simp [cZer, c_3, c_8, c_11, c_20, c_25, c_26]) (by simp [cZer, c_3, c_8, c_11, c_20, c_25, c_26]) (by simp [cZer, c_3, c_8, c_11, c_20, c_25, c_26]) (by simp [cZer, c_3, c_8, c_11, c_20, c_25, c_26])) ?_
              exact W.fret (v := FP.fmul a b) hx hb hr (fun t ht hW => ⟨_, rfl, (by simp [cTimes, cZer, c_3, c_8, c_11, c_20, c_25, c_26]), ht⟩) (fun q hq => absurd hq List.not_mem_nil) dX5_times_47
            · refine cr_f (va_runS (As := []) (rest := []) ⟨hx, hb, hml, hown, hts⟩ (metX5_nan l G ) (cwS 0 hts gX5_times_X5_nan rfl rfl rfl (by decide +kernel) ⟨Nat.le_of_ble_eq_true rfl, Nat.le_of_ble_eq_true rfl⟩) (pR_S hK (va_P_nil _ _ _)) rfl rfl hl.1 rfl (lv_room (Nat.le_of_ble_eq_true rfl)) dX5_times_40 ⟨Nat.zero_le _, Nat.zero_le _⟩) (fun r_27 hr_28 => ?_)
              subst hr_28
              exact W.fret (v := NEG1) hx hb hr (fun t ht hW => ⟨_, rfl, (by simp [cTimes, cZer, c_3, c_8, c_11, c_20, c_25, c_26]), ht⟩) (fun q hq => absurd hq List.not_mem_nil) dX5_times_43
set_option maxHeartbeats 4000000 in
set_option maxRecDepth 100000 in
theorem metX5_over (l : Launch) (G : GG) (a b : UInt32) (oa : okF a) (ob : okF b) : Met l yX5_over wsX5_over ({ frames := 1, cells := 0, slots := 0, locals := 30 }) (pR G ([]) [.float a, .float b]) (vp_Sf (fun r => r = cOver a b)) 0 0 (fun _ => False) := by
  refine Met.ofW (cc := cX5_over) (maxL := 2) (ret := (some .float)) (by decide) rfl ?_
  intro p e s m args below meth c s₁ B hml hv
  obtain ⟨rfl, hK, hP⟩ := hv
  have hx := B.exec
  have hb := B.bytes
  have hr := B.returns
  have hlocks := B.notSynchronized
  have hts := atoms_spec (ws := wsX5_over) B.pre
  have hown : s.vm.findClass RX5 = some m.cls := findClass_of_methodNamed B.named
  have hl := lv_entry ([.float a, .float b]) (n := 2) (Nat.le_of_ble_eq_true rfl)
  rw [lg_entry_eq]
  generalize (lg_sl ([.float a, .float b]) ++ List.replicate (2 - (lg_sl ([.float a, .float b])).length) Slot.unset).toArray = ls at hl ⊢
  have hl : lv_has ls 2 [(0, .float a), (1, .float b)] := hl
  refine lv_fload_n hx hb dX5_over_0 rfl (lv_at hl 0 rfl) ?_
  refine cr_i (va_runS (As := [.float a]) (rest := []) ⟨hx, hb, hml, hown, hts⟩ (metX5_isNan l G a) (cwS 1 hts gX5_over_X5_isNan rfl rfl rfl (by decide +kernel) ⟨Nat.le_of_ble_eq_true rfl, Nat.le_of_ble_eq_true rfl⟩) (pR_S hK (va_P_nil _ _ _)) rfl rfl hl.1 rfl (lv_room (Nat.le_of_ble_eq_true rfl)) dX5_over_1 ⟨Nat.zero_le _, Nat.zero_le _⟩) (fun r_1 hr_2 => ?_)
  subst hr_2
  refine nb_if_ne (B := cNeg a) (tgt := 40) hx hb dX5_over_4 (by decide) (fun c_3 => ?_) (fun c_3 => ?_)
  · refine cr_f (va_runS (As := []) (rest := []) ⟨hx, hb, hml, hown, hts⟩ (metX5_nan l G ) (cwS 0 hts gX5_over_X5_nan rfl rfl rfl (by decide +kernel) ⟨Nat.le_of_ble_eq_true rfl, Nat.le_of_ble_eq_true rfl⟩) (pR_S hK (va_P_nil _ _ _)) rfl rfl hl.1 rfl (lv_room (Nat.le_of_ble_eq_true rfl)) dX5_over_40 ⟨Nat.zero_le _, Nat.zero_le _⟩) (fun r_4 hr_5 => ?_)
    subst hr_5
    exact W.fret (v := NEG1) hx hb hr (fun t ht hW => ⟨_, rfl, (by simp [cOver, cZer, c_3]), ht⟩) (fun q hq => absurd hq List.not_mem_nil) dX5_over_43
  · refine lv_fload_n hx hb dX5_over_7 rfl (lv_at hl 1 rfl) ?_
    refine cr_i (va_runS (As := [.float b]) (rest := []) ⟨hx, hb, hml, hown, hts⟩ (metX5_isNan l G b) (cwS 1 hts gX5_over_X5_isNan rfl rfl rfl (by decide +kernel) ⟨Nat.le_of_ble_eq_true rfl, Nat.le_of_ble_eq_true rfl⟩) (pR_S hK (va_P_nil _ _ _)) rfl rfl hl.1 rfl (lv_room (Nat.le_of_ble_eq_true rfl)) dX5_over_8 ⟨Nat.zero_le _, Nat.zero_le _⟩) (fun r_6 hr_7 => ?_)
    subst hr_7
    refine nb_if_ne (B := cNeg b) (tgt := 40) hx hb dX5_over_11 (by decide) (fun c_8 => ?_) (fun c_8 => ?_)
    · refine cr_f (va_runS (As := []) (rest := []) ⟨hx, hb, hml, hown, hts⟩ (metX5_nan l G ) (cwS 0 hts gX5_over_X5_nan rfl rfl rfl (by decide +kernel) ⟨Nat.le_of_ble_eq_true rfl, Nat.le_of_ble_eq_true rfl⟩) (pR_S hK (va_P_nil _ _ _)) rfl rfl hl.1 rfl (lv_room (Nat.le_of_ble_eq_true rfl)) dX5_over_40 ⟨Nat.zero_le _, Nat.zero_le _⟩) (fun r_9 hr_10 => ?_)
      subst hr_10
      exact W.fret (v := NEG1) hx hb hr (fun t ht hW => ⟨_, rfl, (by simp [cOver, cZer, c_3, c_8]), ht⟩) (fun q hq => absurd hq List.not_mem_nil) dX5_over_43
    · refine lv_fload_n hx hb dX5_over_14 rfl (lv_at hl 0 rfl) ?_
      refine lv_fconst0 hx hb dX5_over_15 ?_
      refine lv_fcmp hx hb dX5_over_16 ?_
      refine nf_l_ne (tgt := 26) hx hb dX5_over_17 (by decide) (fun c_11 => ?_) (fun c_11 => ?_)
      · refine lv_fload_n hx hb dX5_over_26 rfl (lv_at hl 0 rfl) ?_
        refine cr_i (va_runS (As := [.float a]) (rest := []) ⟨hx, hb, hml, hown, hts⟩ (metX5_isInfinite l G a) (cwS 1 hts gX5_over_X5_isInfinite rfl rfl rfl (by decide +kernel) ⟨Nat.le_of_ble_eq_true rfl, Nat.le_of_ble_eq_true rfl⟩) (pR_S hK (va_P_nil _ _ _)) rfl rfl hl.1 rfl (lv_room (Nat.le_of_ble_eq_true rfl)) dX5_over_27 ⟨Nat.zero_le _, Nat.zero_le _⟩) (fun r_12 hr_13 => ?_)
        subst hr_13
        refine nb_if_eq (B := cInf a) (tgt := 44) hx hb dX5_over_30 (by decide) (fun c_14 => ?_) (fun c_14 => ?_)
        · refine lv_fload_n hx hb dX5_over_44 rfl (lv_at hl 0 rfl) ?_
          refine lv_fload_n hx hb dX5_over_45 rfl (lv_at hl 1 rfl) ?_
          refine lv_fdiv hx hb dX5_over_46 (hn_over oa ob (by simp [cZer, c_3, c_8, c_11, c_14]) (by simp [cZer, c_3, c_8, c_11, c_14]) (by simp [cZer, c_3, c_8, c_11, c_14]) (by simp [cZer, c_3, c_8, c_11, c_14])) ?_
          exact W.fret (v := FP.fdiv a b) hx hb hr (fun t ht hW => ⟨_, rfl, (by simp [cOver, cZer, c_3, c_8, c_11, c_14]), ht⟩) (fun q hq => absurd hq List.not_mem_nil) dX5_over_47
        · refine lv_fload_n hx hb dX5_over_33 rfl (lv_at hl 1 rfl) ?_
          refine cr_i (va_runS (As := [.float b]) (rest := []) ⟨hx, hb, hml, hown, hts⟩ (metX5_isInfinite l G b) (cwS 1 hts gX5_over_X5_isInfinite rfl rfl rfl (by decide +kernel) ⟨Nat.le_of_ble_eq_true rfl, Nat.le_of_ble_eq_true rfl⟩) (pR_S hK (va_P_nil _ _ _)) rfl rfl hl.1 rfl (lv_room (Nat.le_of_ble_eq_true rfl)) dX5_over_34 ⟨Nat.zero_le _, Nat.zero_le _⟩) (fun r_15 hr_16 => ?_)
          subst hr_16
          refine nb_if_eq (B := cInf b) (tgt := 44) hx hb dX5_over_37 (by decide) (fun c_17 => ?_) (fun c_17 => ?_)
          · refine lv_fload_n hx hb dX5_over_44 rfl (lv_at hl 0 rfl) ?_
            refine lv_fload_n hx hb dX5_over_45 rfl (lv_at hl 1 rfl) ?_
            refine lv_fdiv hx hb dX5_over_46 (hn_over oa ob (by simp [cZer, c_3, c_8, c_11, c_14, c_17]) (by simp [cZer, c_3, c_8, c_11, c_14, c_17]) (by simp [cZer, c_3, c_8, c_11, c_14, c_17]) (by simp [cZer, c_3, c_8, c_11, c_14, c_17])) ?_
            exact W.fret (v := FP.fdiv a b) hx hb hr (fun t ht hW => ⟨_, rfl, (by simp [cOver, cZer, c_3, c_8, c_11, c_14, c_17]), ht⟩) (fun q hq => absurd hq List.not_mem_nil) dX5_over_47
          · refine cr_f (va_runS (As := []) (rest := []) ⟨hx, hb, hml, hown, hts⟩ (metX5_nan l G ) (cwS 0 hts gX5_over_X5_nan rfl rfl rfl (by decide +kernel) ⟨Nat.le_of_ble_eq_true rfl, Nat.le_of_ble_eq_true rfl⟩) (pR_S hK (va_P_nil _ _ _)) rfl rfl hl.1 rfl (lv_room (Nat.le_of_ble_eq_true rfl)) dX5_over_40 ⟨Nat.zero_le _, Nat.zero_le _⟩) (fun r_18 hr_19 => ?_)
            subst hr_19
            exact W.fret (v := NEG1) hx hb hr (fun t ht hW => ⟨_, rfl, (by simp [cOver, cZer, c_3, c_8, c_11, c_14, c_17]), ht⟩) (fun q hq => absurd hq List.not_mem_nil) dX5_over_43
      · refine lv_fload_n hx hb dX5_over_20 rfl (lv_at hl 1 rfl) ?_
        refine lv_fconst0 hx hb dX5_over_21 ?_
        refine lv_fcmp hx hb dX5_over_22 ?_
        refine nf_l_eq (tgt := 40) hx hb dX5_over_23 (by decide) (fun c_20 => ?_) (fun c_20 => ?_)
        · refine cr_f (va_runS (As := []) (rest := []) ⟨hx, hb, hml, hown, hts⟩ (metX5_nan l G ) (cwS 0 hts gX5_over_X5_nan rfl rfl rfl (by decide +kernel) ⟨Nat.le_of_ble_eq_true rfl, Nat.le_of_ble_eq_true rfl⟩) (pR_S hK (va_P_nil _ _ _)) rfl rfl hl.1 rfl (lv_room (Nat.le_of_ble_eq_true rfl)) dX5_over_40 ⟨Nat.zero_le _, Nat.zero_le _⟩) (fun r_21 hr_22 => ?_)
          subst hr_22
          exact W.fret (v := NEG1) hx hb hr (fun t ht hW => ⟨_, rfl, (by simp [cOver, cZer, c_3, c_8, c_11, c_20]), ht⟩) (fun q hq => absurd hq List.not_mem_nil) dX5_over_43
        · refine lv_fload_n hx hb dX5_over_26 rfl (lv_at hl 0 rfl) ?_
          refine cr_i (va_runS (As := [.float a]) (rest := []) ⟨hx, hb, hml, hown, hts⟩ (metX5_isInfinite l G a) (cwS 1 hts gX5_over_X5_isInfinite rfl rfl rfl (by decide +kernel) ⟨Nat.le_of_ble_eq_true rfl, Nat.le_of_ble_eq_true rfl⟩) (pR_S hK (va_P_nil _ _ _)) rfl rfl hl.1 rfl (lv_room (Nat.le_of_ble_eq_true rfl)) dX5_over_27 ⟨Nat.zero_le _, Nat.zero_le _⟩) (fun r_23 hr_24 => ?_)
          subst hr_24
          refine nb_if_eq (B := cInf a) (tgt := 44) hx hb dX5_over_30 (by decide) (fun c_25 => ?_) (fun c_25 => ?_)
          · refine lv_fload_n hx hb dX5_over_44 rfl (lv_at hl 0 rfl) ?_
            refine lv_fload_n hx hb dX5_over_45 rfl (lv_at hl 1 rfl) ?_
            refine lv_fdiv hx hb dX5_over_46 (hn_over oa ob (by simp [cZer, c_3, c_8, c_11, c_20, c_25]) (by simp [cZer, c_3, c_8, c_11, c_20, c_25]) (by simp [cZer, c_3, c_8, c_11, c_20, c_25]) (by simp [cZer, c_3, c_8, c_11, c_20, c_25])) ?_
            exact W.fret (v := FP.fdiv a b) hx hb hr (fun t ht hW => ⟨_, rfl, (by simp [cOver, cZer, c_3, c_8, c_11, c_20, c_25]), ht⟩) (fun q hq => absurd hq List.not_mem_nil) dX5_over_47
          · refine lv_fload_n hx hb dX5_over_33 rfl (lv_at hl 1 rfl) ?_
            refine cr_i (va_runS (As := [.float b]) (rest := []) ⟨hx, hb, hml, hown, hts⟩ (metX5_isInfinite l G b) (cwS 1 hts gX5_over_X5_isInfinite rfl rfl rfl (by decide +kernel) ⟨Nat.le_of_ble_eq_true rfl, Nat.le_of_ble_eq_true rfl⟩) (pR_S hK (va_P_nil _ _ _)) rfl rfl hl.1 rfl (lv_room (Nat.le_of_ble_eq_true rfl)) dX5_over_34 ⟨Nat.zero_le _, Nat.zero_le _⟩) (fun r_26 hr_27 => ?_)
            subst hr_27
            refine nb_if_eq (B := cInf b) (tgt := 44) hx hb dX5_over_37 (by decide) (fun c_28 => ?_) (fun c_28 => ?_)
            · refine lv_fload_n hx hb dX5_over_44 rfl (lv_at hl 0 rfl) ?_
              refine lv_fload_n hx hb dX5_over_45 rfl (lv_at hl 1 rfl) ?_
              refine lv_fdiv hx hb dX5_over_46 (hn_over oa ob (by simp [cZer, c_3, c_8, c_11, c_20, c_25, c_28]) (by simp [cZer, c_3, c_8, c_11, c_20, c_25, c_28]) (by simp [cZer, c_3, c_8, c_11, c_20, c_25, c_28]) (by simp [cZer, c_3, c_8, c_11, c_20, c_25, c_28])) ?_
              exact W.fret (v := FP.fdiv a b) hx hb hr (fun t ht hW => ⟨_, rfl, (by simp [cOver, cZer, c_3, c_8, c_11, c_20, c_25, c_28]), ht⟩) (fun q hq => absurd hq List.not_mem_nil) dX5_over_47
            · refine cr_f (va_runS (As := []) (rest := []) ⟨hx, hb, hml, hown, hts⟩ (metX5_nan l G ) (cwS 0 hts gX5_over_X5_nan rfl rfl rfl (by decide +kernel) ⟨Nat.le_of_ble_eq_true rfl, Nat.le_of_ble_eq_true rfl⟩) (pR_S hK (va_P_nil _ _ _)) rfl rfl hl.1 rfl (lv_room (Nat.le_of_ble_eq_true rfl)) dX5_over_40 ⟨Nat.zero_le _, Nat.zero_le _⟩) (fun r_29 hr_30 => ?_)
              subst hr_30
              exact W.fret (v := NEG1) hx hb hr (fun t ht hW => ⟨_, rfl, (by simp [cOver, cZer, c_3, c_8, c_11, c_20, c_25, c_28]), ht⟩) (fun q hq => absurd hq List.not_mem_nil) dX5_over_43
set_option maxHeartbeats 4000000 in
set_option maxRecDepth 100000 in
theorem metX5_hundredths (l : Launch) (G : GG) (x : UInt32) (ox : okF x) : Met l yX5_hundredths wsX5_hundredths ({ frames := 1, cells := 0, slots := 0, locals := 30 }) (pR G ([]) [.float x]) (vp_Si (fun r => r = cHund x)) 0 0 (fun _ => False) := by
  refine Met.ofW (cc := cX5_hundredths) (maxL := 1) (ret := (some .int)) (by decide) rfl ?_
  intro p e s m args below meth c s₁ B hml hv
  obtain ⟨rfl, hK, hP⟩ := hv
  have hx := B.exec
  have hb := B.bytes
  have hr := B.returns
  have hlocks := B.notSynchronized
  have hts := atoms_spec (ws := wsX5_hundredths) B.pre
  have hown : s.vm.findClass RX5 = some m.cls := findClass_of_methodNamed B.named
  have hl := lv_entry ([.float x]) (n := 1) (Nat.le_of_ble_eq_true rfl)
  rw [lg_entry_eq]
  generalize (lg_sl ([.float x]) ++ List.replicate (1 - (lg_sl ([.float x])).length) Slot.unset).toArray = ls at hl ⊢
  have hl : lv_has ls 1 [(0, .float x)] := hl
  refine lv_fload_n hx hb dX5_hundredths_0 rfl (lv_at hl 0 rfl) ?_
  refine cr_i (va_runS (As := [.float x]) (rest := []) ⟨hx, hb, hml, hown, hts⟩ (metX5_isNan l G x) (cwS 1 hts gX5_hundredths_X5_isNan rfl rfl rfl (by decide +kernel) ⟨Nat.le_of_ble_eq_true rfl, Nat.le_of_ble_eq_true rfl⟩) (pR_S hK (va_P_nil _ _ _)) rfl rfl hl.1 rfl (lv_room (Nat.le_of_ble_eq_true rfl)) dX5_hundredths_1 ⟨Nat.zero_le _, Nat.zero_le _⟩) (fun r_1 hr_2 => ?_)
  subst hr_2
  refine nb_if_eq (B := cNeg x) (tgt := 11) hx hb dX5_hundredths_4 (by decide) (fun c_3 => ?_) (fun c_3 => ?_)
  · refine lv_fload_n hx hb dX5_hundredths_11 rfl (lv_at hl 0 rfl) ?_
    refine lv_ldcf hx hb hown (hts (.constantFloat RX5 22 (1120403456)) (by decide +kernel)) dX5_hundredths_12 ?_
    refine lv_fmul hx hb dX5_hundredths_14 (hn_100 ox c_3) ?_
    refine lv_ldcf hx hb hown (hts (.constantFloat RX5 23 (1056964608)) (by decide +kernel)) dX5_hundredths_15 ?_
    refine lv_fadd hx hb dX5_hundredths_17 (hn_100h ox c_3) ?_
    refine lv_f2i hx hb dX5_hundredths_18 ?_
    exact W.iret (v := FP.f2i (FP.fadd (FP.fmul x (1120403456 : UInt32)) (1056964608 : UInt32))) hx hb hr (fun t ht hW => ⟨_, rfl, (by rw [cHund, if_neg (by simp [c_3])]), ht⟩) (fun q hq => absurd hq List.not_mem_nil) dX5_hundredths_19
  · refine lv_iconst (v := nI 0) hx hb dX5_hundredths_7 (by decide) ?_
    refine lv_goto (tgt := 19) hx hb dX5_hundredths_8 (by decide) ?_
    exact W.iret (v := nI 0) hx hb hr (fun t ht hW => ⟨_, rfl, (by rw [cHund, if_pos c_3]; rfl), ht⟩) (fun q hq => absurd hq List.not_mem_nil) dX5_hundredths_19
set_option maxHeartbeats 4000000 in
set_option maxRecDepth 100000 in
theorem metX6_isStratum (l : Launch) (G : GG) (x : Int32) : Met l yX6_isStratum wsX6_isStratum ({ frames := 0, cells := 0, slots := 0, locals := 0 }) (pR G ([]) [.int x]) (vp_Si (fun r => r = bI (isStr x))) 0 0 (fun _ => False) := by
  refine Met.ofW (cc := cX6_isStratum) (maxL := 1) (ret := (some .boolean)) (by decide) rfl ?_
  intro p e s m args below meth c s₁ B hml hv
  obtain ⟨rfl, hK, hP⟩ := hv
  have hx := B.exec
  have hb := B.bytes
  have hr := B.returns
  have hlocks := B.notSynchronized
  have hts := atoms_spec (ws := wsX6_isStratum) B.pre
  have hown : s.vm.findClass RX6 = some m.cls := findClass_of_methodNamed B.named
  have hl := lv_entry ([.int x]) (n := 1) (Nat.le_of_ble_eq_true rfl)
  rw [lg_entry_eq]
  generalize (lg_sl ([.int x]) ++ List.replicate (1 - (lg_sl ([.int x])).length) Slot.unset).toArray = ls at hl ⊢
  have hl : lv_has ls 1 [(0, .int x)] := hl
  refine lv_iload_n hx hb dX6_isStratum_0 rfl (lv_at hl 0 rfl) ?_
  refine lv_if_lt (tgt := 13) hx hb dX6_isStratum_1 (by decide) (fun c_1 => ?_) (fun c_1 => ?_)
  · refine lv_iconst (v := nI 0) hx hb dX6_isStratum_13 (by decide) ?_
    exact W.zret (v := nI 0) (ty := .boolean) hx hb hr (by rfl) (fun t ht hW => ⟨_, rfl, ((congrArg bI (by simp [isStr, c_1] : isStr x = false)).symm), ht⟩) (fun q hq => absurd hq List.not_mem_nil) dX6_isStratum_14
  · refine lv_iload_n hx hb dX6_isStratum_4 rfl (lv_at hl 0 rfl) ?_
    refine lv_iconst (v := nI 4) hx hb dX6_isStratum_5 (by decide) ?_
    refine lv_icmp_ge (tgt := 13) hx hb dX6_isStratum_6 (by decide) (fun c_2 => ?_) (fun c_2 => ?_)
    · refine lv_iconst (v := nI 0) hx hb dX6_isStratum_13 (by decide) ?_
      exact W.zret (v := nI 0) (ty := .boolean) hx hb hr (by rfl) (fun t ht hW => ⟨_, rfl, ((congrArg bI (by simp [isStr, c_1, c_2] : isStr x = false)).symm), ht⟩) (fun q hq => absurd hq List.not_mem_nil) dX6_isStratum_14
    · refine lv_iconst (v := nI 1) hx hb dX6_isStratum_9 (by decide) ?_
      refine lv_goto (tgt := 14) hx hb dX6_isStratum_10 (by decide) ?_
      exact W.zret (v := nI 1) (ty := .boolean) hx hb hr (by rfl) (fun t ht hW => ⟨_, rfl, ((congrArg bI (by simp [isStr, c_1, c_2] : isStr x = true)).symm), ht⟩) (fun q hq => absurd hq List.not_mem_nil) dX6_isStratum_14
set_option maxHeartbeats 4000000 in
set_option maxRecDepth 100000 in
theorem metX6_isMonth (l : Launch) (G : GG) (x : Int32) : Met l yX6_isMonth wsX6_isMonth ({ frames := 0, cells := 0, slots := 0, locals := 0 }) (pR G ([]) [.int x]) (vp_Si (fun r => r = bI (isMon x))) 0 0 (fun _ => False) := by
  refine Met.ofW (cc := cX6_isMonth) (maxL := 1) (ret := (some .boolean)) (by decide) rfl ?_
  intro p e s m args below meth c s₁ B hml hv
  obtain ⟨rfl, hK, hP⟩ := hv
  have hx := B.exec
  have hb := B.bytes
  have hr := B.returns
  have hlocks := B.notSynchronized
  have hts := atoms_spec (ws := wsX6_isMonth) B.pre
  have hown : s.vm.findClass RX6 = some m.cls := findClass_of_methodNamed B.named
  have hl := lv_entry ([.int x]) (n := 1) (Nat.le_of_ble_eq_true rfl)
  rw [lg_entry_eq]
  generalize (lg_sl ([.int x]) ++ List.replicate (1 - (lg_sl ([.int x])).length) Slot.unset).toArray = ls at hl ⊢
  have hl : lv_has ls 1 [(0, .int x)] := hl
  refine lv_iload_n hx hb dX6_isMonth_0 rfl (lv_at hl 0 rfl) ?_
  refine lv_if_lt (tgt := 14) hx hb dX6_isMonth_1 (by decide) (fun c_1 => ?_) (fun c_1 => ?_)
  · refine lv_iconst (v := nI 0) hx hb dX6_isMonth_14 (by decide) ?_
    exact W.zret (v := nI 0) (ty := .boolean) hx hb hr (by rfl) (fun t ht hW => ⟨_, rfl, ((congrArg bI (by simp [isMon, c_1] : isMon x = false)).symm), ht⟩) (fun q hq => absurd hq List.not_mem_nil) dX6_isMonth_15
  · refine lv_iload_n hx hb dX6_isMonth_4 rfl (lv_at hl 0 rfl) ?_
    refine lv_bipush (v := nI 24) hx hb dX6_isMonth_5 (by decide) ?_
    refine lv_icmp_ge (tgt := 14) hx hb dX6_isMonth_7 (by decide) (fun c_2 => ?_) (fun c_2 => ?_)
    · refine lv_iconst (v := nI 0) hx hb dX6_isMonth_14 (by decide) ?_
      exact W.zret (v := nI 0) (ty := .boolean) hx hb hr (by rfl) (fun t ht hW => ⟨_, rfl, ((congrArg bI (by simp [isMon, c_1, c_2] : isMon x = false)).symm), ht⟩) (fun q hq => absurd hq List.not_mem_nil) dX6_isMonth_15
    · refine lv_iconst (v := nI 1) hx hb dX6_isMonth_10 (by decide) ?_
      refine lv_goto (tgt := 15) hx hb dX6_isMonth_11 (by decide) ?_
      exact W.zret (v := nI 1) (ty := .boolean) hx hb hr (by rfl) (fun t ht hW => ⟨_, rfl, ((congrArg bI (by simp [isMon, c_1, c_2] : isMon x = true)).symm), ht⟩) (fun q hq => absurd hq List.not_mem_nil) dX6_isMonth_15
set_option maxHeartbeats 4000000 in
set_option maxRecDepth 100000 in
theorem metX6_isWithin (l : Launch) (G : GG) (x y z : Int32) : Met l yX6_isWithin wsX6_isWithin ({ frames := 0, cells := 0, slots := 0, locals := 0 }) (pR G ([]) [.int x, .int y, .int z]) (vp_Si (fun r => r = bI (inR x y z))) 0 0 (fun _ => False) := by
  refine Met.ofW (cc := cX6_isWithin) (maxL := 3) (ret := (some .boolean)) (by decide) rfl ?_
  intro p e s m args below meth c s₁ B hml hv
  obtain ⟨rfl, hK, hP⟩ := hv
  have hx := B.exec
  have hb := B.bytes
  have hr := B.returns
  have hlocks := B.notSynchronized
  have hts := atoms_spec (ws := wsX6_isWithin) B.pre
  have hown : s.vm.findClass RX6 = some m.cls := findClass_of_methodNamed B.named
  have hl := lv_entry ([.int x, .int y, .int z]) (n := 3) (Nat.le_of_ble_eq_true rfl)
  rw [lg_entry_eq]
  generalize (lg_sl ([.int x, .int y, .int z]) ++ List.replicate (3 - (lg_sl ([.int x, .int y, .int z])).length) Slot.unset).toArray = ls at hl ⊢
  have hl : lv_has ls 3 [(0, .int x), (1, .int y), (2, .int z)] := hl
  refine lv_iload_n hx hb dX6_isWithin_0 rfl (lv_at hl 0 rfl) ?_
  refine lv_iload_n hx hb dX6_isWithin_1 rfl (lv_at hl 1 rfl) ?_
  refine lv_icmp_lt (tgt := 14) hx hb dX6_isWithin_2 (by decide) (fun c_1 => ?_) (fun c_1 => ?_)
  · refine lv_iconst (v := nI 0) hx hb dX6_isWithin_14 (by decide) ?_
    exact W.zret (v := nI 0) (ty := .boolean) hx hb hr (by rfl) (fun t ht hW => ⟨_, rfl, ((congrArg bI (by simp [inR, c_1] : inR x y z = false)).symm), ht⟩) (fun q hq => absurd hq List.not_mem_nil) dX6_isWithin_15
  · refine lv_iload_n hx hb dX6_isWithin_5 rfl (lv_at hl 0 rfl) ?_
    refine lv_iload_n hx hb dX6_isWithin_6 rfl (lv_at hl 2 rfl) ?_
    refine lv_icmp_gt (tgt := 14) hx hb dX6_isWithin_7 (by decide) (fun c_2 => ?_) (fun c_2 => ?_)
    · refine lv_iconst (v := nI 0) hx hb dX6_isWithin_14 (by decide) ?_
      exact W.zret (v := nI 0) (ty := .boolean) hx hb hr (by rfl) (fun t ht hW => ⟨_, rfl, ((congrArg bI (by simp [inR, c_1, c_2] : inR x y z = false)).symm), ht⟩) (fun q hq => absurd hq List.not_mem_nil) dX6_isWithin_15
    · refine lv_iconst (v := nI 1) hx hb dX6_isWithin_10 (by decide) ?_
      refine lv_goto (tgt := 15) hx hb dX6_isWithin_11 (by decide) ?_
      exact W.zret (v := nI 1) (ty := .boolean) hx hb hr (by rfl) (fun t ht hW => ⟨_, rfl, ((congrArg bI (by simp [inR, c_1, c_2] : inR x y z = true)).symm), ht⟩) (fun q hq => absurd hq List.not_mem_nil) dX6_isWithin_15
set_option maxHeartbeats 4000000 in
set_option maxRecDepth 100000 in
theorem metX6_cell (l : Launch) (G : GG) (k mo : Nat) : Met l yX6_cell wsX6_cell ({ frames := 0, cells := 0, slots := 0, locals := 0 }) (pR G ([]) [.int (nI k), .int (nI mo)]) (vp_Si (fun r => r = nI (k * 24 + mo))) 0 0 (fun _ => False) := by
  refine Met.ofW (cc := cX6_cell) (maxL := 2) (ret := (some .int)) (by decide) rfl ?_
  intro p e s m args below meth c s₁ B hml hv
  obtain ⟨rfl, hK, hP⟩ := hv
  have hx := B.exec
  have hb := B.bytes
  have hr := B.returns
  have hlocks := B.notSynchronized
  have hts := atoms_spec (ws := wsX6_cell) B.pre
  have hown : s.vm.findClass RX6 = some m.cls := findClass_of_methodNamed B.named
  have hl := lv_entry ([.int (nI k), .int (nI mo)]) (n := 2) (Nat.le_of_ble_eq_true rfl)
  rw [lg_entry_eq]
  generalize (lg_sl ([.int (nI k), .int (nI mo)]) ++ List.replicate (2 - (lg_sl ([.int (nI k), .int (nI mo)])).length) Slot.unset).toArray = ls at hl ⊢
  have hl : lv_has ls 2 [(0, .int (nI k)), (1, .int (nI mo))] := hl
  refine lv_iload_n hx hb dX6_cell_0 rfl (lv_at hl 0 rfl) ?_
  refine lv_bipush (v := nI 24) hx hb dX6_cell_1 (by decide) ?_
  refine n_mul hx hb dX6_cell_3 ?_
  refine lv_iload_n hx hb dX6_cell_4 rfl (lv_at hl 1 rfl) ?_
  refine n_add hx hb dX6_cell_5 ?_
  exact W.iret (v := nI ((k * 24) + mo)) hx hb hr (fun t ht hW => ⟨_, rfl, rfl, ht⟩) (fun q hq => absurd hq List.not_mem_nil) dX6_cell_6
