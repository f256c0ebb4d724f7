set_option maxHeartbeats 4000000 in
set_option maxRecDepth 100000 in
theorem metJxf58ca_isNaN_12338 (l : Launch) (G : GG) (y1 : UInt32) : Met l yJxf58ca_isNaN_12338 wsJxf58ca_isNaN_12338 ({ frames := 0, cells := 0, slots := 0, locals := 0 }) (pR G ([]) [.float y1]) (vp_Si (fun r => r = bI (decide (vl y1 = .nan)))) 0 0 (fun _ => False) := by
  refine met_ofWF (cc := cJxf58ca_isNaN_12338) (maxL := 1) (ret := (some .boolean)) (by decide +kernel) rfl ?_
  intro p e s m args below meth c s₁ B hml hv
  obtain ⟨rfl, hK, hP⟩ := hv
  have hx := B.exec
  have hb := B.bytes
  have hr := B.returns
  have hlocks := B.notSynchronized
  have hts := atoms_spec (ws := wsJxf58ca_isNaN_12338) B.pre
  have hown : s.vm.findClass RJxf58ca = some m.cls := findClass_of_methodNamed B.named
  have hl := lv_entry ([.float y1]) (n := 1) (Nat.le_of_ble_eq_true rfl)
  rw [lg_entry_eq]
  generalize (lg_sl ([.float y1]) ++ List.replicate (1 - (lg_sl ([.float y1])).length) Slot.unset).toArray = ls at hl ⊢
  have hl : lv_has ls 1 [(0, .float y1)] := hl
  refine lv_fload_n hx hb dJxf58ca_isNaN_12338_0 rfl (lv_at hl 0 rfl) ?_
  refine lv_fload_n hx hb dJxf58ca_isNaN_12338_1 rfl (lv_at hl 0 rfl) ?_
  refine lv_fcmp hx hb dJxf58ca_isNaN_12338_2 ?_
  refine nf_l_eq (tgt := 10) hx hb dJxf58ca_isNaN_12338_3 (by decide) (fun c_1 => ?_) (fun c_1 => ?_)
  · refine lv_iconst (v := nI 0) hx hb dJxf58ca_isNaN_12338_10 (by decide) ?_
    exact W.zret (v := nI 0) (ty := .boolean) hx hb hr (by rfl) (fun t ht hW => ⟨_, rfl, ((congrArg bI (by simpa [fcmp_self] using c_1 : decide (vl y1 = .nan) = false)).symm), ht⟩) (fun q hq => absurd hq List.not_mem_nil) dJxf58ca_isNaN_12338_11
  · refine lv_iconst (v := nI 1) hx hb dJxf58ca_isNaN_12338_6 (by decide) ?_
    refine lv_goto (tgt := 11) hx hb dJxf58ca_isNaN_12338_7 (by decide) ?_
    exact W.zret (v := nI 1) (ty := .boolean) hx hb hr (by rfl) (fun t ht hW => ⟨_, rfl, ((congrArg bI (by simpa [fcmp_self] using c_1 : decide (vl y1 = .nan) = true)).symm), ht⟩) (fun q hq => absurd hq List.not_mem_nil) dJxf58ca_isNaN_12338_11
set_option maxHeartbeats 4000000 in
set_option maxRecDepth 100000 in
theorem metJxf58ca_floatToIntBits_5c35a (l : Launch) (G : GG) (y1 : UInt32) : Met l yJxf58ca_floatToIntBits_5c35a wsJxf58ca_floatToIntBits_5c35a ({ frames := 1, cells := 0, slots := 0, locals := 30 }) (pR G ([]) [.float y1]) (vp_Si (fun r => r = bitD (vl y1))) 0 0 (fun _ => False) := by
  refine met_ofWF (cc := cJxf58ca_floatToIntBits_5c35a) (maxL := 1) (ret := (some .int)) (by decide +kernel) rfl ?_
  intro p e s m args below meth c s₁ B hml hv
  obtain ⟨rfl, hK, hP⟩ := hv
  have hx := B.exec
  have hb := B.bytes
  have hr := B.returns
  have hlocks := B.notSynchronized
  have hts := atoms_spec (ws := wsJxf58ca_floatToIntBits_5c35a) B.pre
  have hown : s.vm.findClass RJxf58ca = some m.cls := findClass_of_methodNamed B.named
  have hl := lv_entry ([.float y1]) (n := 1) (Nat.le_of_ble_eq_true rfl)
  rw [lg_entry_eq]
  generalize (lg_sl ([.float y1]) ++ List.replicate (1 - (lg_sl ([.float y1])).length) Slot.unset).toArray = ls at hl ⊢
  have hl : lv_has ls 1 [(0, .float y1)] := hl
  refine lv_fload_n hx hb dJxf58ca_floatToIntBits_5c35a_0 rfl (lv_at hl 0 rfl) ?_
  refine cr_i (va_runS (As := [.float y1]) (rest := []) ⟨hx, hb, hml, hown, hts⟩ (metJxf58ca_isNaN_12338 l G y1) (va_cwS 1 hts gJxf58ca_floatToIntBits_5c35a_Jxf58ca_isNaN_12338 rfl rfl rfl (by decide +kernel) ⟨Nat.le_of_ble_eq_true rfl, Nat.le_of_ble_eq_true rfl⟩) (pR_S hK (va_P_nil _ _ _)) rfl rfl hl.1 rfl (lv_room (Nat.le_of_ble_eq_true rfl)) dJxf58ca_floatToIntBits_5c35a_1 ⟨Nat.zero_le _, Nat.zero_le _⟩) (fun r_1 hr_2 => ?_)
  subst hr_2
  refine nb_if_ne (B := decide (vl y1 = .nan)) (tgt := 12) hx hb dJxf58ca_floatToIntBits_5c35a_4 (by decide) (fun c_3 => ?_) (fun c_3 => ?_)
  · refine lv_ldc (v := nI 2143289344) hx hb hown (hts (.constant RJxf58ca 77 (2143289344)) (by decide +kernel)) dJxf58ca_floatToIntBits_5c35a_12 ?_
    exact W.iret (v := nI 2143289344) hx hb hr (fun t ht hW => ⟨_, rfl, (by rw [bitD, if_pos (of_decide_eq_true c_3)]), ht⟩) (fun q hq => absurd hq List.not_mem_nil) dJxf58ca_floatToIntBits_5c35a_14
  · refine lv_fload_n hx hb dJxf58ca_floatToIntBits_5c35a_7 rfl (lv_at hl 0 rfl) ?_
    refine vn_f2i hx hb (by rw [hml]; exact hl.1.symm) hown (hts (.methodLink RJxf58ca 74 ⟨"java/lang/Float", "floatToRawIntBits", "(F)I"⟩) (by decide +kernel)) (hts (.native ⟨"java/lang/Float", "floatToRawIntBits", "(F)I"⟩) (by decide +kernel)) (hts (.static ⟨"java/lang/Float", "floatToRawIntBits", "(F)I"⟩) (by decide +kernel)) (hts (.initialized "java/lang/Float") (by decide +kernel)) (Nat.le_of_ble_eq_true rfl) (Nat.le_of_ble_eq_true rfl) dJxf58ca_floatToIntBits_5c35a_8 ?_
    exact W.iret (v := y1.toInt32) hx hb hr (fun t ht hW => ⟨_, rfl, (by rw [bitD, if_neg (of_decide_eq_false c_3)]; exact congrArg UInt32.toInt32 (FP.Core.of32_val32 (of_decide_eq_false c_3)).symm), ht⟩) (fun q hq => absurd hq List.not_mem_nil) dJxf58ca_floatToIntBits_5c35a_11
set_option maxHeartbeats 4000000 in
set_option maxRecDepth 100000 in
theorem metX7_hundredths (l : Launch) (G : GG) (y1 : UInt32) : MetD lw_cs l yX7_hundredths wsX7_hundredths ({ frames := 0, cells := 0, slots := 0, locals := 0 }) (pR G ([]) [.float y1]) (vp_Si (fun r => r = hunD (vl y1))) 0 0 (fun _ => False) := by
  refine MetD.ofW (cc := cX7_hundredths) (maxL := 1) (ret := (some .int)) (by decide) rfl ?_
  intro p e s m args below meth c s₁ B hml hv hd0
  obtain ⟨rfl, hK, hP⟩ := hv
  have hx := B.exec
  have hb := B.bytes
  have hr := B.returns
  have hlocks := B.notSynchronized
  have hts0 := atoms_spec (ws := wsX7_hundredths) B.pre
  have hts := dr_words hts0 s.drawn
  have hK0 := hK
  have hK := hK0.drawn s.drawn
  have hown : s.vm.findClass RX7 = some m.cls := findClass_of_methodNamed B.named
  have hl := lv_entry ([.float y1]) (n := 1) (Nat.le_of_ble_eq_true rfl)
  rw [lg_entry_eq]
  generalize (lg_sl ([.float y1]) ++ List.replicate (1 - (lg_sl ([.float y1])).length) Slot.unset).toArray = ls at hl ⊢
  have hl : lv_has ls 1 [(0, .float y1)] := hl
  refine lv_fload_n hx hb dX7_hundredths_0 rfl (lv_at hl 0 rfl) ?_
  refine lv_ldcf hx hb hown (hts (.constantFloat RX7 145 (1120403456)) (by decide +kernel)) dX7_hundredths_1 ?_
  refine lv_fmul_any hd0 lw_bits hx hb dX7_hundredths_3 (fun r_1 d_2 ha_3 hd0 => ?_)
  have hts := dr_words hts0 d_2
  have hK := hK0.drawn d_2
  have er_4 : vl r_1 = dMul (vl y1) (vl (1120403456 : UInt32)) := al_fmul ha_3 rfl rfl
  refine lv_ldcf hx hb hown (hts (.constantFloat RX7 146 (1056964608)) (by decide +kernel)) dX7_hundredths_4 ?_
  refine lv_fadd_any hd0 lw_bits hx hb dX7_hundredths_6 (fun r_5 d_6 ha_7 hd0 => ?_)
  have hts := dr_words hts0 d_6
  have hK := hK0.drawn d_6
  have er_8 : vl r_5 = dAdd (dMul (vl y1) (vl (1120403456 : UInt32))) (vl (1056964608 : UInt32)) := al_fadd ha_7 er_4 rfl
  refine lv_f2i hx hb dX7_hundredths_7 ?_
  refine W.endD hd0 ?_
  exact W.iret (v := FP.f2i r_5) hx hb hr (fun t ht hW => ⟨_, rfl, (congrArg FP.Core.toI er_8), ht⟩) (fun q hq => absurd hq List.not_mem_nil) dX7_hundredths_8
set_option maxHeartbeats 4000000 in
set_option maxRecDepth 100000 in
/-- Model.observed -/
theorem metX7_observed (l : Launch) (G : GG) (md : Nat → Nat) (fl : List Value) (a : Nat → Int32) (k mo : Nat) (hk : k < 12) (hm : mo < 24) : MetD lw_cs l yX7_observed wsX7_observed ({ frames := 0, cells := 0, slots := 0, locals := 0 }) (pR G (scells G md fl a) [.ref (md 0), .int (nI k), .int (nI mo)]) (vp_Sf (fun r => vl r = obD a k mo)) 0 0 (fun _ => False) := by
  refine MetD.ofW (cc := cX7_observed) (maxL := 3) (ret := (some .float)) (by decide) rfl ?_
  intro p e s m args below meth c s₁ B hml hv hd0
  obtain ⟨rfl, hK, hP⟩ := hv
  have hx := B.exec
  have hb := B.bytes
  have hr := B.returns
  have hlocks := B.notSynchronized
  have hts0 := atoms_spec (ws := wsX7_observed) B.pre
  have hts := dr_words hts0 s.drawn
  have hK0 := hK
  have hK := hK0.drawn s.drawn
  have hown : s.vm.findClass RX7 = some m.cls := findClass_of_methodNamed B.named
  have hl := lv_entry ([.ref (md 0), .int (nI k), .int (nI mo)]) (n := 3) (Nat.le_of_ble_eq_true rfl)
  rw [lg_entry_eq]
  generalize (lg_sl ([.ref (md 0), .int (nI k), .int (nI mo)]) ++ List.replicate (3 - (lg_sl ([.ref (md 0), .int (nI k), .int (nI mo)])).length) Slot.unset).toArray = ls at hl ⊢
  have hl : lv_has ls 3 [(0, .ref (md 0)), (1, .int (nI k)), (2, .int (nI mo))] := hl
  refine lv_aload_n hx hb dX7_observed_0 rfl (lv_at hl 0 rfl) ?_
  refine va_get (D := G.1) (ci := 6) (v := .ref (md 1)) (C := RX7) (T := TX7) (N := 15) hx hb hts (by decide +kernel) hown hK.1 hP 0 rfl rfl 0 (by decide) (hts (.fieldLink RX7 7 "PriceIndexCalculatorModel" "s" "[I") (by decide +kernel)) (fun _ h9 => h9) rfl dX7_observed_1 ?_
  refine lv_bipush (v := nI 66) hx hb dX7_observed_4 (by decide) ?_
  refine lv_bipush (v := nI 24) hx hb dX7_observed_6 (by decide) ?_
  refine lv_iload_n hx hb dX7_observed_8 rfl (lv_at hl 1 rfl) ?_
  refine n_mul hx hb dX7_observed_9 ?_
  refine n_add hx hb dX7_observed_10 ?_
  refine lv_iload_n hx hb dX7_observed_11 rfl (lv_at hl 2 rfl) ?_
  refine n_add hx hb dX7_observed_12 ?_
  refine n_iald hx hb hK.1 hP 1 0 rfl rfl (j := (66 + (24 * k)) + mo) (by omega) (by omega) dX7_observed_13 ?_
  refine lv_i2f hx hb dX7_observed_14 ?_
  refine lv_aload_n hx hb dX7_observed_15 rfl (lv_at hl 0 rfl) ?_
  refine va_get (D := G.1) (ci := 6) (v := .ref (md 1)) (C := RX7) (T := TX7) (N := 15) hx hb hts (by decide +kernel) hown hK.1 hP 0 rfl rfl 0 (by decide) (hts (.fieldLink RX7 7 "PriceIndexCalculatorModel" "s" "[I") (by decide +kernel)) (fun _ h9 => h9) rfl dX7_observed_16 ?_
  refine lv_bipush (v := nI 18) hx hb dX7_observed_19 (by decide) ?_
  refine lv_iload_n hx hb dX7_observed_21 rfl (lv_at hl 1 rfl) ?_
  refine n_add hx hb dX7_observed_22 ?_
  refine n_iald hx hb hK.1 hP 1 0 rfl rfl (j := 18 + k) (by omega) (by omega) dX7_observed_23 ?_
  refine lv_i2f hx hb dX7_observed_24 ?_
  refine lv_fdiv_any hd0 lw_bits hx hb dX7_observed_25 (fun r_1 d_2 ha_3 hd0 => ?_)
  have hts := dr_words hts0 d_2
  have hK := hK0.drawn d_2
  have er_4 : vl r_1 = dDiv (vl (FP.i2f (a ((66 + (24 * k)) + mo)))) (vl (FP.i2f (a (18 + k)))) := al_fdiv ha_3 rfl rfl
  refine W.endD hd0 ?_
  exact W.fret (v := r_1) hx hb hr (fun t ht hW => ⟨_, rfl, er_4, ht⟩) (fun q hq => absurd hq List.not_mem_nil) dX7_observed_26
set_option maxHeartbeats 4000000 in
set_option maxRecDepth 100000 in
/-- Model.effective -/
theorem metX7_effective (l : Launch) (G : GG) (md : Nat → Nat) (fl : List Value) (a : Nat → Int32) (hA : mWF a) (k mo : Nat) (hk : k < 12) (hm : mo < 24) : MetD lw_cs l yX7_effective wsX7_effective ({ frames := 1, cells := 0, slots := 0, locals := 30 }) (pR G (scells G md fl a) [.ref (md 0), .int (nI k), .int (nI mo)]) (vp_Sf (fun r => vl r = efD a k mo)) 0 0 (fun _ => False) := by
  refine MetD.ofW (cc := cX7_effective) (maxL := 6) (ret := (some .float)) (by decide) rfl ?_
  intro p e s m args below meth c s₁ B hml hv hd0
  obtain ⟨rfl, hK, hP⟩ := hv
  have hx := B.exec
  have hb := B.bytes
  have hr := B.returns
  have hlocks := B.notSynchronized
  have hts0 := atoms_spec (ws := wsX7_effective) B.pre
  have hts := dr_words hts0 s.drawn
  have hK0 := hK
  have hK := hK0.drawn s.drawn
  have hown : s.vm.findClass RX7 = some m.cls := findClass_of_methodNamed B.named
  have hl := lv_entry ([.ref (md 0), .int (nI k), .int (nI mo)]) (n := 6) (Nat.le_of_ble_eq_true rfl)
  rw [lg_entry_eq]
  generalize (lg_sl ([.ref (md 0), .int (nI k), .int (nI mo)]) ++ List.replicate (6 - (lg_sl ([.ref (md 0), .int (nI k), .int (nI mo)])).length) Slot.unset).toArray = ls at hl ⊢
  have hl : lv_has ls 6 [(0, .ref (md 0)), (1, .int (nI k)), (2, .int (nI mo))] := hl
  refine lv_aload_n hx hb dX7_effective_0 rfl (lv_at hl 0 rfl) ?_
  refine va_get (D := G.1) (ci := 6) (v := .ref (md 1)) (C := RX7) (T := TX7) (N := 15) hx hb hts (by decide +kernel) hown hK.1 hP 0 rfl rfl 0 (by decide) (hts (.fieldLink RX7 7 "PriceIndexCalculatorModel" "s" "[I") (by decide +kernel)) (fun _ h9 => h9) rfl dX7_effective_1 ?_
  refine lv_bipush (v := nI 42) hx hb dX7_effective_4 (by decide) ?_
  refine lv_iload_n hx hb dX7_effective_6 rfl (lv_at hl 1 rfl) ?_
  refine n_add hx hb dX7_effective_7 ?_
  refine n_iald hx hb hK.1 hP 1 0 rfl rfl (j := 42 + k) (by omega) (by omega) dX7_effective_8 ?_
  refine lv_istore_n (lv' := [(3, .int (a (42 + k))), (0, .ref (md 0)), (1, .int (nI k)), (2, .int (nI mo))]) hx hb dX7_effective_9 rfl hl (by decide) rfl (fun ls hl => ?_)
  refine lv_iload_n hx hb dX7_effective_10 rfl (lv_at hl 0 rfl) ?_
  refine lv_bipush (v := (-9)) hx hb dX7_effective_11 (by decide) ?_
  refine lv_icmp_eq (tgt := 29) hx hb dX7_effective_13 (by decide) (fun c_1 => ?_) (fun c_1 => ?_)
  · refine lv_aload_n hx hb dX7_effective_29 rfl (lv_at hl 1 rfl) ?_
    refine lv_iload_n hx hb dX7_effective_30 rfl (lv_at hl 2 rfl) ?_
    refine lv_iload_n hx hb dX7_effective_31 rfl (lv_at hl 3 rfl) ?_
    refine crD_f hd0 (va_runV_D (As := [.int (nI k), .int (nI mo)]) (rest := []) ⟨hx, hb, hml, hown, hts⟩ (metX7_observed l G md fl a  k mo (by omega) (by omega)) (cwV 2 hts gX7_effective_X7_observed rfl rfl rfl (by decide +kernel) ⟨Nat.le_of_ble_eq_true rfl, Nat.le_of_ble_eq_true rfl⟩) (pR_V (q0 := 0) hK (hP.sub (ws' := scells G md fl a) [0, 1] rfl) rfl rfl) rfl rfl hl.1 rfl (lv_room (Nat.le_of_ble_eq_true rfl)) dX7_effective_32 ⟨Nat.zero_le _, Nat.zero_le _⟩) (fun r_3 hr_4 d_2 hd0 => ?_)
    have hts := dr_words hts0 d_2
    have hK := hK0.drawn d_2
    refine W.endD hd0 ?_
    exact W.fret (v := r_3) hx hb hr (fun t ht hW => ⟨_, rfl, (hr_4.trans (by unfold efD; rw [if_pos (by simp [c_1])])), ht⟩) (fun q hq => absurd hq List.not_mem_nil) dX7_effective_35
  · refine lv_iload_n hx hb dX7_effective_16 rfl (lv_at hl 3 rfl) ?_
    refine lv_aload_n hx hb dX7_effective_17 rfl (lv_at hl 1 rfl) ?_
    refine va_get (D := G.1) (ci := 6) (v := .ref (md 1)) (C := RX7) (T := TX7) (N := 15) hx hb hts (by decide +kernel) hown hK.1 hP 0 rfl rfl 0 (by decide) (hts (.fieldLink RX7 7 "PriceIndexCalculatorModel" "s" "[I") (by decide +kernel)) (fun _ h9 => h9) rfl dX7_effective_18 ?_
    refine lv_bipush (v := nI 54) hx hb dX7_effective_21 (by decide) ?_
    refine lv_iload_n hx hb dX7_effective_23 rfl (lv_at hl 2 rfl) ?_
    refine n_add hx hb dX7_effective_24 ?_
    refine n_iald hx hb hK.1 hP 1 0 rfl rfl (j := 54 + k) (by omega) (by omega) dX7_effective_25 ?_
    refine lv_icmp_gt (tgt := 36) hx hb dX7_effective_26 (by decide) (fun c_5 => ?_) (fun c_5 => ?_)
    · obtain ⟨e5, h5, e7, h7⟩ := hA.2 k hk c_1
      refine lv_aload_n hx hb dX7_effective_36 rfl (lv_at hl 1 rfl) ?_
      refine lv_iload_n hx hb dX7_effective_37 rfl (lv_at hl 2 rfl) ?_
      refine lv_aload_n hx hb dX7_effective_38 rfl (lv_at hl 1 rfl) ?_
      refine va_get (D := G.1) (ci := 6) (v := .ref (md 1)) (C := RX7) (T := TX7) (N := 15) hx hb hts (by decide +kernel) hown hK.1 hP 0 rfl rfl 0 (by decide) (hts (.fieldLink RX7 7 "PriceIndexCalculatorModel" "s" "[I") (by decide +kernel)) (fun _ h9 => h9) rfl dX7_effective_39 ?_
      refine lv_bipush (v := nI 54) hx hb dX7_effective_42 (by decide) ?_
      refine lv_iload_n hx hb dX7_effective_44 rfl (lv_at hl 2 rfl) ?_
      refine n_add hx hb dX7_effective_45 ?_
      refine n_iald hx hb hK.1 hP 1 0 rfl rfl (j := 54 + k) (by omega) (by omega) dX7_effective_46 ?_
      refine eq_i (y := nI (ovM a k)) (e7) ?_
      refine crD_f hd0 (va_runV_D (As := [.int (nI k), .int (nI (ovM a k))]) (rest := []) ⟨hx, hb, hml, hown, hts⟩ (metX7_observed l G md fl a  k (ovM a k) (by omega) (by omega)) (cwV 2 hts gX7_effective_X7_observed rfl rfl rfl (by decide +kernel) ⟨Nat.le_of_ble_eq_true rfl, Nat.le_of_ble_eq_true rfl⟩) (pR_V (q0 := 0) hK (hP.sub (ws' := scells G md fl a) [0, 1] rfl) rfl rfl) rfl rfl hl.1 rfl (lv_room (Nat.le_of_ble_eq_true rfl)) dX7_effective_47 ⟨Nat.zero_le _, Nat.zero_le _⟩) (fun r_7 hr_8 d_6 hd0 => ?_)
      have hts := dr_words hts0 d_6
      have hK := hK0.drawn d_6
      refine lv_fstore (lv' := [(4, .float r_7), (3, .int (a (42 + k))), (0, .ref (md 0)), (1, .int (nI k)), (2, .int (nI mo))]) hx hb dX7_effective_50 hl (by decide) rfl (fun ls hl => ?_)
      refine lv_aload_n hx hb dX7_effective_52 rfl (lv_at hl 2 rfl) ?_
      refine lv_iload_n hx hb dX7_effective_53 rfl (lv_at hl 1 rfl) ?_
      refine eq_i (y := nI (nwM a k)) (e5) ?_
      refine lv_aload_n hx hb dX7_effective_54 rfl (lv_at hl 2 rfl) ?_
      refine va_get (D := G.1) (ci := 6) (v := .ref (md 1)) (C := RX7) (T := TX7) (N := 15) hx hb hts (by decide +kernel) hown hK.1 hP 0 rfl rfl 0 (by decide) (hts (.fieldLink RX7 7 "PriceIndexCalculatorModel" "s" "[I") (by decide +kernel)) (fun _ h9 => h9) rfl dX7_effective_55 ?_
      refine lv_bipush (v := nI 54) hx hb dX7_effective_58 (by decide) ?_
      refine lv_iload_n hx hb dX7_effective_60 rfl (lv_at hl 3 rfl) ?_
      refine n_add hx hb dX7_effective_61 ?_
      refine n_iald hx hb hK.1 hP 1 0 rfl rfl (j := 54 + k) (by omega) (by omega) dX7_effective_62 ?_
      refine eq_i (y := nI (ovM a k)) (e7) ?_
      refine crD_f hd0 (va_runV_D (As := [.int (nI (nwM a k)), .int (nI (ovM a k))]) (rest := []) ⟨hx, hb, hml, hown, hts⟩ (metX7_observed l G md fl a  (nwM a k) (ovM a k) (by omega) (by omega)) (cwV 2 hts gX7_effective_X7_observed rfl rfl rfl (by decide +kernel) ⟨Nat.le_of_ble_eq_true rfl, Nat.le_of_ble_eq_true rfl⟩) (pR_V (q0 := 0) hK (hP.sub (ws' := scells G md fl a) [0, 1] rfl) rfl rfl) rfl rfl hl.1 rfl (lv_room (Nat.le_of_ble_eq_true rfl)) dX7_effective_63 ⟨Nat.zero_le _, Nat.zero_le _⟩) (fun r_10 hr_11 d_9 hd0 => ?_)
      have hts := dr_words hts0 d_9
      have hK := hK0.drawn d_9
      refine lv_fstore (lv' := [(5, .float r_10), (4, .float r_7), (3, .int (a (42 + k))), (0, .ref (md 0)), (1, .int (nI k)), (2, .int (nI mo))]) hx hb dX7_effective_66 hl (by decide) rfl (fun ls hl => ?_)
      refine lv_aload_n hx hb dX7_effective_68 rfl (lv_at hl 3 rfl) ?_
      refine lv_iload_n hx hb dX7_effective_69 rfl (lv_at hl 2 rfl) ?_
      refine eq_i (y := nI (nwM a k)) (e5) ?_
      refine lv_iload_n hx hb dX7_effective_70 rfl (lv_at hl 5 rfl) ?_
      refine crD_f hd0 (va_runV_D (As := [.int (nI (nwM a k)), .int (nI mo)]) (rest := []) ⟨hx, hb, hml, hown, hts⟩ (metX7_observed l G md fl a  (nwM a k) mo (by omega) (by omega)) (cwV 2 hts gX7_effective_X7_observed rfl rfl rfl (by decide +kernel) ⟨Nat.le_of_ble_eq_true rfl, Nat.le_of_ble_eq_true rfl⟩) (pR_V (q0 := 0) hK (hP.sub (ws' := scells G md fl a) [0, 1] rfl) rfl rfl) rfl rfl hl.1 rfl (lv_room (Nat.le_of_ble_eq_true rfl)) dX7_effective_71 ⟨Nat.zero_le _, Nat.zero_le _⟩) (fun r_13 hr_14 d_12 hd0 => ?_)
      have hts := dr_words hts0 d_12
      have hK := hK0.drawn d_12
      refine lv_fload hx hb dX7_effective_74 (lv_at hl 1 rfl) ?_
      refine lv_fload hx hb dX7_effective_76 (lv_at hl 0 rfl) ?_
      refine lv_fdiv_any hd0 lw_bits hx hb dX7_effective_78 (fun r_15 d_16 ha_17 hd0 => ?_)
      have hts := dr_words hts0 d_16
      have hK := hK0.drawn d_16
      have er_18 : vl r_15 = dDiv (obD a k (ovM a k)) (obD a (nwM a k) (ovM a k)) := al_fdiv ha_17 hr_8 hr_11
      refine lv_fmul_any hd0 lw_bits hx hb dX7_effective_79 (fun r_19 d_20 ha_21 hd0 => ?_)
      have hts := dr_words hts0 d_20
      have hK := hK0.drawn d_20
      have er_22 : vl r_19 = dMul (obD a (nwM a k) mo) (dDiv (obD a k (ovM a k)) (obD a (nwM a k) (ovM a k))) := al_fmul ha_21 hr_14 er_18
      refine W.endD hd0 ?_
      exact W.fret (v := r_19) hx hb hr (fun t ht hW => ⟨_, rfl, (er_22.trans (by unfold efD; rw [if_neg (by simp [c_1, c_5])])), ht⟩) (fun q hq => absurd hq List.not_mem_nil) dX7_effective_80
    · refine lv_aload_n hx hb dX7_effective_29 rfl (lv_at hl 1 rfl) ?_
      refine lv_iload_n hx hb dX7_effective_30 rfl (lv_at hl 2 rfl) ?_
      refine lv_iload_n hx hb dX7_effective_31 rfl (lv_at hl 3 rfl) ?_
      refine crD_f hd0 (va_runV_D (As := [.int (nI k), .int (nI mo)]) (rest := []) ⟨hx, hb, hml, hown, hts⟩ (metX7_observed l G md fl a  k mo (by omega) (by omega)) (cwV 2 hts gX7_effective_X7_observed rfl rfl rfl (by decide +kernel) ⟨Nat.le_of_ble_eq_true rfl, Nat.le_of_ble_eq_true rfl⟩) (pR_V (q0 := 0) hK (hP.sub (ws' := scells G md fl a) [0, 1] rfl) rfl rfl) rfl rfl hl.1 rfl (lv_room (Nat.le_of_ble_eq_true rfl)) dX7_effective_32 ⟨Nat.zero_le _, Nat.zero_le _⟩) (fun r_24 hr_25 d_23 hd0 => ?_)
      have hts := dr_words hts0 d_23
      have hK := hK0.drawn d_23
      refine W.endD hd0 ?_
      exact W.fret (v := r_24) hx hb hr (fun t ht hW => ⟨_, rfl, (hr_25.trans (by unfold efD; rw [if_pos (by simp [c_1, c_5])])), ht⟩) (fun q hq => absurd hq List.not_mem_nil) dX7_effective_35
set_option maxHeartbeats 4000000 in
set_option maxRecDepth 100000 in
/-- Model.begin -/
theorem metX7_begin (l : Launch) (G : GG) (md : Nat → Nat) (a pa : Nat → Int32) (np : Nat) (tb : Nat → Int32) (ty aw : Nat) (iw : Bool) (qu : Nat → Int32) (up lo : UInt32) (su : Nat) (kn : Nat → UInt32) (ik im : Nat → Bool) (fo : UInt32)  : Met l yX7_begin wsX7_begin ({ frames := 0, cells := 0, slots := 0, locals := 0 }) (pM G (mcells G md a pa np tb ty aw iw qu up lo su kn ik im fo) [.ref (md 0)]) (va_Qv (fun (_ : Unit) => True) (bM G (fun _ : Unit => mcells G md a pa np tb ty aw iw qu FP.fconst0 FP.fconst0 0 kn ik im fo)) (adr (mcells G md a pa np tb ty aw iw qu up lo su kn ik im fo))) 0 0 (adr (mcells G md a pa np tb ty aw iw qu up lo su kn ik im fo)) := by
  refine Met.ofW (cc := cX7_begin) (maxL := 1) (ret := none) (by decide) rfl ?_
  intro p e s m args below meth c s₁ B hml hv
  obtain ⟨rfl, hK, hP, hD0⟩ := hv
  have hx := B.exec
  have hb := B.bytes
  have hr := B.returns
  have hlocks := B.notSynchronized
  have hts := atoms_spec (ws := wsX7_begin) B.pre
  have hown : s.vm.findClass RX7 = some m.cls := findClass_of_methodNamed B.named
  have hD := hD0.own
  generalize hAe : adr (mcells G md a pa np tb ty aw iw qu up lo su kn ik im fo) = A at hD ⊢
  have hS : va_S A s.heap s.heap [] := va_S.rf
  have hl := lv_entry ([.ref (md 0)]) (n := 1) (Nat.le_of_ble_eq_true rfl)
  rw [lg_entry_eq]
  generalize (lg_sl ([.ref (md 0)]) ++ List.replicate (1 - (lg_sl ([.ref (md 0)])).length) Slot.unset).toArray = ls at hl ⊢
  have hl : lv_has ls 1 [(0, .ref (md 0))] := hl
  have hP : va_P G.1 vwCl ([(md 0, .inr (6, [.ref (md 1), .ref (md 2), .int (nI np), .ref (md 3), .int (nI ty), .int (nI aw), .int (bI iw), .ref (md 4), .float up, .float lo, .int (nI su), .ref (md 5), .ref (md 6), .ref (md 7), .float fo])), (md 1, .inl (G.2 0, 354, .inl a)), (md 2, .inl (G.2 0, 2832, .inl pa)), (md 3, .inl (G.2 3, 60, .inl tb)), (md 4, .inl (G.2 0, 36, .inl qu)), (md 5, .inl (G.2 2, 288, .inr (.inr (.inl kn)))), (md 6, .inl (G.2 1, 288, .inl (fun jj => bI (ik jj)))), (md 7, .inl (G.2 1, 288, .inl (fun jj => bI (im jj))))]) s.heap := hP
  have hD : va_D A ([(md 0, .inr (6, [.ref (md 1), .ref (md 2), .int (nI np), .ref (md 3), .int (nI ty), .int (nI aw), .int (bI iw), .ref (md 4), .float up, .float lo, .int (nI su), .ref (md 5), .ref (md 6), .ref (md 7), .float fo])), (md 1, .inl (G.2 0, 354, .inl a)), (md 2, .inl (G.2 0, 2832, .inl pa)), (md 3, .inl (G.2 3, 60, .inl tb)), (md 4, .inl (G.2 0, 36, .inl qu)), (md 5, .inl (G.2 2, 288, .inr (.inr (.inl kn)))), (md 6, .inl (G.2 1, 288, .inl (fun jj => bI (ik jj)))), (md 7, .inl (G.2 1, 288, .inl (fun jj => bI (im jj))))]) := hD
  refine lv_aload_n hx hb dX7_begin_0 rfl (lv_at hl 0 rfl) ?_
  refine lv_fconst0 hx hb dX7_begin_1 ?_
  refine va_put (D := G.1) (ci := 6) (v := .float FP.fconst0) (ty := .float) (C := RX7) (T := TX7) (N := 15) hx hb hts (by decide +kernel) tyX7 tyX7_ok nmX7 hown hK.1 hP hD hS 0 rfl rfl 8 (by decide) (hts (.fieldLink RX7 98 "PriceIndexCalculatorModel" "upper" "F") (by decide +kernel)) (fun _ h9 => h9) rfl (by decide +kernel) rfl rfl (Nat.le_of_ble_eq_true rfl) dX7_begin_2 (fun H locs hP hD hS => ?_)
  have hP : va_P G.1 vwCl ([(md 0, .inr (6, [.ref (md 1), .ref (md 2), .int (nI np), .ref (md 3), .int (nI ty), .int (nI aw), .int (bI iw), .ref (md 4), .float FP.fconst0, .float lo, .int (nI su), .ref (md 5), .ref (md 6), .ref (md 7), .float fo])), (md 1, .inl (G.2 0, 354, .inl a)), (md 2, .inl (G.2 0, 2832, .inl pa)), (md 3, .inl (G.2 3, 60, .inl tb)), (md 4, .inl (G.2 0, 36, .inl qu)), (md 5, .inl (G.2 2, 288, .inr (.inr (.inl kn)))), (md 6, .inl (G.2 1, 288, .inl (fun jj => bI (ik jj)))), (md 7, .inl (G.2 1, 288, .inl (fun jj => bI (im jj))))]) H := hP
  have hD : va_D A ([(md 0, .inr (6, [.ref (md 1), .ref (md 2), .int (nI np), .ref (md 3), .int (nI ty), .int (nI aw), .int (bI iw), .ref (md 4), .float FP.fconst0, .float lo, .int (nI su), .ref (md 5), .ref (md 6), .ref (md 7), .float fo])), (md 1, .inl (G.2 0, 354, .inl a)), (md 2, .inl (G.2 0, 2832, .inl pa)), (md 3, .inl (G.2 3, 60, .inl tb)), (md 4, .inl (G.2 0, 36, .inl qu)), (md 5, .inl (G.2 2, 288, .inr (.inr (.inl kn)))), (md 6, .inl (G.2 1, 288, .inl (fun jj => bI (ik jj)))), (md 7, .inl (G.2 1, 288, .inl (fun jj => bI (im jj))))]) := hD
  refine lv_aload_n hx hb dX7_begin_5 rfl (lv_at hl 0 rfl) ?_
  refine lv_fconst0 hx hb dX7_begin_6 ?_
  refine va_put (D := G.1) (ci := 6) (v := .float FP.fconst0) (ty := .float) (C := RX7) (T := TX7) (N := 15) hx hb hts (by decide +kernel) tyX7 tyX7_ok nmX7 hown hK.1 hP hD hS 0 rfl rfl 9 (by decide) (hts (.fieldLink RX7 102 "PriceIndexCalculatorModel" "lower" "F") (by decide +kernel)) (fun _ h9 => h9) rfl (by decide +kernel) rfl rfl (Nat.le_of_ble_eq_true rfl) dX7_begin_7 (fun H locs hP hD hS => ?_)
  have hP : va_P G.1 vwCl ([(md 0, .inr (6, [.ref (md 1), .ref (md 2), .int (nI np), .ref (md 3), .int (nI ty), .int (nI aw), .int (bI iw), .ref (md 4), .float FP.fconst0, .float FP.fconst0, .int (nI su), .ref (md 5), .ref (md 6), .ref (md 7), .float fo])), (md 1, .inl (G.2 0, 354, .inl a)), (md 2, .inl (G.2 0, 2832, .inl pa)), (md 3, .inl (G.2 3, 60, .inl tb)), (md 4, .inl (G.2 0, 36, .inl qu)), (md 5, .inl (G.2 2, 288, .inr (.inr (.inl kn)))), (md 6, .inl (G.2 1, 288, .inl (fun jj => bI (ik jj)))), (md 7, .inl (G.2 1, 288, .inl (fun jj => bI (im jj))))]) H := hP
  have hD : va_D A ([(md 0, .inr (6, [.ref (md 1), .ref (md 2), .int (nI np), .ref (md 3), .int (nI ty), .int (nI aw), .int (bI iw), .ref (md 4), .float FP.fconst0, .float FP.fconst0, .int (nI su), .ref (md 5), .ref (md 6), .ref (md 7), .float fo])), (md 1, .inl (G.2 0, 354, .inl a)), (md 2, .inl (G.2 0, 2832, .inl pa)), (md 3, .inl (G.2 3, 60, .inl tb)), (md 4, .inl (G.2 0, 36, .inl qu)), (md 5, .inl (G.2 2, 288, .inr (.inr (.inl kn)))), (md 6, .inl (G.2 1, 288, .inl (fun jj => bI (ik jj)))), (md 7, .inl (G.2 1, 288, .inl (fun jj => bI (im jj))))]) := hD
  refine lv_aload_n hx hb dX7_begin_10 rfl (lv_at hl 0 rfl) ?_
  refine lv_iconst (v := nI 0) hx hb dX7_begin_11 (by decide) ?_
  refine va_put (D := G.1) (ci := 6) (v := .int (nI 0)) (ty := .int) (C := RX7) (T := TX7) (N := 15) hx hb hts (by decide +kernel) tyX7 tyX7_ok nmX7 hown hK.1 hP hD hS 0 rfl rfl 10 (by decide) (hts (.fieldLink RX7 105 "PriceIndexCalculatorModel" "summed" "I") (by decide +kernel)) (fun _ h9 => h9) rfl (by decide +kernel) rfl rfl (Nat.le_of_ble_eq_true rfl) dX7_begin_12 (fun H locs hP hD hS => ?_)
  have hP : va_P G.1 vwCl ([(md 0, .inr (6, [.ref (md 1), .ref (md 2), .int (nI np), .ref (md 3), .int (nI ty), .int (nI aw), .int (bI iw), .ref (md 4), .float FP.fconst0, .float FP.fconst0, .int (nI 0), .ref (md 5), .ref (md 6), .ref (md 7), .float fo])), (md 1, .inl (G.2 0, 354, .inl a)), (md 2, .inl (G.2 0, 2832, .inl pa)), (md 3, .inl (G.2 3, 60, .inl tb)), (md 4, .inl (G.2 0, 36, .inl qu)), (md 5, .inl (G.2 2, 288, .inr (.inr (.inl kn)))), (md 6, .inl (G.2 1, 288, .inl (fun jj => bI (ik jj)))), (md 7, .inl (G.2 1, 288, .inl (fun jj => bI (im jj))))]) H := hP
  have hD : va_D A ([(md 0, .inr (6, [.ref (md 1), .ref (md 2), .int (nI np), .ref (md 3), .int (nI ty), .int (nI aw), .int (bI iw), .ref (md 4), .float FP.fconst0, .float FP.fconst0, .int (nI 0), .ref (md 5), .ref (md 6), .ref (md 7), .float fo])), (md 1, .inl (G.2 0, 354, .inl a)), (md 2, .inl (G.2 0, 2832, .inl pa)), (md 3, .inl (G.2 3, 60, .inl tb)), (md 4, .inl (G.2 0, 36, .inl qu)), (md 5, .inl (G.2 2, 288, .inr (.inr (.inl kn)))), (md 6, .inl (G.2 1, 288, .inl (fun jj => bI (ik jj)))), (md 7, .inl (G.2 1, 288, .inl (fun jj => bI (im jj))))]) := hD
  have hP9 := hP
  exact W.vret hx hb hr (fun t ht hW => ⟨⟨(), rfl, trivial, bM_end ht hP9⟩, hS.F ht⟩) hS.2.2 dX7_begin_15
set_option maxHeartbeats 4000000 in
set_option maxRecDepth 100000 in
/-- Model.take -/
theorem metX7_take (l : Launch) (G : GG) (md : Nat → Nat) (a pa : Nat → Int32) (np : Nat) (tb : Nat → Int32) (ty aw : Nat) (iw : Bool) (qu : Nat → Int32) (up lo : UInt32) (su : Nat) (kn : Nat → UInt32) (ik im : Nat → Bool) (fo : UInt32) (pp qq : UInt32)  : MetD lw_cs l yX7_take wsX7_take ({ frames := 0, cells := 0, slots := 0, locals := 0 }) (pM G (mcells G md a pa np tb ty aw iw qu up lo su kn ik im fo) [.ref (md 0), .float pp, .float qq]) (va_Qv (fun (u : UInt32 × UInt32) => vl u.1 = tkU (a 4) (vl up) (vl pp) (vl qq) ∧ vl u.2 = tkL (a 4) (vl lo) (vl pp) (vl qq)) (bM G (fun (u : UInt32 × UInt32) => mcells G md a pa np tb ty aw iw qu u.1 u.2 (su + 1) kn ik im fo)) (adr (mcells G md a pa np tb ty aw iw qu up lo su kn ik im fo))) 0 0 (adr (mcells G md a pa np tb ty aw iw qu up lo su kn ik im fo)) := by
  refine MetD.ofW (cc := cX7_take) (maxL := 3) (ret := none) (by decide) rfl ?_
  intro p e s m args below meth c s₁ B hml hv hd0
  obtain ⟨rfl, hK, hP, hD0⟩ := hv
  have hx := B.exec
  have hb := B.bytes
  have hr := B.returns
  have hlocks := B.notSynchronized
  have hts0 := atoms_spec (ws := wsX7_take) B.pre
  have hts := dr_words hts0 s.drawn
  have hK0 := hK
  have hK := hK0.drawn s.drawn
  have hown : s.vm.findClass RX7 = some m.cls := findClass_of_methodNamed B.named
  have hD := hD0.own
  generalize hAe : adr (mcells G md a pa np tb ty aw iw qu up lo su kn ik im fo) = A at hD ⊢
  have hS : va_S A s.heap s.heap [] := va_S.rf
  have hl := lv_entry ([.ref (md 0), .float pp, .float qq]) (n := 3) (Nat.le_of_ble_eq_true rfl)
  rw [lg_entry_eq]
  generalize (lg_sl ([.ref (md 0), .float pp, .float qq]) ++ List.replicate (3 - (lg_sl ([.ref (md 0), .float pp, .float qq])).length) Slot.unset).toArray = ls at hl ⊢
  have hl : lv_has ls 3 [(0, .ref (md 0)), (1, .float pp), (2, .float qq)] := hl
  have hP : va_P G.1 vwCl ([(md 0, .inr (6, [.ref (md 1), .ref (md 2), .int (nI np), .ref (md 3), .int (nI ty), .int (nI aw), .int (bI iw), .ref (md 4), .float up, .float lo, .int (nI su), .ref (md 5), .ref (md 6), .ref (md 7), .float fo])), (md 1, .inl (G.2 0, 354, .inl a)), (md 2, .inl (G.2 0, 2832, .inl pa)), (md 3, .inl (G.2 3, 60, .inl tb)), (md 4, .inl (G.2 0, 36, .inl qu)), (md 5, .inl (G.2 2, 288, .inr (.inr (.inl kn)))), (md 6, .inl (G.2 1, 288, .inl (fun jj => bI (ik jj)))), (md 7, .inl (G.2 1, 288, .inl (fun jj => bI (im jj))))]) s.heap := hP
  have hD : va_D A ([(md 0, .inr (6, [.ref (md 1), .ref (md 2), .int (nI np), .ref (md 3), .int (nI ty), .int (nI aw), .int (bI iw), .ref (md 4), .float up, .float lo, .int (nI su), .ref (md 5), .ref (md 6), .ref (md 7), .float fo])), (md 1, .inl (G.2 0, 354, .inl a)), (md 2, .inl (G.2 0, 2832, .inl pa)), (md 3, .inl (G.2 3, 60, .inl tb)), (md 4, .inl (G.2 0, 36, .inl qu)), (md 5, .inl (G.2 2, 288, .inr (.inr (.inl kn)))), (md 6, .inl (G.2 1, 288, .inl (fun jj => bI (ik jj)))), (md 7, .inl (G.2 1, 288, .inl (fun jj => bI (im jj))))]) := hD
  refine lv_aload_n hx hb dX7_take_0 rfl (lv_at hl 0 rfl) ?_
  refine lv_dup hx hb dX7_take_1 rfl ?_
  refine va_get (D := G.1) (ci := 6) (v := .int (nI su)) (C := RX7) (T := TX7) (N := 15) hx hb hts (by decide +kernel) hown hK.1 hP 0 rfl rfl 10 (by decide) (hts (.fieldLink RX7 105 "PriceIndexCalculatorModel" "summed" "I") (by decide +kernel)) (fun _ h9 => h9) rfl dX7_take_2 ?_
  refine lv_iconst (v := nI 1) hx hb dX7_take_5 (by decide) ?_
  refine n_add hx hb dX7_take_6 ?_
  refine va_put (D := G.1) (ci := 6) (v := .int (nI (su + 1))) (ty := .int) (C := RX7) (T := TX7) (N := 15) hx hb hts (by decide +kernel) tyX7 tyX7_ok nmX7 hown hK.1 hP hD hS 0 rfl rfl 10 (by decide) (hts (.fieldLink RX7 105 "PriceIndexCalculatorModel" "summed" "I") (by decide +kernel)) (fun _ h9 => h9) rfl (by decide +kernel) rfl rfl (Nat.le_of_ble_eq_true rfl) dX7_take_7 (fun H locs hP hD hS => ?_)
  have hP : va_P G.1 vwCl ([(md 0, .inr (6, [.ref (md 1), .ref (md 2), .int (nI np), .ref (md 3), .int (nI ty), .int (nI aw), .int (bI iw), .ref (md 4), .float up, .float lo, .int (nI (su + 1)), .ref (md 5), .ref (md 6), .ref (md 7), .float fo])), (md 1, .inl (G.2 0, 354, .inl a)), (md 2, .inl (G.2 0, 2832, .inl pa)), (md 3, .inl (G.2 3, 60, .inl tb)), (md 4, .inl (G.2 0, 36, .inl qu)), (md 5, .inl (G.2 2, 288, .inr (.inr (.inl kn)))), (md 6, .inl (G.2 1, 288, .inl (fun jj => bI (ik jj)))), (md 7, .inl (G.2 1, 288, .inl (fun jj => bI (im jj))))]) H := hP
  have hD : va_D A ([(md 0, .inr (6, [.ref (md 1), .ref (md 2), .int (nI np), .ref (md 3), .int (nI ty), .int (nI aw), .int (bI iw), .ref (md 4), .float up, .float lo, .int (nI (su + 1)), .ref (md 5), .ref (md 6), .ref (md 7), .float fo])), (md 1, .inl (G.2 0, 354, .inl a)), (md 2, .inl (G.2 0, 2832, .inl pa)), (md 3, .inl (G.2 3, 60, .inl tb)), (md 4, .inl (G.2 0, 36, .inl qu)), (md 5, .inl (G.2 2, 288, .inr (.inr (.inl kn)))), (md 6, .inl (G.2 1, 288, .inl (fun jj => bI (ik jj)))), (md 7, .inl (G.2 1, 288, .inl (fun jj => bI (im jj))))]) := hD
  refine lv_aload_n hx hb dX7_take_10 rfl (lv_at hl 0 rfl) ?_
  refine va_get (D := G.1) (ci := 6) (v := .ref (md 1)) (C := RX7) (T := TX7) (N := 15) hx hb hts (by decide +kernel) hown hK.1 hP 0 rfl rfl 0 (by decide) (hts (.fieldLink RX7 7 "PriceIndexCalculatorModel" "s" "[I") (by decide +kernel)) (fun _ h9 => h9) rfl dX7_take_11 ?_
  refine lv_iconst (v := nI 4) hx hb dX7_take_14 (by decide) ?_
  refine n_iald hx hb hK.1 hP 1 0 rfl rfl (j := 4) (by omega) (by omega) dX7_take_15 ?_
  by_cases hf0 : a 4 = 0
  · refine lv_lookup (off := 28) (tgt := 44) hx hb dX7_take_16 (by decide) (by rw [hf0]; decide) (by decide) ?_
    refine lv_aload_n hx hb dX7_take_44 rfl (lv_at hl 0 rfl) ?_
    refine lv_dup hx hb dX7_take_45 rfl ?_
    refine va_get (D := G.1) (ci := 6) (v := .float up) (C := RX7) (T := TX7) (N := 15) hx hb hts (by decide +kernel) hown hK.1 hP 0 rfl rfl 8 (by decide) (hts (.fieldLink RX7 98 "PriceIndexCalculatorModel" "upper" "F") (by decide +kernel)) (fun _ h9 => h9) rfl dX7_take_46 ?_
    refine lv_fload_n hx hb dX7_take_49 rfl (lv_at hl 2 rfl) ?_
    refine lv_fadd_any hd0 lw_bits hx hb dX7_take_50 (fun r_1 d_2 ha_3 hd0 => ?_)
    have hts := dr_words hts0 d_2
    have hK := hK0.drawn d_2
    have er_4 : vl r_1 = dAdd (vl up) (vl qq) := al_fadd ha_3 rfl rfl
    refine va_put (D := G.1) (ci := 6) (v := .float r_1) (ty := .float) (C := RX7) (T := TX7) (N := 15) hx hb hts (by decide +kernel) tyX7 tyX7_ok nmX7 hown hK.1 hP hD hS 0 rfl rfl 8 (by decide) (hts (.fieldLink RX7 98 "PriceIndexCalculatorModel" "upper" "F") (by decide +kernel)) (fun _ h9 => h9) rfl (by decide +kernel) rfl rfl (Nat.le_of_ble_eq_true rfl) dX7_take_51 (fun H locs hP hD hS => ?_)
    have hP : va_P G.1 vwCl ([(md 0, .inr (6, [.ref (md 1), .ref (md 2), .int (nI np), .ref (md 3), .int (nI ty), .int (nI aw), .int (bI iw), .ref (md 4), .float r_1, .float lo, .int (nI (su + 1)), .ref (md 5), .ref (md 6), .ref (md 7), .float fo])), (md 1, .inl (G.2 0, 354, .inl a)), (md 2, .inl (G.2 0, 2832, .inl pa)), (md 3, .inl (G.2 3, 60, .inl tb)), (md 4, .inl (G.2 0, 36, .inl qu)), (md 5, .inl (G.2 2, 288, .inr (.inr (.inl kn)))), (md 6, .inl (G.2 1, 288, .inl (fun jj => bI (ik jj)))), (md 7, .inl (G.2 1, 288, .inl (fun jj => bI (im jj))))]) H := hP
    have hD : va_D A ([(md 0, .inr (6, [.ref (md 1), .ref (md 2), .int (nI np), .ref (md 3), .int (nI ty), .int (nI aw), .int (bI iw), .ref (md 4), .float r_1, .float lo, .int (nI (su + 1)), .ref (md 5), .ref (md 6), .ref (md 7), .float fo])), (md 1, .inl (G.2 0, 354, .inl a)), (md 2, .inl (G.2 0, 2832, .inl pa)), (md 3, .inl (G.2 3, 60, .inl tb)), (md 4, .inl (G.2 0, 36, .inl qu)), (md 5, .inl (G.2 2, 288, .inr (.inr (.inl kn)))), (md 6, .inl (G.2 1, 288, .inl (fun jj => bI (ik jj)))), (md 7, .inl (G.2 1, 288, .inl (fun jj => bI (im jj))))]) := hD
    refine lv_aload_n hx hb dX7_take_54 rfl (lv_at hl 0 rfl) ?_
    refine lv_dup hx hb dX7_take_55 rfl ?_
    refine va_get (D := G.1) (ci := 6) (v := .float lo) (C := RX7) (T := TX7) (N := 15) hx hb hts (by decide +kernel) hown hK.1 hP 0 rfl rfl 9 (by decide) (hts (.fieldLink RX7 102 "PriceIndexCalculatorModel" "lower" "F") (by decide +kernel)) (fun _ h9 => h9) rfl dX7_take_56 ?_
    refine lv_fload_n hx hb dX7_take_59 rfl (lv_at hl 1 rfl) ?_
    refine lv_fadd_any hd0 lw_bits hx hb dX7_take_60 (fun r_5 d_6 ha_7 hd0 => ?_)
    have hts := dr_words hts0 d_6
    have hK := hK0.drawn d_6
    have er_8 : vl r_5 = dAdd (vl lo) (vl pp) := al_fadd ha_7 rfl rfl
    refine va_put (D := G.1) (ci := 6) (v := .float r_5) (ty := .float) (C := RX7) (T := TX7) (N := 15) hx hb hts (by decide +kernel) tyX7 tyX7_ok nmX7 hown hK.1 hP hD hS 0 rfl rfl 9 (by decide) (hts (.fieldLink RX7 102 "PriceIndexCalculatorModel" "lower" "F") (by decide +kernel)) (fun _ h9 => h9) rfl (by decide +kernel) rfl rfl (Nat.le_of_ble_eq_true rfl) dX7_take_61 (fun H locs hP hD hS => ?_)
    have hP : va_P G.1 vwCl ([(md 0, .inr (6, [.ref (md 1), .ref (md 2), .int (nI np), .ref (md 3), .int (nI ty), .int (nI aw), .int (bI iw), .ref (md 4), .float r_1, .float r_5, .int (nI (su + 1)), .ref (md 5), .ref (md 6), .ref (md 7), .float fo])), (md 1, .inl (G.2 0, 354, .inl a)), (md 2, .inl (G.2 0, 2832, .inl pa)), (md 3, .inl (G.2 3, 60, .inl tb)), (md 4, .inl (G.2 0, 36, .inl qu)), (md 5, .inl (G.2 2, 288, .inr (.inr (.inl kn)))), (md 6, .inl (G.2 1, 288, .inl (fun jj => bI (ik jj)))), (md 7, .inl (G.2 1, 288, .inl (fun jj => bI (im jj))))]) H := hP
    have hD : va_D A ([(md 0, .inr (6, [.ref (md 1), .ref (md 2), .int (nI np), .ref (md 3), .int (nI ty), .int (nI aw), .int (bI iw), .ref (md 4), .float r_1, .float r_5, .int (nI (su + 1)), .ref (md 5), .ref (md 6), .ref (md 7), .float fo])), (md 1, .inl (G.2 0, 354, .inl a)), (md 2, .inl (G.2 0, 2832, .inl pa)), (md 3, .inl (G.2 3, 60, .inl tb)), (md 4, .inl (G.2 0, 36, .inl qu)), (md 5, .inl (G.2 2, 288, .inr (.inr (.inl kn)))), (md 6, .inl (G.2 1, 288, .inl (fun jj => bI (ik jj)))), (md 7, .inl (G.2 1, 288, .inl (fun jj => bI (im jj))))]) := hD
    refine lv_goto (tgt := 94) hx hb dX7_take_64 (by decide) ?_
    refine W.endD hd0 ?_
    have hP9 := hP
    exact W.vret hx hb hr (fun t ht hW => ⟨⟨(r_1, r_5), rfl, ⟨by unfold tkU; rw [if_pos hf0]; exact er_4, by unfold tkL; rw [if_pos hf0]; exact er_8⟩, bM_end ht hP9⟩, hS.F ht⟩) hS.2.2 dX7_take_94
  · by_cases hf1 : a 4 = nI 1
    · refine lv_lookup (off := 51) (tgt := 67) hx hb dX7_take_16 (by decide) (by rw [hf1]; decide) (by decide) ?_
      refine lv_aload_n hx hb dX7_take_67 rfl (lv_at hl 0 rfl) ?_
      refine lv_dup hx hb dX7_take_68 rfl ?_
      refine va_get (D := G.1) (ci := 6) (v := .float up) (C := RX7) (T := TX7) (N := 15) hx hb hts (by decide +kernel) hown hK.1 hP 0 rfl rfl 8 (by decide) (hts (.fieldLink RX7 98 "PriceIndexCalculatorModel" "upper" "F") (by decide +kernel)) (fun _ h9 => h9) rfl dX7_take_69 ?_
      refine lv_fload_n hx hb dX7_take_72 rfl (lv_at hl 2 rfl) ?_
      refine lv_fload_n hx hb dX7_take_73 rfl (lv_at hl 1 rfl) ?_
      refine lv_fdiv_any hd0 lw_bits hx hb dX7_take_74 (fun r_9 d_10 ha_11 hd0 => ?_)
      have hts := dr_words hts0 d_10
      have hK := hK0.drawn d_10
      have er_12 : vl r_9 = dDiv (vl qq) (vl pp) := al_fdiv ha_11 rfl rfl
      refine lv_fadd_any hd0 lw_bits hx hb dX7_take_75 (fun r_13 d_14 ha_15 hd0 => ?_)
      have hts := dr_words hts0 d_14
      have hK := hK0.drawn d_14
      have er_16 : vl r_13 = dAdd (vl up) (dDiv (vl qq) (vl pp)) := al_fadd ha_15 rfl er_12
      refine va_put (D := G.1) (ci := 6) (v := .float r_13) (ty := .float) (C := RX7) (T := TX7) (N := 15) hx hb hts (by decide +kernel) tyX7 tyX7_ok nmX7 hown hK.1 hP hD hS 0 rfl rfl 8 (by decide) (hts (.fieldLink RX7 98 "PriceIndexCalculatorModel" "upper" "F") (by decide +kernel)) (fun _ h9 => h9) rfl (by decide +kernel) rfl rfl (Nat.le_of_ble_eq_true rfl) dX7_take_76 (fun H locs hP hD hS => ?_)
      have hP : va_P G.1 vwCl ([(md 0, .inr (6, [.ref (md 1), .ref (md 2), .int (nI np), .ref (md 3), .int (nI ty), .int (nI aw), .int (bI iw), .ref (md 4), .float r_13, .float lo, .int (nI (su + 1)), .ref (md 5), .ref (md 6), .ref (md 7), .float fo])), (md 1, .inl (G.2 0, 354, .inl a)), (md 2, .inl (G.2 0, 2832, .inl pa)), (md 3, .inl (G.2 3, 60, .inl tb)), (md 4, .inl (G.2 0, 36, .inl qu)), (md 5, .inl (G.2 2, 288, .inr (.inr (.inl kn)))), (md 6, .inl (G.2 1, 288, .inl (fun jj => bI (ik jj)))), (md 7, .inl (G.2 1, 288, .inl (fun jj => bI (im jj))))]) H := hP
      have hD : va_D A ([(md 0, .inr (6, [.ref (md 1), .ref (md 2), .int (nI np), .ref (md 3), .int (nI ty), .int (nI aw), .int (bI iw), .ref (md 4), .float r_13, .float lo, .int (nI (su + 1)), .ref (md 5), .ref (md 6), .ref (md 7), .float fo])), (md 1, .inl (G.2 0, 354, .inl a)), (md 2, .inl (G.2 0, 2832, .inl pa)), (md 3, .inl (G.2 3, 60, .inl tb)), (md 4, .inl (G.2 0, 36, .inl qu)), (md 5, .inl (G.2 2, 288, .inr (.inr (.inl kn)))), (md 6, .inl (G.2 1, 288, .inl (fun jj => bI (ik jj)))), (md 7, .inl (G.2 1, 288, .inl (fun jj => bI (im jj))))]) := hD
      refine lv_goto (tgt := 94) hx hb dX7_take_79 (by decide) ?_
      refine W.endD hd0 ?_
      have hP9 := hP
      exact W.vret hx hb hr (fun t ht hW => ⟨⟨(r_13, lo), rfl, ⟨by unfold tkU; rw [if_neg hf0, if_pos hf1]; exact er_16, by unfold tkL; rw [if_neg hf0, if_pos hf1]⟩, bM_end ht hP9⟩, hS.F ht⟩) hS.2.2 dX7_take_94
    · refine lv_lookup (off := 66) (tgt := 82) hx hb dX7_take_16 (by decide) (lk_def hf0 hf1) (by decide) ?_
      refine lv_aload_n hx hb dX7_take_82 rfl (lv_at hl 0 rfl) ?_
      refine lv_dup hx hb dX7_take_83 rfl ?_
      refine va_get (D := G.1) (ci := 6) (v := .float lo) (C := RX7) (T := TX7) (N := 15) hx hb hts (by decide +kernel) hown hK.1 hP 0 rfl rfl 9 (by decide) (hts (.fieldLink RX7 102 "PriceIndexCalculatorModel" "lower" "F") (by decide +kernel)) (fun _ h9 => h9) rfl dX7_take_84 ?_
      refine lv_fload_n hx hb dX7_take_87 rfl (lv_at hl 1 rfl) ?_
      refine lv_fload_n hx hb dX7_take_88 rfl (lv_at hl 2 rfl) ?_
      refine lv_fdiv_any hd0 lw_bits hx hb dX7_take_89 (fun r_17 d_18 ha_19 hd0 => ?_)
      have hts := dr_words hts0 d_18
      have hK := hK0.drawn d_18
      have er_20 : vl r_17 = dDiv (vl pp) (vl qq) := al_fdiv ha_19 rfl rfl
      refine lv_fadd_any hd0 lw_bits hx hb dX7_take_90 (fun r_21 d_22 ha_23 hd0 => ?_)
      have hts := dr_words hts0 d_22
      have hK := hK0.drawn d_22
      have er_24 : vl r_21 = dAdd (vl lo) (dDiv (vl pp) (vl qq)) := al_fadd ha_23 rfl er_20
      refine va_put (D := G.1) (ci := 6) (v := .float r_21) (ty := .float) (C := RX7) (T := TX7) (N := 15) hx hb hts (by decide +kernel) tyX7 tyX7_ok nmX7 hown hK.1 hP hD hS 0 rfl rfl 9 (by decide) (hts (.fieldLink RX7 102 "PriceIndexCalculatorModel" "lower" "F") (by decide +kernel)) (fun _ h9 => h9) rfl (by decide +kernel) rfl rfl (Nat.le_of_ble_eq_true rfl) dX7_take_91 (fun H locs hP hD hS => ?_)
      have hP : va_P G.1 vwCl ([(md 0, .inr (6, [.ref (md 1), .ref (md 2), .int (nI np), .ref (md 3), .int (nI ty), .int (nI aw), .int (bI iw), .ref (md 4), .float up, .float r_21, .int (nI (su + 1)), .ref (md 5), .ref (md 6), .ref (md 7), .float fo])), (md 1, .inl (G.2 0, 354, .inl a)), (md 2, .inl (G.2 0, 2832, .inl pa)), (md 3, .inl (G.2 3, 60, .inl tb)), (md 4, .inl (G.2 0, 36, .inl qu)), (md 5, .inl (G.2 2, 288, .inr (.inr (.inl kn)))), (md 6, .inl (G.2 1, 288, .inl (fun jj => bI (ik jj)))), (md 7, .inl (G.2 1, 288, .inl (fun jj => bI (im jj))))]) H := hP
      have hD : va_D A ([(md 0, .inr (6, [.ref (md 1), .ref (md 2), .int (nI np), .ref (md 3), .int (nI ty), .int (nI aw), .int (bI iw), .ref (md 4), .float up, .float r_21, .int (nI (su + 1)), .ref (md 5), .ref (md 6), .ref (md 7), .float fo])), (md 1, .inl (G.2 0, 354, .inl a)), (md 2, .inl (G.2 0, 2832, .inl pa)), (md 3, .inl (G.2 3, 60, .inl tb)), (md 4, .inl (G.2 0, 36, .inl qu)), (md 5, .inl (G.2 2, 288, .inr (.inr (.inl kn)))), (md 6, .inl (G.2 1, 288, .inl (fun jj => bI (ik jj)))), (md 7, .inl (G.2 1, 288, .inl (fun jj => bI (im jj))))]) := hD
      refine W.endD hd0 ?_
      have hP9 := hP
      exact W.vret hx hb hr (fun t ht hW => ⟨⟨(up, r_21), rfl, ⟨by unfold tkU; rw [if_neg hf0, if_neg hf1], by unfold tkL; rw [if_neg hf0, if_neg hf1]; exact er_24⟩, bM_end ht hP9⟩, hS.F ht⟩) hS.2.2 dX7_take_94
set_option maxHeartbeats 4000000 in
set_option maxRecDepth 100000 in
/-- Model.result -/
theorem metX7_result (l : Launch) (G : GG) (md : Nat → Nat) (a pa : Nat → Int32) (np : Nat) (tb : Nat → Int32) (ty aw : Nat) (iw : Bool) (qu : Nat → Int32) (up lo : UInt32) (su : Nat) (kn : Nat → UInt32) (ik im : Nat → Bool) (fo : UInt32)  : MetD lw_cs l yX7_result wsX7_result ({ frames := 0, cells := 0, slots := 0, locals := 0 }) (pR G (mcells G md a pa np tb ty aw iw qu up lo su kn ik im fo) [.ref (md 0)]) (vp_Sf (fun r => vl r = rsD (a 4) (vl up) (vl lo) su)) 0 0 (fun _ => False) := by
  refine MetD.ofW (cc := cX7_result) (maxL := 1) (ret := (some .float)) (by decide) rfl ?_
  intro p e s m args below meth c s₁ B hml hv hd0
  obtain ⟨rfl, hK, hP⟩ := hv
  have hx := B.exec
  have hb := B.bytes
  have hr := B.returns
  have hlocks := B.notSynchronized
  have hts0 := atoms_spec (ws := wsX7_result) B.pre
  have hts := dr_words hts0 s.drawn
  have hK0 := hK
  have hK := hK0.drawn s.drawn
  have hown : s.vm.findClass RX7 = some m.cls := findClass_of_methodNamed B.named
  have hl := lv_entry ([.ref (md 0)]) (n := 1) (Nat.le_of_ble_eq_true rfl)
  rw [lg_entry_eq]
  generalize (lg_sl ([.ref (md 0)]) ++ List.replicate (1 - (lg_sl ([.ref (md 0)])).length) Slot.unset).toArray = ls at hl ⊢
  have hl : lv_has ls 1 [(0, .ref (md 0))] := hl
  have hP : va_P G.1 vwCl ([(md 0, .inr (6, [.ref (md 1), .ref (md 2), .int (nI np), .ref (md 3), .int (nI ty), .int (nI aw), .int (bI iw), .ref (md 4), .float up, .float lo, .int (nI su), .ref (md 5), .ref (md 6), .ref (md 7), .float fo])), (md 1, .inl (G.2 0, 354, .inl a)), (md 2, .inl (G.2 0, 2832, .inl pa)), (md 3, .inl (G.2 3, 60, .inl tb)), (md 4, .inl (G.2 0, 36, .inl qu)), (md 5, .inl (G.2 2, 288, .inr (.inr (.inl kn)))), (md 6, .inl (G.2 1, 288, .inl (fun jj => bI (ik jj)))), (md 7, .inl (G.2 1, 288, .inl (fun jj => bI (im jj))))]) s.heap := hP
  refine lv_aload_n hx hb dX7_result_0 rfl (lv_at hl 0 rfl) ?_
  refine va_get (D := G.1) (ci := 6) (v := .ref (md 1)) (C := RX7) (T := TX7) (N := 15) hx hb hts (by decide +kernel) hown hK.1 hP 0 rfl rfl 0 (by decide) (hts (.fieldLink RX7 7 "PriceIndexCalculatorModel" "s" "[I") (by decide +kernel)) (fun _ h9 => h9) rfl dX7_result_1 ?_
  refine lv_iconst (v := nI 4) hx hb dX7_result_4 (by decide) ?_
  refine n_iald hx hb hK.1 hP 1 0 rfl rfl (j := 4) (by omega) (by omega) dX7_result_5 ?_
  refine lv_if_ne (tgt := 21) hx hb dX7_result_6 (by decide) (fun c_1 => ?_) (fun c_1 => ?_)
  · refine lv_aload_n hx hb dX7_result_21 rfl (lv_at hl 0 rfl) ?_
    refine va_get (D := G.1) (ci := 6) (v := .ref (md 1)) (C := RX7) (T := TX7) (N := 15) hx hb hts (by decide +kernel) hown hK.1 hP 0 rfl rfl 0 (by decide) (hts (.fieldLink RX7 7 "PriceIndexCalculatorModel" "s" "[I") (by decide +kernel)) (fun _ h9 => h9) rfl dX7_result_22 ?_
    refine lv_iconst (v := nI 4) hx hb dX7_result_25 (by decide) ?_
    refine n_iald hx hb hK.1 hP 1 0 rfl rfl (j := 4) (by omega) (by omega) dX7_result_26 ?_
    refine lv_iconst (v := nI 1) hx hb dX7_result_27 (by decide) ?_
    refine lv_icmp_ne (tgt := 44) hx hb dX7_result_28 (by decide) (fun c_2 => ?_) (fun c_2 => ?_)
    · refine lv_aload_n hx hb dX7_result_44 rfl (lv_at hl 0 rfl) ?_
      refine va_get (D := G.1) (ci := 6) (v := .int (nI su)) (C := RX7) (T := TX7) (N := 15) hx hb hts (by decide +kernel) hown hK.1 hP 0 rfl rfl 10 (by decide) (hts (.fieldLink RX7 105 "PriceIndexCalculatorModel" "summed" "I") (by decide +kernel)) (fun _ h9 => h9) rfl dX7_result_45 ?_
      refine lv_i2f hx hb dX7_result_48 ?_
      refine lv_aload_n hx hb dX7_result_49 rfl (lv_at hl 0 rfl) ?_
      refine va_get (D := G.1) (ci := 6) (v := .float lo) (C := RX7) (T := TX7) (N := 15) hx hb hts (by decide +kernel) hown hK.1 hP 0 rfl rfl 9 (by decide) (hts (.fieldLink RX7 102 "PriceIndexCalculatorModel" "lower" "F") (by decide +kernel)) (fun _ h9 => h9) rfl dX7_result_50 ?_
      refine lv_fdiv_any hd0 lw_bits hx hb dX7_result_53 (fun r_3 d_4 ha_5 hd0 => ?_)
      have hts := dr_words hts0 d_4
      have hK := hK0.drawn d_4
      have er_6 : vl r_3 = dDiv (vl (FP.i2f (nI su))) (vl lo) := al_fdiv ha_5 rfl rfl
      refine W.endD hd0 ?_
      exact W.fret (v := r_3) hx hb hr (fun t ht hW => ⟨_, rfl, (by unfold rsD; rw [if_neg c_1, if_neg c_2]; exact er_6), ht⟩) (fun q hq => absurd hq List.not_mem_nil) dX7_result_54
    · refine lv_aload_n hx hb dX7_result_31 rfl (lv_at hl 0 rfl) ?_
      refine va_get (D := G.1) (ci := 6) (v := .float up) (C := RX7) (T := TX7) (N := 15) hx hb hts (by decide +kernel) hown hK.1 hP 0 rfl rfl 8 (by decide) (hts (.fieldLink RX7 98 "PriceIndexCalculatorModel" "upper" "F") (by decide +kernel)) (fun _ h9 => h9) rfl dX7_result_32 ?_
      refine lv_aload_n hx hb dX7_result_35 rfl (lv_at hl 0 rfl) ?_
      refine va_get (D := G.1) (ci := 6) (v := .int (nI su)) (C := RX7) (T := TX7) (N := 15) hx hb hts (by decide +kernel) hown hK.1 hP 0 rfl rfl 10 (by decide) (hts (.fieldLink RX7 105 "PriceIndexCalculatorModel" "summed" "I") (by decide +kernel)) (fun _ h9 => h9) rfl dX7_result_36 ?_
      refine lv_i2f hx hb dX7_result_39 ?_
      refine lv_fdiv_any hd0 lw_bits hx hb dX7_result_40 (fun r_7 d_8 ha_9 hd0 => ?_)
      have hts := dr_words hts0 d_8
      have hK := hK0.drawn d_8
      have er_10 : vl r_7 = dDiv (vl up) (vl (FP.i2f (nI su))) := al_fdiv ha_9 rfl rfl
      refine lv_goto (tgt := 54) hx hb dX7_result_41 (by decide) ?_
      refine W.endD hd0 ?_
      exact W.fret (v := r_7) hx hb hr (fun t ht hW => ⟨_, rfl, (by unfold rsD; rw [if_neg c_1, if_pos c_2]; exact er_10), ht⟩) (fun q hq => absurd hq List.not_mem_nil) dX7_result_54
  · refine lv_aload_n hx hb dX7_result_9 rfl (lv_at hl 0 rfl) ?_
    refine va_get (D := G.1) (ci := 6) (v := .float up) (C := RX7) (T := TX7) (N := 15) hx hb hts (by decide +kernel) hown hK.1 hP 0 rfl rfl 8 (by decide) (hts (.fieldLink RX7 98 "PriceIndexCalculatorModel" "upper" "F") (by decide +kernel)) (fun _ h9 => h9) rfl dX7_result_10 ?_
    refine lv_aload_n hx hb dX7_result_13 rfl (lv_at hl 0 rfl) ?_
    refine va_get (D := G.1) (ci := 6) (v := .float lo) (C := RX7) (T := TX7) (N := 15) hx hb hts (by decide +kernel) hown hK.1 hP 0 rfl rfl 9 (by decide) (hts (.fieldLink RX7 102 "PriceIndexCalculatorModel" "lower" "F") (by decide +kernel)) (fun _ h9 => h9) rfl dX7_result_14 ?_
    refine lv_fdiv_any hd0 lw_bits hx hb dX7_result_17 (fun r_11 d_12 ha_13 hd0 => ?_)
    have hts := dr_words hts0 d_12
    have hK := hK0.drawn d_12
    have er_14 : vl r_11 = dDiv (vl up) (vl lo) := al_fdiv ha_13 rfl rfl
    refine lv_goto (tgt := 54) hx hb dX7_result_18 (by decide) ?_
    refine W.endD hd0 ?_
    exact W.fret (v := r_11) hx hb hr (fun t ht hW => ⟨_, rfl, (by unfold rsD; rw [if_pos c_1]; exact er_14), ht⟩) (fun q hq => absurd hq List.not_mem_nil) dX7_result_54
set_option maxHeartbeats 4000000 in
set_option maxRecDepth 100000 in
/-- Model.movement -/
theorem metX7_movement (l : Launch) (G : GG) (md : Nat → Nat) (a pa : Nat → Int32) (np : Nat) (tb : Nat → Int32) (ty aw : Nat) (iw : Bool) (qu : Nat → Int32) (up lo : UInt32) (su : Nat) (kn : Nat → UInt32) (ik im : Nat → Bool) (fo : UInt32) (hA : mWF a) (x : Int32) (fr tt : Nat) (hfr : fr < 24) (htt : tt < 24)  : MetD lw_cs l yX7_movement wsX7_movement ({ frames := 4, cells := 0, slots := 0, locals := 120 }) (pM G (mcells G md a pa np tb ty aw iw qu up lo su kn ik im fo) [.ref (md 0), .int x, .int (nI fr), .int (nI tt)]) (va_Qf (fun r (u : UInt32 × UInt32 × Nat) => vl r = mvD a x fr tt) (bM G (fun (u : UInt32 × UInt32 × Nat) => mcells G md a pa np tb ty aw iw qu u.1 u.2.1 u.2.2 kn ik im fo)) (adr (mcells G md a pa np tb ty aw iw qu up lo su kn ik im fo))) 0 0 (adr (mcells G md a pa np tb ty aw iw qu up lo su kn ik im fo)) := by
  refine MetD.ofW (cc := cX7_movement) (maxL := 5) (ret := (some .float)) (by decide) rfl ?_
  intro p e s m args below meth c s₁ B hml hv hd0
  obtain ⟨rfl, hK, hP, hD0⟩ := hv
  have hx := B.exec
  have hb := B.bytes
  have hr := B.returns
  have hlocks := B.notSynchronized
  have hts0 := atoms_spec (ws := wsX7_movement) B.pre
  have hts := dr_words hts0 s.drawn
  have hK0 := hK
  have hK := hK0.drawn s.drawn
  have hown : s.vm.findClass RX7 = some m.cls := findClass_of_methodNamed B.named
  have hD := hD0.own
  generalize hAe : adr (mcells G md a pa np tb ty aw iw qu up lo su kn ik im fo) = A at hD ⊢
  have hS : va_S A s.heap s.heap [] := va_S.rf
  have hl := lv_entry ([.ref (md 0), .int x, .int (nI fr), .int (nI tt)]) (n := 5) (Nat.le_of_ble_eq_true rfl)
  rw [lg_entry_eq]
  generalize (lg_sl ([.ref (md 0), .int x, .int (nI fr), .int (nI tt)]) ++ List.replicate (5 - (lg_sl ([.ref (md 0), .int x, .int (nI fr), .int (nI tt)])).length) Slot.unset).toArray = ls at hl ⊢
  have hl : lv_has ls 5 [(0, .ref (md 0)), (1, .int x), (2, .int (nI fr)), (3, .int (nI tt))] := hl
  have hP : va_P G.1 vwCl ([(md 0, .inr (6, [.ref (md 1), .ref (md 2), .int (nI np), .ref (md 3), .int (nI ty), .int (nI aw), .int (bI iw), .ref (md 4), .float up, .float lo, .int (nI su), .ref (md 5), .ref (md 6), .ref (md 7), .float fo])), (md 1, .inl (G.2 0, 354, .inl a)), (md 2, .inl (G.2 0, 2832, .inl pa)), (md 3, .inl (G.2 3, 60, .inl tb)), (md 4, .inl (G.2 0, 36, .inl qu)), (md 5, .inl (G.2 2, 288, .inr (.inr (.inl kn)))), (md 6, .inl (G.2 1, 288, .inl (fun jj => bI (ik jj)))), (md 7, .inl (G.2 1, 288, .inl (fun jj => bI (im jj))))]) s.heap := hP
  have hD : va_D A ([(md 0, .inr (6, [.ref (md 1), .ref (md 2), .int (nI np), .ref (md 3), .int (nI ty), .int (nI aw), .int (bI iw), .ref (md 4), .float up, .float lo, .int (nI su), .ref (md 5), .ref (md 6), .ref (md 7), .float fo])), (md 1, .inl (G.2 0, 354, .inl a)), (md 2, .inl (G.2 0, 2832, .inl pa)), (md 3, .inl (G.2 3, 60, .inl tb)), (md 4, .inl (G.2 0, 36, .inl qu)), (md 5, .inl (G.2 2, 288, .inr (.inr (.inl kn)))), (md 6, .inl (G.2 1, 288, .inl (fun jj => bI (ik jj)))), (md 7, .inl (G.2 1, 288, .inl (fun jj => bI (im jj))))]) := hD
  have hit := hA.1.2
  refine lv_aload_n hx hb dX7_movement_0 rfl (lv_at hl 0 rfl) ?_
  refine cw_v (va_runV (As := []) (rest := []) ⟨hx, hb, hml, hown, hts⟩ (metX7_begin l G md a pa np tb ty aw iw qu up lo su kn ik im fo) (cwV 0 hts gX7_movement_X7_begin rfl rfl rfl (by decide +kernel) ⟨Nat.le_of_ble_eq_true rfl, Nat.le_of_ble_eq_true rfl⟩) (pM_V (w := mcells G md a pa np tb ty aw iw qu up lo su kn ik im fo) (q0 := 0) hK hP hD rfl rfl) rfl rfl hl.1 rfl (lv_room (Nat.le_of_ble_eq_true rfl)) dX7_movement_1 ⟨Nat.zero_le _, Nat.zero_le _⟩) hD hS (fun _ => rfl) (fun  u_1 H locs hw_2 hP hD hS => ?_)
  have hP : va_P G.1 vwCl ([(md 0, .inr (6, [.ref (md 1), .ref (md 2), .int (nI np), .ref (md 3), .int (nI ty), .int (nI aw), .int (bI iw), .ref (md 4), .float FP.fconst0, .float FP.fconst0, .int (nI 0), .ref (md 5), .ref (md 6), .ref (md 7), .float fo])), (md 1, .inl (G.2 0, 354, .inl a)), (md 2, .inl (G.2 0, 2832, .inl pa)), (md 3, .inl (G.2 3, 60, .inl tb)), (md 4, .inl (G.2 0, 36, .inl qu)), (md 5, .inl (G.2 2, 288, .inr (.inr (.inl kn)))), (md 6, .inl (G.2 1, 288, .inl (fun jj => bI (ik jj)))), (md 7, .inl (G.2 1, 288, .inl (fun jj => bI (im jj))))]) H := hP
  have hD : va_D A ([(md 0, .inr (6, [.ref (md 1), .ref (md 2), .int (nI np), .ref (md 3), .int (nI ty), .int (nI aw), .int (bI iw), .ref (md 4), .float FP.fconst0, .float FP.fconst0, .int (nI 0), .ref (md 5), .ref (md 6), .ref (md 7), .float fo])), (md 1, .inl (G.2 0, 354, .inl a)), (md 2, .inl (G.2 0, 2832, .inl pa)), (md 3, .inl (G.2 3, 60, .inl tb)), (md 4, .inl (G.2 0, 36, .inl qu)), (md 5, .inl (G.2 2, 288, .inr (.inr (.inl kn)))), (md 6, .inl (G.2 1, 288, .inl (fun jj => bI (ik jj)))), (md 7, .inl (G.2 1, 288, .inl (fun jj => bI (im jj))))]) := hD
  refine lv_iconst (v := nI 0) hx hb dX7_movement_4 (by decide) ?_
  refine lv_istore (lv' := [(4, .int (nI 0)), (0, .ref (md 0)), (1, .int x), (2, .int (nI fr)), (3, .int (nI tt))]) hx hb dX7_movement_5 hl (by decide) rfl (fun ls hl => ?_)
  refine lpD hd0 (S := UInt32 × UInt32 × Nat) (mN a) (fun i u H locs => (acI (acM a x fr tt (i)) u.1 u.2.1 u.2.2) ∧ va_P G.1 vwCl ([(md 0, .inr (6, [.ref (md 1), .ref (md 2), .int (nI np), .ref (md 3), .int (nI ty), .int (nI aw), .int (bI iw), .ref (md 4), .float u.1, .float u.2.1, .int (nI u.2.2), .ref (md 5), .ref (md 6), .ref (md 7), .float fo])), (md 1, .inl (G.2 0, 354, .inl a)), (md 2, .inl (G.2 0, 2832, .inl pa)), (md 3, .inl (G.2 3, 60, .inl tb)), (md 4, .inl (G.2 0, 36, .inl qu)), (md 5, .inl (G.2 2, 288, .inr (.inr (.inl kn)))), (md 6, .inl (G.2 1, 288, .inl (fun jj => bI (ik jj)))), (md 7, .inl (G.2 1, 288, .inl (fun jj => bI (im jj))))]) H ∧ va_D A ([(md 0, .inr (6, [.ref (md 1), .ref (md 2), .int (nI np), .ref (md 3), .int (nI ty), .int (nI aw), .int (bI iw), .ref (md 4), .float u.1, .float u.2.1, .int (nI u.2.2), .ref (md 5), .ref (md 6), .ref (md 7), .float fo])), (md 1, .inl (G.2 0, 354, .inl a)), (md 2, .inl (G.2 0, 2832, .inl pa)), (md 3, .inl (G.2 3, 60, .inl tb)), (md 4, .inl (G.2 0, 36, .inl qu)), (md 5, .inl (G.2 2, 288, .inr (.inr (.inl kn)))), (md 6, .inl (G.2 1, 288, .inl (fun jj => bI (ik jj)))), (md 7, .inl (G.2 1, 288, .inl (fun jj => bI (im jj))))]) ∧ va_S A s.heap H locs) (fun i u => [(0, .ref (md 0)), (1, .int x), (2, .int (nI fr)), (3, .int (nI tt)), (4, .int (nI i))]) (fun u H locs ls d0 hd0 hI0 hl => ?_) (fun i u H locs ls d0 hd0 hi_5 hI0 hl ih_3 => ?_) (0) (FP.fconst0, FP.fconst0, 0) (by omega) ⟨⟨rfl, rfl, rfl⟩, hP, hD, hS⟩ (lv_sub hl [1, 2, 3, 4, 0] rfl)
  · obtain ⟨u3, l3, n3⟩ := u
    obtain ⟨hI_4, hP, hD, hS⟩ := hI0
    try dsimp only at hI_4
    have hl : lv_has ls 5 [(0, .ref (md 0)), (1, .int x), (2, .int (nI fr)), (3, .int (nI tt)), (4, .int (nI (mN a)))] := hl
    have hts := dr_words hts0 d0
    have hK := hK0.drawn d0
    have hP : va_P G.1 vwCl ([(md 0, .inr (6, [.ref (md 1), .ref (md 2), .int (nI np), .ref (md 3), .int (nI ty), .int (nI aw), .int (bI iw), .ref (md 4), .float u3, .float l3, .int (nI n3), .ref (md 5), .ref (md 6), .ref (md 7), .float fo])), (md 1, .inl (G.2 0, 354, .inl a)), (md 2, .inl (G.2 0, 2832, .inl pa)), (md 3, .inl (G.2 3, 60, .inl tb)), (md 4, .inl (G.2 0, 36, .inl qu)), (md 5, .inl (G.2 2, 288, .inr (.inr (.inl kn)))), (md 6, .inl (G.2 1, 288, .inl (fun jj => bI (ik jj)))), (md 7, .inl (G.2 1, 288, .inl (fun jj => bI (im jj))))]) H := hP
    have hD : va_D A ([(md 0, .inr (6, [.ref (md 1), .ref (md 2), .int (nI np), .ref (md 3), .int (nI ty), .int (nI aw), .int (bI iw), .ref (md 4), .float u3, .float l3, .int (nI n3), .ref (md 5), .ref (md 6), .ref (md 7), .float fo])), (md 1, .inl (G.2 0, 354, .inl a)), (md 2, .inl (G.2 0, 2832, .inl pa)), (md 3, .inl (G.2 3, 60, .inl tb)), (md 4, .inl (G.2 0, 36, .inl qu)), (md 5, .inl (G.2 2, 288, .inr (.inr (.inl kn)))), (md 6, .inl (G.2 1, 288, .inl (fun jj => bI (ik jj)))), (md 7, .inl (G.2 1, 288, .inl (fun jj => bI (im jj))))]) := hD
    have hle : n3 ≤ 12 := by rw [hI_4.2.2]; exact Nat.le_trans (acG_le _) (by omega)
    refine lv_iload hx hb dX7_movement_7 (lv_at hl 4 rfl) ?_
    refine lv_aload_n hx hb dX7_movement_9 rfl (lv_at hl 0 rfl) ?_
    refine va_get (D := G.1) (ci := 6) (v := .ref (md 1)) (C := RX7) (T := TX7) (N := 15) hx hb hts (by decide +kernel) hown hK.1 hP 0 rfl rfl 0 (by decide) (hts (.fieldLink RX7 7 "PriceIndexCalculatorModel" "s" "[I") (by decide +kernel)) (fun _ h9 => h9) rfl dX7_movement_10 ?_
    refine lv_iconst (v := nI 5) hx hb dX7_movement_13 (by decide) ?_
    refine n_iald hx hb hK.1 hP 1 0 rfl rfl (j := 5) (by omega) (by omega) dX7_movement_14 ?_
    refine eq_i (y := nI (mN a)) (hA.1.1) ?_
    refine n_icmp_ge (x := mN a) (y := mN a) (tgt := 54) hx hb (by omega) (by omega) dX7_movement_15 (by decide) (fun c_6 => ?_) (fun c_6 => ?_)
    · refine lv_aload_n hx hb dX7_movement_54 rfl (lv_at hl 0 rfl) ?_
      refine va_get (D := G.1) (ci := 6) (v := .int (nI n3)) (C := RX7) (T := TX7) (N := 15) hx hb hts (by decide +kernel) hown hK.1 hP 0 rfl rfl 10 (by decide) (hts (.fieldLink RX7 105 "PriceIndexCalculatorModel" "summed" "I") (by decide +kernel)) (fun _ h9 => h9) rfl dX7_movement_55 ?_
      refine n_if_ne (x := n3) (tgt := 65) hx hb (by omega) dX7_movement_58 (by decide) (fun c_7 => ?_) (fun c_7 => ?_)
      · refine lv_aload_n hx hb dX7_movement_65 rfl (lv_at hl 0 rfl) ?_
        refine crD_f hd0 (va_runV_D (As := []) (rest := []) ⟨hx, hb, hml, hown, hts⟩ (metX7_result l G md a pa np tb ty aw iw qu u3 l3 n3 kn ik im fo) (cwV 0 hts gX7_movement_X7_result rfl rfl rfl (by decide +kernel) ⟨Nat.le_of_ble_eq_true rfl, Nat.le_of_ble_eq_true rfl⟩) (pR_V (w := mcells G md a pa np tb ty aw iw qu u3 l3 n3 kn ik im fo) (q0 := 0) hK hP rfl rfl) rfl rfl hl.1 rfl (lv_room (Nat.le_of_ble_eq_true rfl)) dX7_movement_66 ⟨Nat.zero_le _, Nat.zero_le _⟩) (fun r_9 hr_10 d_8 hd0 => ?_)
        have hts := dr_words hts0 d_8
        have hK := hK0.drawn d_8
        refine W.endD hd0 ?_
        have hP9 := hP
        exact W.fret (v := r_9) hx hb hr (fun t ht hW => ⟨⟨_, (u3, l3, n3), rfl, (by unfold mvD endD; rw [if_neg (by rw [← hI_4.2.2]; omega), ← hI_4.1, ← hI_4.2.1, ← hI_4.2.2]; exact hr_10), bM_end ht hP9⟩, hS.F ht⟩) hS.2.2 dX7_movement_69
      · refine lv_fconst1 hx hb dX7_movement_61 ?_
        refine lv_goto (tgt := 69) hx hb dX7_movement_62 (by decide) ?_
        refine W.endD hd0 ?_
        have hP9 := hP
        exact W.fret (v := FP.fconst1) hx hb hr (fun t ht hW => ⟨⟨_, (u3, l3, n3), rfl, (by unfold mvD endD; rw [if_pos (hI_4.2.2 ▸ c_7)]), bM_end ht hP9⟩, hS.F ht⟩) hS.2.2 dX7_movement_69
    · exact absurd c_6 (by omega)
  · obtain ⟨u3, l3, n3⟩ := u
    obtain ⟨hI_4, hP, hD, hS⟩ := hI0
    try dsimp only at hI_4
    have hl : lv_has ls 5 [(0, .ref (md 0)), (1, .int x), (2, .int (nI fr)), (3, .int (nI tt)), (4, .int (nI i))] := hl
    have hts := dr_words hts0 d0
    have hK := hK0.drawn d0
    have hP : va_P G.1 vwCl ([(md 0, .inr (6, [.ref (md 1), .ref (md 2), .int (nI np), .ref (md 3), .int (nI ty), .int (nI aw), .int (bI iw), .ref (md 4), .float u3, .float l3, .int (nI n3), .ref (md 5), .ref (md 6), .ref (md 7), .float fo])), (md 1, .inl (G.2 0, 354, .inl a)), (md 2, .inl (G.2 0, 2832, .inl pa)), (md 3, .inl (G.2 3, 60, .inl tb)), (md 4, .inl (G.2 0, 36, .inl qu)), (md 5, .inl (G.2 2, 288, .inr (.inr (.inl kn)))), (md 6, .inl (G.2 1, 288, .inl (fun jj => bI (ik jj)))), (md 7, .inl (G.2 1, 288, .inl (fun jj => bI (im jj))))]) H := hP
    have hD : va_D A ([(md 0, .inr (6, [.ref (md 1), .ref (md 2), .int (nI np), .ref (md 3), .int (nI ty), .int (nI aw), .int (bI iw), .ref (md 4), .float u3, .float l3, .int (nI n3), .ref (md 5), .ref (md 6), .ref (md 7), .float fo])), (md 1, .inl (G.2 0, 354, .inl a)), (md 2, .inl (G.2 0, 2832, .inl pa)), (md 3, .inl (G.2 3, 60, .inl tb)), (md 4, .inl (G.2 0, 36, .inl qu)), (md 5, .inl (G.2 2, 288, .inr (.inr (.inl kn)))), (md 6, .inl (G.2 1, 288, .inl (fun jj => bI (ik jj)))), (md 7, .inl (G.2 1, 288, .inl (fun jj => bI (im jj))))]) := hD
    have hle : n3 ≤ 12 := by rw [hI_4.2.2]; exact Nat.le_trans (acG_le _) (by omega)
    refine lv_iload hx hb dX7_movement_7 (lv_at hl 4 rfl) ?_
    refine lv_aload_n hx hb dX7_movement_9 rfl (lv_at hl 0 rfl) ?_
    refine va_get (D := G.1) (ci := 6) (v := .ref (md 1)) (C := RX7) (T := TX7) (N := 15) hx hb hts (by decide +kernel) hown hK.1 hP 0 rfl rfl 0 (by decide) (hts (.fieldLink RX7 7 "PriceIndexCalculatorModel" "s" "[I") (by decide +kernel)) (fun _ h9 => h9) rfl dX7_movement_10 ?_
    refine lv_iconst (v := nI 5) hx hb dX7_movement_13 (by decide) ?_
    refine n_iald hx hb hK.1 hP 1 0 rfl rfl (j := 5) (by omega) (by omega) dX7_movement_14 ?_
    refine eq_i (y := nI (mN a)) (hA.1.1) ?_
    refine n_icmp_ge (x := i) (y := mN a) (tgt := 54) hx hb (by omega) (by omega) dX7_movement_15 (by decide) (fun c_11 => ?_) (fun c_11 => ?_)
    · exact absurd c_11 (by omega)
    · refine lv_aload_n hx hb dX7_movement_18 rfl (lv_at hl 0 rfl) ?_
      refine lv_iload hx hb dX7_movement_19 (lv_at hl 4 rfl) ?_
      refine lv_iload_n hx hb dX7_movement_21 rfl (lv_at hl 1 rfl) ?_
      refine lv_iload_n hx hb dX7_movement_22 rfl (lv_at hl 2 rfl) ?_
      refine lv_iload_n hx hb dX7_movement_23 rfl (lv_at hl 3 rfl) ?_
      refine cr_i (va_runV (As := [.int (nI i), .int x, .int (nI fr), .int (nI tt)]) (rest := []) ⟨hx, hb, hml, hown, hts⟩ (metX7_isMatched l G md [.ref (md 2), .int (nI np), .ref (md 3), .int (nI ty), .int (nI aw), .int (bI iw), .ref (md 4), .float u3, .float l3, .int (nI n3), .ref (md 5), .ref (md 6), .ref (md 7), .float fo] a hA i x fr tt (by omega) (by omega) (by omega)) (cwV 4 hts gX7_movement_X7_isMatched rfl rfl rfl (by decide +kernel) ⟨Nat.le_of_ble_eq_true rfl, Nat.le_of_ble_eq_true rfl⟩) (pR_V (q0 := 0) hK (hP.sub (ws' := scells G md [.ref (md 2), .int (nI np), .ref (md 3), .int (nI ty), .int (nI aw), .int (bI iw), .ref (md 4), .float u3, .float l3, .int (nI n3), .ref (md 5), .ref (md 6), .ref (md 7), .float fo] a) [0, 1] rfl) rfl rfl) rfl rfl hl.1 rfl (lv_room (Nat.le_of_ble_eq_true rfl)) dX7_movement_24 ⟨Nat.zero_le _, Nat.zero_le _⟩) (fun r_12 hr_13 => ?_)
      subst hr_13
      refine nb_if_eq (B := maM a x fr tt i) (tgt := 48) hx hb dX7_movement_27 (by decide) (fun c_14 => ?_) (fun c_14 => ?_)
      · refine lv_iinc (v := nI (i + 1)) (lv' := [(4, .int (nI (i + 1))), (0, .ref (md 0)), (1, .int x), (2, .int (nI fr)), (3, .int (nI tt))]) hx hb dX7_movement_48 hl (k := 4) rfl (by exact nI_add _ _) (by decide) rfl (fun ls hl => ?_)
        refine lv_goto (tgt := 7) hx hb dX7_movement_51 (by decide) ?_
        exact ih_3 (u3, l3, n3) _ _ _ _ hd0 ⟨acI_f hI_4 c_14, hP, hD, hS⟩ (lv_sub hl [1, 2, 3, 4, 0] rfl)
      · refine lv_aload_n hx hb dX7_movement_30 rfl (lv_at hl 0 rfl) ?_
        refine lv_aload_n hx hb dX7_movement_31 rfl (lv_at hl 0 rfl) ?_
        refine lv_iload hx hb dX7_movement_32 (lv_at hl 4 rfl) ?_
        refine lv_iload_n hx hb dX7_movement_34 rfl (lv_at hl 2 rfl) ?_
        refine crD_f hd0 (va_runV_D (As := [.int (nI i), .int (nI fr)]) (rest := [.ref (md 0)]) ⟨hx, hb, hml, hown, hts⟩ (metX7_effective l G md [.ref (md 2), .int (nI np), .ref (md 3), .int (nI ty), .int (nI aw), .int (bI iw), .ref (md 4), .float u3, .float l3, .int (nI n3), .ref (md 5), .ref (md 6), .ref (md 7), .float fo] a hA i fr (by omega) (by omega)) (cwV 2 hts gX7_movement_X7_effective rfl rfl rfl (by decide +kernel) ⟨Nat.le_of_ble_eq_true rfl, Nat.le_of_ble_eq_true rfl⟩) (pR_V (q0 := 0) hK (hP.sub (ws' := scells G md [.ref (md 2), .int (nI np), .ref (md 3), .int (nI ty), .int (nI aw), .int (bI iw), .ref (md 4), .float u3, .float l3, .int (nI n3), .ref (md 5), .ref (md 6), .ref (md 7), .float fo] a) [0, 1] rfl) rfl rfl) rfl rfl hl.1 rfl (lv_room (Nat.le_of_ble_eq_true rfl)) dX7_movement_35 ⟨Nat.zero_le _, Nat.zero_le _⟩) (fun r_16 hr_17 d_15 hd0 => ?_)
        have hts := dr_words hts0 d_15
        have hK := hK0.drawn d_15
        refine lv_aload_n hx hb dX7_movement_38 rfl (lv_at hl 0 rfl) ?_
        refine lv_iload hx hb dX7_movement_39 (lv_at hl 4 rfl) ?_
        refine lv_iload_n hx hb dX7_movement_41 rfl (lv_at hl 3 rfl) ?_
        refine crD_f hd0 (va_runV_D (As := [.int (nI i), .int (nI tt)]) (rest := [.float r_16, .ref (md 0)]) ⟨hx, hb, hml, hown, hts⟩ (metX7_effective l G md [.ref (md 2), .int (nI np), .ref (md 3), .int (nI ty), .int (nI aw), .int (bI iw), .ref (md 4), .float u3, .float l3, .int (nI n3), .ref (md 5), .ref (md 6), .ref (md 7), .float fo] a hA i tt (by omega) (by omega)) (cwV 2 hts gX7_movement_X7_effective rfl rfl rfl (by decide +kernel) ⟨Nat.le_of_ble_eq_true rfl, Nat.le_of_ble_eq_true rfl⟩) (pR_V (q0 := 0) hK (hP.sub (ws' := scells G md [.ref (md 2), .int (nI np), .ref (md 3), .int (nI ty), .int (nI aw), .int (bI iw), .ref (md 4), .float u3, .float l3, .int (nI n3), .ref (md 5), .ref (md 6), .ref (md 7), .float fo] a) [0, 1] rfl) rfl rfl) rfl rfl hl.1 rfl (lv_room (Nat.le_of_ble_eq_true rfl)) dX7_movement_42 ⟨Nat.zero_le _, Nat.zero_le _⟩) (fun r_19 hr_20 d_18 hd0 => ?_)
        have hts := dr_words hts0 d_18
        have hK := hK0.drawn d_18
        refine cwD_v hd0 (va_runV_D (As := [.float r_16, .float r_19]) (rest := []) ⟨hx, hb, hml, hown, hts⟩ (metX7_take l G md a pa np tb ty aw iw qu u3 l3 n3 kn ik im fo r_16 r_19) (cwV 2 hts gX7_movement_X7_take rfl rfl rfl (by decide +kernel) ⟨Nat.le_of_ble_eq_true rfl, Nat.le_of_ble_eq_true rfl⟩) (pM_V (w := mcells G md a pa np tb ty aw iw qu u3 l3 n3 kn ik im fo) (q0 := 0) hK hP hD rfl rfl) rfl rfl hl.1 rfl (lv_room (Nat.le_of_ble_eq_true rfl)) dX7_movement_45 ⟨Nat.zero_le _, Nat.zero_le _⟩) hD hS (fun _ => rfl) (fun  u_23 H locs hw_24 hP hD hS d_22 hd0 => ?_)
        have hts := dr_words hts0 d_22
        have hK := hK0.drawn d_22
        obtain ⟨ua21, la21⟩ := u_23
        try dsimp only at hw_24
        have hP : va_P G.1 vwCl ([(md 0, .inr (6, [.ref (md 1), .ref (md 2), .int (nI np), .ref (md 3), .int (nI ty), .int (nI aw), .int (bI iw), .ref (md 4), .float ua21, .float la21, .int (nI (n3 + 1)), .ref (md 5), .ref (md 6), .ref (md 7), .float fo])), (md 1, .inl (G.2 0, 354, .inl a)), (md 2, .inl (G.2 0, 2832, .inl pa)), (md 3, .inl (G.2 3, 60, .inl tb)), (md 4, .inl (G.2 0, 36, .inl qu)), (md 5, .inl (G.2 2, 288, .inr (.inr (.inl kn)))), (md 6, .inl (G.2 1, 288, .inl (fun jj => bI (ik jj)))), (md 7, .inl (G.2 1, 288, .inl (fun jj => bI (im jj))))]) H := hP
        have hD : va_D A ([(md 0, .inr (6, [.ref (md 1), .ref (md 2), .int (nI np), .ref (md 3), .int (nI ty), .int (nI aw), .int (bI iw), .ref (md 4), .float ua21, .float la21, .int (nI (n3 + 1)), .ref (md 5), .ref (md 6), .ref (md 7), .float fo])), (md 1, .inl (G.2 0, 354, .inl a)), (md 2, .inl (G.2 0, 2832, .inl pa)), (md 3, .inl (G.2 3, 60, .inl tb)), (md 4, .inl (G.2 0, 36, .inl qu)), (md 5, .inl (G.2 2, 288, .inr (.inr (.inl kn)))), (md 6, .inl (G.2 1, 288, .inl (fun jj => bI (ik jj)))), (md 7, .inl (G.2 1, 288, .inl (fun jj => bI (im jj))))]) := hD
        refine lv_iinc (v := nI (i + 1)) (lv' := [(4, .int (nI (i + 1))), (0, .ref (md 0)), (1, .int x), (2, .int (nI fr)), (3, .int (nI tt))]) hx hb dX7_movement_48 hl (k := 4) rfl (by exact nI_add _ _) (by decide) rfl (fun ls hl => ?_)
        refine lv_goto (tgt := 7) hx hb dX7_movement_51 (by decide) ?_
        exact ih_3 (ua21, la21, n3 + 1) _ _ _ _ hd0 ⟨acI_t hI_4 c_14 hr_17 hr_20 hw_24, hP, hD, hS⟩ (lv_sub hl [1, 2, 3, 4, 0] rfl)
