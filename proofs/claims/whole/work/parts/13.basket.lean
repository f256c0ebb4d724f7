set_option maxHeartbeats 4000000 in
set_option maxRecDepth 100000 in
/-- Basket.hasObserved -/
theorem metX0_hasObserved (l : Launch) (G : GG) (ad : Nat → Nat) (b : Nat → Nat → Int32) (k mo : Nat) (hk : k < 12) (hm : mo < 24) : Met l yX0_hasObserved wsX0_hasObserved ({ frames := 1, cells := 0, slots := 0, locals := 30 }) (pR G (bcells G ad b) [.ref (ad 0), .int (nI k), .int (nI mo)]) (vp_Si (fun r => r = bI (hasObs b k mo))) 0 0 (fun _ => False) := by
  refine Met.ofW (cc := cX0_hasObserved) (maxL := 4) (ret := (some .boolean)) (by decide) rfl ?_
  intro p e s m args below meth c s₁ B hml hv
  obtain ⟨rfl, hK, hP⟩ := hv
  have hx := B.exec
  have hb := B.bytes
  have hr := B.returns
  have hlocks := B.notSynchronized
  have hts := atoms_spec (ws := wsX0_hasObserved) B.pre
  have hown : s.vm.findClass RX0 = some m.cls := findClass_of_methodNamed B.named
  have hl := lv_entry ([.ref (ad 0), .int (nI k), .int (nI mo)]) (n := 4) (Nat.le_of_ble_eq_true rfl)
  rw [lg_entry_eq]
  generalize (lg_sl ([.ref (ad 0), .int (nI k), .int (nI mo)]) ++ List.replicate (4 - (lg_sl ([.ref (ad 0), .int (nI k), .int (nI mo)])).length) Slot.unset).toArray = ls at hl ⊢
  have hl : lv_has ls 4 [(0, .ref (ad 0)), (1, .int (nI k)), (2, .int (nI mo))] := hl
  refine lv_aload_n hx hb dX0_hasObserved_0 rfl (lv_at hl 0 rfl) ?_
  refine va_get (D := G.1) (ci := 0) (v := .ref (ad 4)) (C := RX0) (T := TX0) (N := 10) hx hb hts (by decide +kernel) hown hK.1 hP 0 rfl rfl 5 (by decide) (hts (.fieldLink RX0 21 "PriceIndexCalculator$Basket" "seasons" "[I") (by decide +kernel)) (fun _ h9 => h9) rfl dX0_hasObserved_1 ?_
  refine lv_iload_n hx hb dX0_hasObserved_4 rfl (lv_at hl 1 rfl) ?_
  refine n_iald hx hb hK.1 hP 4 0 rfl rfl (j := k) (by omega) (by omega) dX0_hasObserved_5 ?_
  refine lv_iload_n hx hb dX0_hasObserved_6 rfl (lv_at hl 2 rfl) ?_
  refine lv_bipush (v := nI 12) hx hb dX0_hasObserved_7 (by decide) ?_
  refine lv_irem hx hb dX0_hasObserved_9 (by decide) ?_
  refine eq_i (pk_rem (a := mo) (d := 12) (by omega) (by omega) (by omega)) ?_
  refine lv_ishr hx hb dX0_hasObserved_10 ?_
  refine lv_iconst (v := nI 1) hx hb dX0_hasObserved_11 (by decide) ?_
  refine lv_iand hx hb dX0_hasObserved_12 ?_
  refine lv_iconst (v := nI 1) hx hb dX0_hasObserved_13 (by decide) ?_
  refine lv_icmp_ne (tgt := 21) hx hb dX0_hasObserved_14 (by decide) (fun c_1 => ?_) (fun c_1 => ?_)
  · refine lv_iconst (v := nI 0) hx hb dX0_hasObserved_21 (by decide) ?_
    refine lv_istore_n (lv' := [(3, .int (nI 0)), (0, .ref (ad 0)), (1, .int (nI k)), (2, .int (nI mo))]) hx hb dX0_hasObserved_22 rfl hl (by decide) rfl (fun ls hl => ?_)
    refine lv_iload_n hx hb dX0_hasObserved_23 rfl (lv_at hl 0 rfl) ?_
    refine n_if_eq (x := 0) (tgt := 44) hx hb (by omega) dX0_hasObserved_24 (by decide) (fun c_2 => ?_) (fun c_2 => ?_)
    · refine lv_iconst (v := nI 0) hx hb dX0_hasObserved_44 (by decide) ?_
      exact W.zret (v := nI 0) (ty := .boolean) hx hb hr (by rfl) (fun t ht hW => ⟨_, rfl, ((congrArg bI (by simp [hasObs, c_1, c_2] : hasObs b k mo = false)).symm), ht⟩) (fun q hq => absurd hq List.not_mem_nil) dX0_hasObserved_45
    · exact absurd c_2 (by decide)
  · refine lv_iconst (v := nI 1) hx hb dX0_hasObserved_17 (by decide) ?_
    refine lv_goto (tgt := 22) hx hb dX0_hasObserved_18 (by decide) ?_
    refine lv_istore_n (lv' := [(3, .int (nI 1)), (0, .ref (ad 0)), (1, .int (nI k)), (2, .int (nI mo))]) hx hb dX0_hasObserved_22 rfl hl (by decide) rfl (fun ls hl => ?_)
    refine lv_iload_n hx hb dX0_hasObserved_23 rfl (lv_at hl 0 rfl) ?_
    refine n_if_eq (x := 1) (tgt := 44) hx hb (by omega) dX0_hasObserved_24 (by decide) (fun c_3 => ?_) (fun c_3 => ?_)
    · exact absurd c_3 (by decide)
    · refine lv_aload_n hx hb dX0_hasObserved_27 rfl (lv_at hl 1 rfl) ?_
      refine va_get (D := G.1) (ci := 0) (v := .ref (ad 8)) (C := RX0) (T := TX0) (N := 10) hx hb hts (by decide +kernel) hown hK.1 hP 0 rfl rfl 9 (by decide) (hts (.fieldLink RX0 33 "PriceIndexCalculator$Basket" "quoted" "[I") (by decide +kernel)) (fun _ h9 => h9) rfl dX0_hasObserved_28 ?_
      refine lv_iload_n hx hb dX0_hasObserved_31 rfl (lv_at hl 2 rfl) ?_
      refine lv_iload_n hx hb dX0_hasObserved_32 rfl (lv_at hl 3 rfl) ?_
      refine cr_i (va_runSN (As := [.int (nI k), .int (nI mo)]) (rest := [.ref (ad 8)]) ⟨hx, hb, hml, hown, hts⟩ (metX6_cell l G k mo) ⟨va_cnB 2 hts gX0_hasObserved_X6_cell_n57 rfl rfl rfl hK.2.1 (hts (.initialized RX6) (by decide +kernel)) (by decide +kernel) ⟨Nat.le_of_ble_eq_true rfl, Nat.le_of_ble_eq_true rfl⟩, (hts (.static yX6_cell) (by decide +kernel)), trivial⟩ (pR_S hK (va_P_nil _ _ _)) rfl rfl hl.1 rfl (lv_room (Nat.le_of_ble_eq_true rfl)) dX0_hasObserved_33 ⟨Nat.zero_le _, Nat.zero_le _⟩) (fun r_4 hr_5 => ?_)
      subst hr_5
      refine n_iald hx hb hK.1 hP 8 0 rfl rfl (j := k * 24 + mo) (by omega) (by omega) dX0_hasObserved_36 ?_
      refine lv_if_le (tgt := 44) hx hb dX0_hasObserved_37 (by decide) (fun c_6 => ?_) (fun c_6 => ?_)
      · refine lv_iconst (v := nI 0) hx hb dX0_hasObserved_44 (by decide) ?_
        exact W.zret (v := nI 0) (ty := .boolean) hx hb hr (by rfl) (fun t ht hW => ⟨_, rfl, ((congrArg bI (by simp [hasObs, c_1, c_3, c_6] : hasObs b k mo = false)).symm), ht⟩) (fun q hq => absurd hq List.not_mem_nil) dX0_hasObserved_45
      · refine lv_iconst (v := nI 1) hx hb dX0_hasObserved_40 (by decide) ?_
        refine lv_goto (tgt := 45) hx hb dX0_hasObserved_41 (by decide) ?_
        exact W.zret (v := nI 1) (ty := .boolean) hx hb hr (by rfl) (fun t ht hW => ⟨_, rfl, ((congrArg bI (by simp [hasObs, c_1, c_3, c_6] : hasObs b k mo = true)).symm), ht⟩) (fun q hq => absurd hq List.not_mem_nil) dX0_hasObserved_45
set_option maxHeartbeats 4000000 in
set_option maxRecDepth 100000 in
/-- Basket.observed -/
theorem metX0_observed (l : Launch) (G : GG) (ad : Nat → Nat) (b : Nat → Nat → Int32) (hB : bWF b) (k mo : Nat) (hk : k < 12) (hm : mo < 24) : Met l yX0_observed wsX0_observed ({ frames := 2, cells := 0, slots := 0, locals := 60 }) (pR G (bcells G ad b) [.ref (ad 0), .int (nI k), .int (nI mo)]) (vp_Sf (fun r => r = obsP b k mo)) 0 0 (fun _ => False) := by
  refine Met.ofW (cc := cX0_observed) (maxL := 3) (ret := (some .float)) (by decide) rfl ?_
  intro p e s m args below meth c s₁ B hml hv
  obtain ⟨rfl, hK, hP⟩ := hv
  have hx := B.exec
  have hb := B.bytes
  have hr := B.returns
  have hlocks := B.notSynchronized
  have hts := atoms_spec (ws := wsX0_observed) B.pre
  have hown : s.vm.findClass RX0 = some m.cls := findClass_of_methodNamed B.named
  have hl := lv_entry ([.ref (ad 0), .int (nI k), .int (nI mo)]) (n := 3) (Nat.le_of_ble_eq_true rfl)
  rw [lg_entry_eq]
  generalize (lg_sl ([.ref (ad 0), .int (nI k), .int (nI mo)]) ++ List.replicate (3 - (lg_sl ([.ref (ad 0), .int (nI k), .int (nI mo)])).length) Slot.unset).toArray = ls at hl ⊢
  have hl : lv_has ls 3 [(0, .ref (ad 0)), (1, .int (nI k)), (2, .int (nI mo))] := hl
  refine lv_aload_n hx hb dX0_observed_0 rfl (lv_at hl 0 rfl) ?_
  refine va_get (D := G.1) (ci := 0) (v := .ref (ad 8)) (C := RX0) (T := TX0) (N := 10) hx hb hts (by decide +kernel) hown hK.1 hP 0 rfl rfl 9 (by decide) (hts (.fieldLink RX0 33 "PriceIndexCalculator$Basket" "quoted" "[I") (by decide +kernel)) (fun _ h9 => h9) rfl dX0_observed_1 ?_
  refine lv_iload_n hx hb dX0_observed_4 rfl (lv_at hl 1 rfl) ?_
  refine lv_iload_n hx hb dX0_observed_5 rfl (lv_at hl 2 rfl) ?_
  refine cr_i (va_runSN (As := [.int (nI k), .int (nI mo)]) (rest := [.ref (ad 8)]) ⟨hx, hb, hml, hown, hts⟩ (metX6_cell l G k mo) ⟨va_cnB 2 hts gX0_observed_X6_cell_n57 rfl rfl rfl hK.2.1 (hts (.initialized RX6) (by decide +kernel)) (by decide +kernel) ⟨Nat.le_of_ble_eq_true rfl, Nat.le_of_ble_eq_true rfl⟩, (hts (.static yX6_cell) (by decide +kernel)), trivial⟩ (pR_S hK (va_P_nil _ _ _)) rfl rfl hl.1 rfl (lv_room (Nat.le_of_ble_eq_true rfl)) dX0_observed_6 ⟨Nat.zero_le _, Nat.zero_le _⟩) (fun r_1 hr_2 => ?_)
  subst hr_2
  refine n_iald hx hb hK.1 hP 8 0 rfl rfl (j := k * 24 + mo) (by omega) (by omega) dX0_observed_9 ?_
  refine lv_i2f hx hb dX0_observed_10 ?_
  refine lv_aload_n hx hb dX0_observed_11 rfl (lv_at hl 0 rfl) ?_
  refine va_get (D := G.1) (ci := 0) (v := .ref (ad 3)) (C := RX0) (T := TX0) (N := 10) hx hb hts (by decide +kernel) hown hK.1 hP 0 rfl rfl 4 (by decide) (hts (.fieldLink RX0 18 "PriceIndexCalculator$Basket" "size" "[I") (by decide +kernel)) (fun _ h9 => h9) rfl dX0_observed_12 ?_
  refine lv_iload_n hx hb dX0_observed_15 rfl (lv_at hl 1 rfl) ?_
  refine n_iald hx hb hK.1 hP 3 0 rfl rfl (j := k) (by omega) (by omega) dX0_observed_16 ?_
  refine lv_i2f hx hb dX0_observed_17 ?_
  refine cr_f (va_runS (As := [.float (FP.i2f (b 8 (k * 24 + mo))), .float (FP.i2f (b 3 k))]) (rest := []) ⟨hx, hb, hml, hown, hts⟩ (metX5_over l G (FP.i2f (b 8 (k * 24 + mo))) (FP.i2f (b 3 k)) (ok_i2f (hB.2.1 _ (by omega))) (ok_i2f (hB.2.2.1 _ hk))) (va_cwS 2 hts gX0_observed_X5_over rfl rfl rfl (by decide +kernel) ⟨Nat.le_of_ble_eq_true rfl, Nat.le_of_ble_eq_true rfl⟩) (pR_S hK (va_P_nil _ _ _)) rfl rfl hl.1 rfl (lv_room (Nat.le_of_ble_eq_true rfl)) dX0_observed_18 ⟨Nat.zero_le _, Nat.zero_le _⟩) (fun r_3 hr_4 => ?_)
  subst hr_4
  exact W.fret (v := cOver (FP.i2f (b 8 (k * 24 + mo))) (FP.i2f (b 3 k))) hx hb hr (fun t ht hW => ⟨_, rfl, rfl, ht⟩) (fun q hq => absurd hq List.not_mem_nil) dX0_observed_21
set_option maxHeartbeats 4000000 in
set_option maxRecDepth 100000 in
/-- Basket.isLinked -/
theorem metX0_isLinked (l : Launch) (G : GG) (ad : Nat → Nat) (b : Nat → Nat → Int32) (k : Nat) (hk : k < 12) : Met l yX0_isLinked wsX0_isLinked ({ frames := 0, cells := 0, slots := 0, locals := 0 }) (pR G (bcells G ad b) [.ref (ad 0), .int (nI k)]) (vp_Si (fun r => r = bI (isLnk b k))) 0 0 (fun _ => False) := by
  refine Met.ofW (cc := cX0_isLinked) (maxL := 2) (ret := (some .boolean)) (by decide) rfl ?_
  intro p e s m args below meth c s₁ B hml hv
  obtain ⟨rfl, hK, hP⟩ := hv
  have hx := B.exec
  have hb := B.bytes
  have hr := B.returns
  have hlocks := B.notSynchronized
  have hts := atoms_spec (ws := wsX0_isLinked) B.pre
  have hown : s.vm.findClass RX0 = some m.cls := findClass_of_methodNamed B.named
  have hl := lv_entry ([.ref (ad 0), .int (nI k)]) (n := 2) (Nat.le_of_ble_eq_true rfl)
  rw [lg_entry_eq]
  generalize (lg_sl ([.ref (ad 0), .int (nI k)]) ++ List.replicate (2 - (lg_sl ([.ref (ad 0), .int (nI k)])).length) Slot.unset).toArray = ls at hl ⊢
  have hl : lv_has ls 2 [(0, .ref (ad 0)), (1, .int (nI k))] := hl
  refine lv_aload_n hx hb dX0_isLinked_0 rfl (lv_at hl 0 rfl) ?_
  refine va_get (D := G.1) (ci := 0) (v := .ref (ad 5)) (C := RX0) (T := TX0) (N := 10) hx hb hts (by decide +kernel) hown hK.1 hP 0 rfl rfl 6 (by decide) (hts (.fieldLink RX0 24 "PriceIndexCalculator$Basket" "newItemOf" "[I") (by decide +kernel)) (fun _ h9 => h9) rfl dX0_isLinked_1 ?_
  refine lv_iload_n hx hb dX0_isLinked_4 rfl (lv_at hl 1 rfl) ?_
  refine n_iald hx hb hK.1 hP 5 0 rfl rfl (j := k) (by omega) (by omega) dX0_isLinked_5 ?_
  refine lv_iconst (v := (-1)) hx hb dX0_isLinked_6 (by decide) ?_
  refine lv_icmp_ne (tgt := 20) hx hb dX0_isLinked_7 (by decide) (fun c_1 => ?_) (fun c_1 => ?_)
  · refine lv_iconst (v := nI 1) hx hb dX0_isLinked_20 (by decide) ?_
    refine lv_goto (tgt := 25) hx hb dX0_isLinked_21 (by decide) ?_
    exact W.zret (v := nI 1) (ty := .boolean) hx hb hr (by rfl) (fun t ht hW => ⟨_, rfl, ((congrArg bI (by simp [isLnk, c_1] : isLnk b k = true)).symm), ht⟩) (fun q hq => absurd hq List.not_mem_nil) dX0_isLinked_25
  · refine lv_aload_n hx hb dX0_isLinked_10 rfl (lv_at hl 0 rfl) ?_
    refine va_get (D := G.1) (ci := 0) (v := .ref (ad 6)) (C := RX0) (T := TX0) (N := 10) hx hb hts (by decide +kernel) hown hK.1 hP 0 rfl rfl 7 (by decide) (hts (.fieldLink RX0 27 "PriceIndexCalculator$Basket" "oldItemOf" "[I") (by decide +kernel)) (fun _ h9 => h9) rfl dX0_isLinked_11 ?_
    refine lv_iload_n hx hb dX0_isLinked_14 rfl (lv_at hl 1 rfl) ?_
    refine n_iald hx hb hK.1 hP 6 0 rfl rfl (j := k) (by omega) (by omega) dX0_isLinked_15 ?_
    refine lv_iconst (v := (-1)) hx hb dX0_isLinked_16 (by decide) ?_
    refine lv_icmp_eq (tgt := 24) hx hb dX0_isLinked_17 (by decide) (fun c_2 => ?_) (fun c_2 => ?_)
    · refine lv_iconst (v := nI 0) hx hb dX0_isLinked_24 (by decide) ?_
      exact W.zret (v := nI 0) (ty := .boolean) hx hb hr (by rfl) (fun t ht hW => ⟨_, rfl, ((congrArg bI (by simp [isLnk, c_1, c_2] : isLnk b k = false)).symm), ht⟩) (fun q hq => absurd hq List.not_mem_nil) dX0_isLinked_25
    · refine lv_iconst (v := nI 1) hx hb dX0_isLinked_20 (by decide) ?_
      refine lv_goto (tgt := 25) hx hb dX0_isLinked_21 (by decide) ?_
      exact W.zret (v := nI 1) (ty := .boolean) hx hb hr (by rfl) (fun t ht hW => ⟨_, rfl, ((congrArg bI (by simp [isLnk, c_1, c_2] : isLnk b k = true)).symm), ht⟩) (fun q hq => absurd hq List.not_mem_nil) dX0_isLinked_25
set_option maxHeartbeats 4000000 in
set_option maxRecDepth 100000 in
/-- Basket.canLink -/
theorem metX0_canLink (l : Launch) (G : GG) (ad : Nat → Nat) (b : Nat → Nat → Int32) (k j mo : Nat) (hk : k < 12) (hj : j < 12) (hm : mo < 24) : Met l yX0_canLink wsX0_canLink ({ frames := 2, cells := 0, slots := 0, locals := 60 }) (pR G (bcells G ad b) [.ref (ad 0), .int (nI k), .int (nI j), .int (nI mo)]) (vp_Si (fun r => r = bI (canL b k j mo))) 0 0 (fun _ => False) := by
  refine Met.ofW (cc := cX0_canLink) (maxL := 4) (ret := (some .boolean)) (by decide) rfl ?_
  intro p e s m args below meth c s₁ B hml hv
  obtain ⟨rfl, hK, hP⟩ := hv
  have hx := B.exec
  have hb := B.bytes
  have hr := B.returns
  have hlocks := B.notSynchronized
  have hts := atoms_spec (ws := wsX0_canLink) B.pre
  have hown : s.vm.findClass RX0 = some m.cls := findClass_of_methodNamed B.named
  have hl := lv_entry ([.ref (ad 0), .int (nI k), .int (nI j), .int (nI mo)]) (n := 4) (Nat.le_of_ble_eq_true rfl)
  rw [lg_entry_eq]
  generalize (lg_sl ([.ref (ad 0), .int (nI k), .int (nI j), .int (nI mo)]) ++ List.replicate (4 - (lg_sl ([.ref (ad 0), .int (nI k), .int (nI j), .int (nI mo)])).length) Slot.unset).toArray = ls at hl ⊢
  have hl : lv_has ls 4 [(0, .ref (ad 0)), (1, .int (nI k)), (2, .int (nI j)), (3, .int (nI mo))] := hl
  refine lv_aload_n hx hb dX0_canLink_0 rfl (lv_at hl 0 rfl) ?_
  refine va_get (D := G.1) (ci := 0) (v := .ref (ad 2)) (C := RX0) (T := TX0) (N := 10) hx hb hts (by decide +kernel) hown hK.1 hP 0 rfl rfl 3 (by decide) (hts (.fieldLink RX0 15 "PriceIndexCalculator$Basket" "stratum" "[I") (by decide +kernel)) (fun _ h9 => h9) rfl dX0_canLink_1 ?_
  refine lv_iload_n hx hb dX0_canLink_4 rfl (lv_at hl 1 rfl) ?_
  refine n_iald hx hb hK.1 hP 2 0 rfl rfl (j := k) (by omega) (by omega) dX0_canLink_5 ?_
  refine lv_aload_n hx hb dX0_canLink_6 rfl (lv_at hl 0 rfl) ?_
  refine va_get (D := G.1) (ci := 0) (v := .ref (ad 2)) (C := RX0) (T := TX0) (N := 10) hx hb hts (by decide +kernel) hown hK.1 hP 0 rfl rfl 3 (by decide) (hts (.fieldLink RX0 15 "PriceIndexCalculator$Basket" "stratum" "[I") (by decide +kernel)) (fun _ h9 => h9) rfl dX0_canLink_7 ?_
  refine lv_iload_n hx hb dX0_canLink_10 rfl (lv_at hl 2 rfl) ?_
  refine n_iald hx hb hK.1 hP 2 0 rfl rfl (j := j) (by omega) (by omega) dX0_canLink_11 ?_
  refine lv_icmp_ne (tgt := 53) hx hb dX0_canLink_12 (by decide) (fun c_1 => ?_) (fun c_1 => ?_)
  · refine lv_iconst (v := nI 0) hx hb dX0_canLink_53 (by decide) ?_
    exact W.zret (v := nI 0) (ty := .boolean) hx hb hr (by rfl) (fun t ht hW => ⟨_, rfl, ((congrArg bI (by simp [canL, c_1] : canL b k j mo = false)).symm), ht⟩) (fun q hq => absurd hq List.not_mem_nil) dX0_canLink_54
  · refine lv_aload_n hx hb dX0_canLink_15 rfl (lv_at hl 0 rfl) ?_
    refine lv_iload_n hx hb dX0_canLink_16 rfl (lv_at hl 1 rfl) ?_
    refine cr_i (va_runV (As := [.int (nI k)]) (rest := []) ⟨hx, hb, hml, hown, hts⟩ (metX0_isLinked l G ad b  k (by omega)) (cwV 1 hts gX0_canLink_X0_isLinked rfl rfl rfl (by decide +kernel) ⟨Nat.le_of_ble_eq_true rfl, Nat.le_of_ble_eq_true rfl⟩) (pR_V (q0 := 0) hK hP rfl rfl) rfl rfl hl.1 rfl (lv_room (Nat.le_of_ble_eq_true rfl)) dX0_canLink_17 ⟨Nat.zero_le _, Nat.zero_le _⟩) (fun r_2 hr_3 => ?_)
    subst hr_3
    refine nb_if_ne (B := isLnk b k) (tgt := 53) hx hb dX0_canLink_20 (by decide) (fun c_4 => ?_) (fun c_4 => ?_)
    · refine lv_iconst (v := nI 0) hx hb dX0_canLink_53 (by decide) ?_
      exact W.zret (v := nI 0) (ty := .boolean) hx hb hr (by rfl) (fun t ht hW => ⟨_, rfl, ((congrArg bI (by simp [canL, c_1, c_4] : canL b k j mo = false)).symm), ht⟩) (fun q hq => absurd hq List.not_mem_nil) dX0_canLink_54
    · refine lv_aload_n hx hb dX0_canLink_23 rfl (lv_at hl 0 rfl) ?_
      refine lv_iload_n hx hb dX0_canLink_24 rfl (lv_at hl 2 rfl) ?_
      refine cr_i (va_runV (As := [.int (nI j)]) (rest := []) ⟨hx, hb, hml, hown, hts⟩ (metX0_isLinked l G ad b  j (by omega)) (cwV 1 hts gX0_canLink_X0_isLinked rfl rfl rfl (by decide +kernel) ⟨Nat.le_of_ble_eq_true rfl, Nat.le_of_ble_eq_true rfl⟩) (pR_V (q0 := 0) hK hP rfl rfl) rfl rfl hl.1 rfl (lv_room (Nat.le_of_ble_eq_true rfl)) dX0_canLink_25 ⟨Nat.zero_le _, Nat.zero_le _⟩) (fun r_5 hr_6 => ?_)
      subst hr_6
      refine nb_if_ne (B := isLnk b j) (tgt := 53) hx hb dX0_canLink_28 (by decide) (fun c_7 => ?_) (fun c_7 => ?_)
      · refine lv_iconst (v := nI 0) hx hb dX0_canLink_53 (by decide) ?_
        exact W.zret (v := nI 0) (ty := .boolean) hx hb hr (by rfl) (fun t ht hW => ⟨_, rfl, ((congrArg bI (by simp [canL, c_1, c_4, c_7] : canL b k j mo = false)).symm), ht⟩) (fun q hq => absurd hq List.not_mem_nil) dX0_canLink_54
      · refine lv_aload_n hx hb dX0_canLink_31 rfl (lv_at hl 0 rfl) ?_
        refine lv_iload_n hx hb dX0_canLink_32 rfl (lv_at hl 1 rfl) ?_
        refine lv_iload_n hx hb dX0_canLink_33 rfl (lv_at hl 3 rfl) ?_
        refine cr_i (va_runV (As := [.int (nI k), .int (nI mo)]) (rest := []) ⟨hx, hb, hml, hown, hts⟩ (metX0_hasObserved l G ad b  k mo (by omega) (by omega)) (cwV 2 hts gX0_canLink_X0_hasObserved rfl rfl rfl (by decide +kernel) ⟨Nat.le_of_ble_eq_true rfl, Nat.le_of_ble_eq_true rfl⟩) (pR_V (q0 := 0) hK hP rfl rfl) rfl rfl hl.1 rfl (lv_room (Nat.le_of_ble_eq_true rfl)) dX0_canLink_34 ⟨Nat.zero_le _, Nat.zero_le _⟩) (fun r_8 hr_9 => ?_)
        subst hr_9
        refine nb_if_eq (B := hasObs b k mo) (tgt := 53) hx hb dX0_canLink_37 (by decide) (fun c_10 => ?_) (fun c_10 => ?_)
        · refine lv_iconst (v := nI 0) hx hb dX0_canLink_53 (by decide) ?_
          exact W.zret (v := nI 0) (ty := .boolean) hx hb hr (by rfl) (fun t ht hW => ⟨_, rfl, ((congrArg bI (by simp [canL, c_1, c_4, c_7, c_10] : canL b k j mo = false)).symm), ht⟩) (fun q hq => absurd hq List.not_mem_nil) dX0_canLink_54
        · refine lv_aload_n hx hb dX0_canLink_40 rfl (lv_at hl 0 rfl) ?_
          refine lv_iload_n hx hb dX0_canLink_41 rfl (lv_at hl 2 rfl) ?_
          refine lv_iload_n hx hb dX0_canLink_42 rfl (lv_at hl 3 rfl) ?_
          refine cr_i (va_runV (As := [.int (nI j), .int (nI mo)]) (rest := []) ⟨hx, hb, hml, hown, hts⟩ (metX0_hasObserved l G ad b  j mo (by omega) (by omega)) (cwV 2 hts gX0_canLink_X0_hasObserved rfl rfl rfl (by decide +kernel) ⟨Nat.le_of_ble_eq_true rfl, Nat.le_of_ble_eq_true rfl⟩) (pR_V (q0 := 0) hK hP rfl rfl) rfl rfl hl.1 rfl (lv_room (Nat.le_of_ble_eq_true rfl)) dX0_canLink_43 ⟨Nat.zero_le _, Nat.zero_le _⟩) (fun r_11 hr_12 => ?_)
          subst hr_12
          refine nb_if_eq (B := hasObs b j mo) (tgt := 53) hx hb dX0_canLink_46 (by decide) (fun c_13 => ?_) (fun c_13 => ?_)
          · refine lv_iconst (v := nI 0) hx hb dX0_canLink_53 (by decide) ?_
            exact W.zret (v := nI 0) (ty := .boolean) hx hb hr (by rfl) (fun t ht hW => ⟨_, rfl, ((congrArg bI (by simp [canL, c_1, c_4, c_7, c_10, c_13] : canL b k j mo = false)).symm), ht⟩) (fun q hq => absurd hq List.not_mem_nil) dX0_canLink_54
          · refine lv_iconst (v := nI 1) hx hb dX0_canLink_49 (by decide) ?_
            refine lv_goto (tgt := 54) hx hb dX0_canLink_50 (by decide) ?_
            exact W.zret (v := nI 1) (ty := .boolean) hx hb hr (by rfl) (fun t ht hW => ⟨_, rfl, ((congrArg bI (by simp [canL, c_1, c_4, c_7, c_10, c_13] : canL b k j mo = true)).symm), ht⟩) (fun q hq => absurd hq List.not_mem_nil) dX0_canLink_54
set_option maxHeartbeats 4000000 in
set_option maxRecDepth 100000 in
/-- Basket.isPricedByNewItem -/
theorem metX0_isPricedByNewItem (l : Launch) (G : GG) (ad : Nat → Nat) (b : Nat → Nat → Int32) (k mo : Nat) (hk : k < 12) : Met l yX0_isPricedByNewItem wsX0_isPricedByNewItem ({ frames := 0, cells := 0, slots := 0, locals := 0 }) (pR G (bcells G ad b) [.ref (ad 0), .int (nI k), .int (nI mo)]) (vp_Si (fun r => r = bI (isPNI b k mo))) 0 0 (fun _ => False) := by
  refine Met.ofW (cc := cX0_isPricedByNewItem) (maxL := 3) (ret := (some .boolean)) (by decide) rfl ?_
  intro p e s m args below meth c s₁ B hml hv
  obtain ⟨rfl, hK, hP⟩ := hv
  have hx := B.exec
  have hb := B.bytes
  have hr := B.returns
  have hlocks := B.notSynchronized
  have hts := atoms_spec (ws := wsX0_isPricedByNewItem) B.pre
  have hown : s.vm.findClass RX0 = some m.cls := findClass_of_methodNamed B.named
  have hl := lv_entry ([.ref (ad 0), .int (nI k), .int (nI mo)]) (n := 3) (Nat.le_of_ble_eq_true rfl)
  rw [lg_entry_eq]
  generalize (lg_sl ([.ref (ad 0), .int (nI k), .int (nI mo)]) ++ List.replicate (3 - (lg_sl ([.ref (ad 0), .int (nI k), .int (nI mo)])).length) Slot.unset).toArray = ls at hl ⊢
  have hl : lv_has ls 3 [(0, .ref (ad 0)), (1, .int (nI k)), (2, .int (nI mo))] := hl
  refine lv_aload_n hx hb dX0_isPricedByNewItem_0 rfl (lv_at hl 0 rfl) ?_
  refine va_get (D := G.1) (ci := 0) (v := .ref (ad 5)) (C := RX0) (T := TX0) (N := 10) hx hb hts (by decide +kernel) hown hK.1 hP 0 rfl rfl 6 (by decide) (hts (.fieldLink RX0 24 "PriceIndexCalculator$Basket" "newItemOf" "[I") (by decide +kernel)) (fun _ h9 => h9) rfl dX0_isPricedByNewItem_1 ?_
  refine lv_iload_n hx hb dX0_isPricedByNewItem_4 rfl (lv_at hl 1 rfl) ?_
  refine n_iald hx hb hK.1 hP 5 0 rfl rfl (j := k) (by omega) (by omega) dX0_isPricedByNewItem_5 ?_
  refine lv_iconst (v := (-1)) hx hb dX0_isPricedByNewItem_6 (by decide) ?_
  refine lv_icmp_eq (tgt := 24) hx hb dX0_isPricedByNewItem_7 (by decide) (fun c_1 => ?_) (fun c_1 => ?_)
  · refine lv_iconst (v := nI 0) hx hb dX0_isPricedByNewItem_24 (by decide) ?_
    exact W.zret (v := nI 0) (ty := .boolean) hx hb hr (by rfl) (fun t ht hW => ⟨_, rfl, ((congrArg bI (by simp [isPNI, c_1] : isPNI b k mo = false)).symm), ht⟩) (fun q hq => absurd hq List.not_mem_nil) dX0_isPricedByNewItem_25
  · refine lv_iload_n hx hb dX0_isPricedByNewItem_10 rfl (lv_at hl 2 rfl) ?_
    refine lv_aload_n hx hb dX0_isPricedByNewItem_11 rfl (lv_at hl 0 rfl) ?_
    refine va_get (D := G.1) (ci := 0) (v := .ref (ad 7)) (C := RX0) (T := TX0) (N := 10) hx hb hts (by decide +kernel) hown hK.1 hP 0 rfl rfl 8 (by decide) (hts (.fieldLink RX0 30 "PriceIndexCalculator$Basket" "overlap" "[I") (by decide +kernel)) (fun _ h9 => h9) rfl dX0_isPricedByNewItem_12 ?_
    refine lv_iload_n hx hb dX0_isPricedByNewItem_15 rfl (lv_at hl 1 rfl) ?_
    refine n_iald hx hb hK.1 hP 7 0 rfl rfl (j := k) (by omega) (by omega) dX0_isPricedByNewItem_16 ?_
    refine lv_icmp_le (tgt := 24) hx hb dX0_isPricedByNewItem_17 (by decide) (fun c_2 => ?_) (fun c_2 => ?_)
    · refine lv_iconst (v := nI 0) hx hb dX0_isPricedByNewItem_24 (by decide) ?_
      exact W.zret (v := nI 0) (ty := .boolean) hx hb hr (by rfl) (fun t ht hW => ⟨_, rfl, ((congrArg bI (by simp [isPNI, c_1, c_2] : isPNI b k mo = false)).symm), ht⟩) (fun q hq => absurd hq List.not_mem_nil) dX0_isPricedByNewItem_25
    · refine lv_iconst (v := nI 1) hx hb dX0_isPricedByNewItem_20 (by decide) ?_
      refine lv_goto (tgt := 25) hx hb dX0_isPricedByNewItem_21 (by decide) ?_
      exact W.zret (v := nI 1) (ty := .boolean) hx hb hr (by rfl) (fun t ht hW => ⟨_, rfl, ((congrArg bI (by simp [isPNI, c_1, c_2] : isPNI b k mo = true)).symm), ht⟩) (fun q hq => absurd hq List.not_mem_nil) dX0_isPricedByNewItem_25
set_option maxHeartbeats 4000000 in
set_option maxRecDepth 100000 in
/-- Basket.hasEffective -/
theorem metX0_hasEffective (l : Launch) (G : GG) (ad : Nat → Nat) (b : Nat → Nat → Int32) (hB : bWF b) (k mo : Nat) (hk : k < 12) (hm : mo < 24) : Met l yX0_hasEffective wsX0_hasEffective ({ frames := 2, cells := 0, slots := 0, locals := 60 }) (pR G (bcells G ad b) [.ref (ad 0), .int (nI k), .int (nI mo)]) (vp_Si (fun r => r = bI (hasEff b k mo))) 0 0 (fun _ => False) := by
  refine Met.ofW (cc := cX0_hasEffective) (maxL := 4) (ret := (some .boolean)) (by decide) rfl ?_
  intro p e s m args below meth c s₁ B hml hv
  obtain ⟨rfl, hK, hP⟩ := hv
  have hx := B.exec
  have hb := B.bytes
  have hr := B.returns
  have hlocks := B.notSynchronized
  have hts := atoms_spec (ws := wsX0_hasEffective) B.pre
  have hown : s.vm.findClass RX0 = some m.cls := findClass_of_methodNamed B.named
  have hl := lv_entry ([.ref (ad 0), .int (nI k), .int (nI mo)]) (n := 4) (Nat.le_of_ble_eq_true rfl)
  rw [lg_entry_eq]
  generalize (lg_sl ([.ref (ad 0), .int (nI k), .int (nI mo)]) ++ List.replicate (4 - (lg_sl ([.ref (ad 0), .int (nI k), .int (nI mo)])).length) Slot.unset).toArray = ls at hl ⊢
  have hl : lv_has ls 4 [(0, .ref (ad 0)), (1, .int (nI k)), (2, .int (nI mo))] := hl
  refine lv_aload_n hx hb dX0_hasEffective_0 rfl (lv_at hl 0 rfl) ?_
  refine va_get (D := G.1) (ci := 0) (v := .ref (ad 6)) (C := RX0) (T := TX0) (N := 10) hx hb hts (by decide +kernel) hown hK.1 hP 0 rfl rfl 7 (by decide) (hts (.fieldLink RX0 27 "PriceIndexCalculator$Basket" "oldItemOf" "[I") (by decide +kernel)) (fun _ h9 => h9) rfl dX0_hasEffective_1 ?_
  refine lv_iload_n hx hb dX0_hasEffective_4 rfl (lv_at hl 1 rfl) ?_
  refine n_iald hx hb hK.1 hP 6 0 rfl rfl (j := k) (by omega) (by omega) dX0_hasEffective_5 ?_
  refine lv_iconst (v := (-1)) hx hb dX0_hasEffective_6 (by decide) ?_
  refine lv_icmp_eq (tgt := 12) hx hb dX0_hasEffective_7 (by decide) (fun c_1 => ?_) (fun c_1 => ?_)
  · refine lv_aload_n hx hb dX0_hasEffective_12 rfl (lv_at hl 0 rfl) ?_
    refine lv_iload_n hx hb dX0_hasEffective_13 rfl (lv_at hl 1 rfl) ?_
    refine lv_iload_n hx hb dX0_hasEffective_14 rfl (lv_at hl 2 rfl) ?_
    refine cr_i (va_runV (As := [.int (nI k), .int (nI mo)]) (rest := []) ⟨hx, hb, hml, hown, hts⟩ (metX0_isPricedByNewItem l G ad b  k mo (by omega)) (cwV 2 hts gX0_hasEffective_X0_isPricedByNewItem rfl rfl rfl (by decide +kernel) ⟨Nat.le_of_ble_eq_true rfl, Nat.le_of_ble_eq_true rfl⟩) (pR_V (q0 := 0) hK hP rfl rfl) rfl rfl hl.1 rfl (lv_room (Nat.le_of_ble_eq_true rfl)) dX0_hasEffective_15 ⟨Nat.zero_le _, Nat.zero_le _⟩) (fun r_2 hr_3 => ?_)
    subst hr_3
    refine nb_if_ne (B := isPNI b k mo) (tgt := 28) hx hb dX0_hasEffective_18 (by decide) (fun c_4 => ?_) (fun c_4 => ?_)
    · obtain ⟨e5, h5, e7, h7⟩ := hB.2.2.2.1 k hk (isPNI_ne c_4)
      refine lv_aload_n hx hb dX0_hasEffective_28 rfl (lv_at hl 0 rfl) ?_
      refine va_get (D := G.1) (ci := 0) (v := .ref (ad 5)) (C := RX0) (T := TX0) (N := 10) hx hb hts (by decide +kernel) hown hK.1 hP 0 rfl rfl 6 (by decide) (hts (.fieldLink RX0 24 "PriceIndexCalculator$Basket" "newItemOf" "[I") (by decide +kernel)) (fun _ h9 => h9) rfl dX0_hasEffective_29 ?_
      refine lv_iload_n hx hb dX0_hasEffective_32 rfl (lv_at hl 1 rfl) ?_
      refine n_iald hx hb hK.1 hP 5 0 rfl rfl (j := k) (by omega) (by omega) dX0_hasEffective_33 ?_
      refine eq_i (y := nI (nwN b k)) (e5) ?_
      refine lv_istore_n (lv' := [(3, .int (nI (nwN b k))), (0, .ref (ad 0)), (1, .int (nI k)), (2, .int (nI mo))]) hx hb dX0_hasEffective_34 rfl hl (by decide) rfl (fun ls hl => ?_)
      refine lv_aload_n hx hb dX0_hasEffective_35 rfl (lv_at hl 1 rfl) ?_
      refine lv_iload_n hx hb dX0_hasEffective_36 rfl (lv_at hl 2 rfl) ?_
      refine lv_aload_n hx hb dX0_hasEffective_37 rfl (lv_at hl 1 rfl) ?_
      refine va_get (D := G.1) (ci := 0) (v := .ref (ad 7)) (C := RX0) (T := TX0) (N := 10) hx hb hts (by decide +kernel) hown hK.1 hP 0 rfl rfl 8 (by decide) (hts (.fieldLink RX0 30 "PriceIndexCalculator$Basket" "overlap" "[I") (by decide +kernel)) (fun _ h9 => h9) rfl dX0_hasEffective_38 ?_
      refine lv_iload_n hx hb dX0_hasEffective_41 rfl (lv_at hl 2 rfl) ?_
      refine n_iald hx hb hK.1 hP 7 0 rfl rfl (j := k) (by omega) (by omega) dX0_hasEffective_42 ?_
      refine eq_i (y := nI (ovN b k)) (e7) ?_
      refine cr_i (va_runV (As := [.int (nI k), .int (nI (ovN b k))]) (rest := []) ⟨hx, hb, hml, hown, hts⟩ (metX0_hasObserved l G ad b  k (ovN b k) (by omega) (by omega)) (cwV 2 hts gX0_hasEffective_X0_hasObserved rfl rfl rfl (by decide +kernel) ⟨Nat.le_of_ble_eq_true rfl, Nat.le_of_ble_eq_true rfl⟩) (pR_V (q0 := 0) hK hP rfl rfl) rfl rfl hl.1 rfl (lv_room (Nat.le_of_ble_eq_true rfl)) dX0_hasEffective_43 ⟨Nat.zero_le _, Nat.zero_le _⟩) (fun r_5 hr_6 => ?_)
      subst hr_6
      refine nb_if_eq (B := hasObs b k (ovN b k)) (tgt := 76) hx hb dX0_hasEffective_46 (by decide) (fun c_7 => ?_) (fun c_7 => ?_)
      · refine lv_iconst (v := nI 0) hx hb dX0_hasEffective_76 (by decide) ?_
        exact W.zret (v := nI 0) (ty := .boolean) hx hb hr (by rfl) (fun t ht hW => ⟨_, rfl, ((congrArg bI (by simp [hasEff, c_1, c_4, c_7] : hasEff b k mo = false)).symm), ht⟩) (fun q hq => absurd hq List.not_mem_nil) dX0_hasEffective_77
      · refine lv_aload_n hx hb dX0_hasEffective_49 rfl (lv_at hl 1 rfl) ?_
        refine lv_iload_n hx hb dX0_hasEffective_50 rfl (lv_at hl 0 rfl) ?_
        refine lv_aload_n hx hb dX0_hasEffective_51 rfl (lv_at hl 1 rfl) ?_
        refine va_get (D := G.1) (ci := 0) (v := .ref (ad 7)) (C := RX0) (T := TX0) (N := 10) hx hb hts (by decide +kernel) hown hK.1 hP 0 rfl rfl 8 (by decide) (hts (.fieldLink RX0 30 "PriceIndexCalculator$Basket" "overlap" "[I") (by decide +kernel)) (fun _ h9 => h9) rfl dX0_hasEffective_52 ?_
        refine lv_iload_n hx hb dX0_hasEffective_55 rfl (lv_at hl 2 rfl) ?_
        refine n_iald hx hb hK.1 hP 7 0 rfl rfl (j := k) (by omega) (by omega) dX0_hasEffective_56 ?_
        refine eq_i (y := nI (ovN b k)) (e7) ?_
        refine cr_i (va_runV (As := [.int (nI (nwN b k)), .int (nI (ovN b k))]) (rest := []) ⟨hx, hb, hml, hown, hts⟩ (metX0_hasObserved l G ad b  (nwN b k) (ovN b k) (by omega) (by omega)) (cwV 2 hts gX0_hasEffective_X0_hasObserved rfl rfl rfl (by decide +kernel) ⟨Nat.le_of_ble_eq_true rfl, Nat.le_of_ble_eq_true rfl⟩) (pR_V (q0 := 0) hK hP rfl rfl) rfl rfl hl.1 rfl (lv_room (Nat.le_of_ble_eq_true rfl)) dX0_hasEffective_57 ⟨Nat.zero_le _, Nat.zero_le _⟩) (fun r_8 hr_9 => ?_)
        subst hr_9
        refine nb_if_eq (B := hasObs b (nwN b k) (ovN b k)) (tgt := 76) hx hb dX0_hasEffective_60 (by decide) (fun c_10 => ?_) (fun c_10 => ?_)
        · refine lv_iconst (v := nI 0) hx hb dX0_hasEffective_76 (by decide) ?_
          exact W.zret (v := nI 0) (ty := .boolean) hx hb hr (by rfl) (fun t ht hW => ⟨_, rfl, ((congrArg bI (by simp [hasEff, c_1, c_4, c_7, c_10] : hasEff b k mo = false)).symm), ht⟩) (fun q hq => absurd hq List.not_mem_nil) dX0_hasEffective_77
        · refine lv_aload_n hx hb dX0_hasEffective_63 rfl (lv_at hl 1 rfl) ?_
          refine lv_iload_n hx hb dX0_hasEffective_64 rfl (lv_at hl 0 rfl) ?_
          refine lv_iload_n hx hb dX0_hasEffective_65 rfl (lv_at hl 3 rfl) ?_
          refine cr_i (va_runV (As := [.int (nI (nwN b k)), .int (nI mo)]) (rest := []) ⟨hx, hb, hml, hown, hts⟩ (metX0_hasObserved l G ad b  (nwN b k) mo (by omega) (by omega)) (cwV 2 hts gX0_hasEffective_X0_hasObserved rfl rfl rfl (by decide +kernel) ⟨Nat.le_of_ble_eq_true rfl, Nat.le_of_ble_eq_true rfl⟩) (pR_V (q0 := 0) hK hP rfl rfl) rfl rfl hl.1 rfl (lv_room (Nat.le_of_ble_eq_true rfl)) dX0_hasEffective_66 ⟨Nat.zero_le _, Nat.zero_le _⟩) (fun r_11 hr_12 => ?_)
          subst hr_12
          refine nb_if_eq (B := hasObs b (nwN b k) mo) (tgt := 76) hx hb dX0_hasEffective_69 (by decide) (fun c_13 => ?_) (fun c_13 => ?_)
          · refine lv_iconst (v := nI 0) hx hb dX0_hasEffective_76 (by decide) ?_
            exact W.zret (v := nI 0) (ty := .boolean) hx hb hr (by rfl) (fun t ht hW => ⟨_, rfl, ((congrArg bI (by simp [hasEff, c_1, c_4, c_7, c_10, c_13] : hasEff b k mo = false)).symm), ht⟩) (fun q hq => absurd hq List.not_mem_nil) dX0_hasEffective_77
          · refine lv_iconst (v := nI 1) hx hb dX0_hasEffective_72 (by decide) ?_
            refine lv_goto (tgt := 77) hx hb dX0_hasEffective_73 (by decide) ?_
            exact W.zret (v := nI 1) (ty := .boolean) hx hb hr (by rfl) (fun t ht hW => ⟨_, rfl, ((congrArg bI (by simp [hasEff, c_1, c_4, c_7, c_10, c_13] : hasEff b k mo = true)).symm), ht⟩) (fun q hq => absurd hq List.not_mem_nil) dX0_hasEffective_77
    · refine lv_aload_n hx hb dX0_hasEffective_21 rfl (lv_at hl 0 rfl) ?_
      refine lv_iload_n hx hb dX0_hasEffective_22 rfl (lv_at hl 1 rfl) ?_
      refine lv_iload_n hx hb dX0_hasEffective_23 rfl (lv_at hl 2 rfl) ?_
      refine cr_i (va_runV (As := [.int (nI k), .int (nI mo)]) (rest := []) ⟨hx, hb, hml, hown, hts⟩ (metX0_hasObserved l G ad b  k mo (by omega) (by omega)) (cwV 2 hts gX0_hasEffective_X0_hasObserved rfl rfl rfl (by decide +kernel) ⟨Nat.le_of_ble_eq_true rfl, Nat.le_of_ble_eq_true rfl⟩) (pR_V (q0 := 0) hK hP rfl rfl) rfl rfl hl.1 rfl (lv_room (Nat.le_of_ble_eq_true rfl)) dX0_hasEffective_24 ⟨Nat.zero_le _, Nat.zero_le _⟩) (fun r_14 hr_15 => ?_)
      subst hr_15
      exact W.zret (v := bI (hasObs b k mo)) (ty := .boolean) hx hb hr (nar_bI _) (fun t ht hW => ⟨_, rfl, (congrArg bI (by simp [hasEff, c_1, c_4] : hasObs b k mo = hasEff b k mo)), ht⟩) (fun q hq => absurd hq List.not_mem_nil) dX0_hasEffective_27
  · refine lv_iconst (v := nI 0) hx hb dX0_hasEffective_10 (by decide) ?_
    exact W.zret (v := nI 0) (ty := .boolean) hx hb hr (by rfl) (fun t ht hW => ⟨_, rfl, ((congrArg bI (by simp [hasEff, c_1] : hasEff b k mo = false)).symm), ht⟩) (fun q hq => absurd hq List.not_mem_nil) dX0_hasEffective_11
set_option maxHeartbeats 4000000 in
set_option maxRecDepth 100000 in
/-- Basket.effective -/
theorem metX0_effective (l : Launch) (G : GG) (ad : Nat → Nat) (b : Nat → Nat → Int32) (hB : bWF b) (k mo : Nat) (hk : k < 12) (hm : mo < 24) : Met l yX0_effective wsX0_effective ({ frames := 3, cells := 0, slots := 0, locals := 90 }) (pR G (bcells G ad b) [.ref (ad 0), .int (nI k), .int (nI mo)]) (vp_Sf (fun r => r = effP b k mo)) 0 0 (fun _ => False) := by
  refine Met.ofW (cc := cX0_effective) (maxL := 5) (ret := (some .float)) (by decide) rfl ?_
  intro p e s m args below meth c s₁ B hml hv
  obtain ⟨rfl, hK, hP⟩ := hv
  have hx := B.exec
  have hb := B.bytes
  have hr := B.returns
  have hlocks := B.notSynchronized
  have hts := atoms_spec (ws := wsX0_effective) B.pre
  have hown : s.vm.findClass RX0 = some m.cls := findClass_of_methodNamed B.named
  have hl := lv_entry ([.ref (ad 0), .int (nI k), .int (nI mo)]) (n := 5) (Nat.le_of_ble_eq_true rfl)
  rw [lg_entry_eq]
  generalize (lg_sl ([.ref (ad 0), .int (nI k), .int (nI mo)]) ++ List.replicate (5 - (lg_sl ([.ref (ad 0), .int (nI k), .int (nI mo)])).length) Slot.unset).toArray = ls at hl ⊢
  have hl : lv_has ls 5 [(0, .ref (ad 0)), (1, .int (nI k)), (2, .int (nI mo))] := hl
  refine lv_aload_n hx hb dX0_effective_0 rfl (lv_at hl 0 rfl) ?_
  refine lv_iload_n hx hb dX0_effective_1 rfl (lv_at hl 1 rfl) ?_
  refine lv_iload_n hx hb dX0_effective_2 rfl (lv_at hl 2 rfl) ?_
  refine cr_i (va_runV (As := [.int (nI k), .int (nI mo)]) (rest := []) ⟨hx, hb, hml, hown, hts⟩ (metX0_isPricedByNewItem l G ad b  k mo (by omega)) (cwV 2 hts gX0_effective_X0_isPricedByNewItem rfl rfl rfl (by decide +kernel) ⟨Nat.le_of_ble_eq_true rfl, Nat.le_of_ble_eq_true rfl⟩) (pR_V (q0 := 0) hK hP rfl rfl) rfl rfl hl.1 rfl (lv_room (Nat.le_of_ble_eq_true rfl)) dX0_effective_3 ⟨Nat.zero_le _, Nat.zero_le _⟩) (fun r_1 hr_2 => ?_)
  subst hr_2
  refine nb_if_ne (B := isPNI b k mo) (tgt := 16) hx hb dX0_effective_6 (by decide) (fun c_3 => ?_) (fun c_3 => ?_)
  · obtain ⟨e5, h5, e7, h7⟩ := hB.2.2.2.1 k hk (isPNI_ne c_3)
    refine lv_aload_n hx hb dX0_effective_16 rfl (lv_at hl 0 rfl) ?_
    refine va_get (D := G.1) (ci := 0) (v := .ref (ad 5)) (C := RX0) (T := TX0) (N := 10) hx hb hts (by decide +kernel) hown hK.1 hP 0 rfl rfl 6 (by decide) (hts (.fieldLink RX0 24 "PriceIndexCalculator$Basket" "newItemOf" "[I") (by decide +kernel)) (fun _ h9 => h9) rfl dX0_effective_17 ?_
    refine lv_iload_n hx hb dX0_effective_20 rfl (lv_at hl 1 rfl) ?_
    refine n_iald hx hb hK.1 hP 5 0 rfl rfl (j := k) (by omega) (by omega) dX0_effective_21 ?_
    refine eq_i (y := nI (nwN b k)) (e5) ?_
    refine lv_istore_n (lv' := [(3, .int (nI (nwN b k))), (0, .ref (ad 0)), (1, .int (nI k)), (2, .int (nI mo))]) hx hb dX0_effective_22 rfl hl (by decide) rfl (fun ls hl => ?_)
    refine lv_aload_n hx hb dX0_effective_23 rfl (lv_at hl 1 rfl) ?_
    refine lv_iload_n hx hb dX0_effective_24 rfl (lv_at hl 2 rfl) ?_
    refine lv_aload_n hx hb dX0_effective_25 rfl (lv_at hl 1 rfl) ?_
    refine va_get (D := G.1) (ci := 0) (v := .ref (ad 7)) (C := RX0) (T := TX0) (N := 10) hx hb hts (by decide +kernel) hown hK.1 hP 0 rfl rfl 8 (by decide) (hts (.fieldLink RX0 30 "PriceIndexCalculator$Basket" "overlap" "[I") (by decide +kernel)) (fun _ h9 => h9) rfl dX0_effective_26 ?_
    refine lv_iload_n hx hb dX0_effective_29 rfl (lv_at hl 2 rfl) ?_
    refine n_iald hx hb hK.1 hP 7 0 rfl rfl (j := k) (by omega) (by omega) dX0_effective_30 ?_
    refine eq_i (y := nI (ovN b k)) (e7) ?_
    refine cr_f (va_runV (As := [.int (nI k), .int (nI (ovN b k))]) (rest := []) ⟨hx, hb, hml, hown, hts⟩ (metX0_observed l G ad b hB  k (ovN b k) (by omega) (by omega)) (cwV 2 hts gX0_effective_X0_observed rfl rfl rfl (by decide +kernel) ⟨Nat.le_of_ble_eq_true rfl, Nat.le_of_ble_eq_true rfl⟩) (pR_V (q0 := 0) hK hP rfl rfl) rfl rfl hl.1 rfl (lv_room (Nat.le_of_ble_eq_true rfl)) dX0_effective_31 ⟨Nat.zero_le _, Nat.zero_le _⟩) (fun r_4 hr_5 => ?_)
    subst hr_5
    refine lv_aload_n hx hb dX0_effective_34 rfl (lv_at hl 1 rfl) ?_
    refine lv_iload_n hx hb dX0_effective_35 rfl (lv_at hl 0 rfl) ?_
    refine lv_aload_n hx hb dX0_effective_36 rfl (lv_at hl 1 rfl) ?_
    refine va_get (D := G.1) (ci := 0) (v := .ref (ad 7)) (C := RX0) (T := TX0) (N := 10) hx hb hts (by decide +kernel) hown hK.1 hP 0 rfl rfl 8 (by decide) (hts (.fieldLink RX0 30 "PriceIndexCalculator$Basket" "overlap" "[I") (by decide +kernel)) (fun _ h9 => h9) rfl dX0_effective_37 ?_
    refine lv_iload_n hx hb dX0_effective_40 rfl (lv_at hl 2 rfl) ?_
    refine n_iald hx hb hK.1 hP 7 0 rfl rfl (j := k) (by omega) (by omega) dX0_effective_41 ?_
    refine eq_i (y := nI (ovN b k)) (e7) ?_
    refine cr_f (va_runV (As := [.int (nI (nwN b k)), .int (nI (ovN b k))]) (rest := [.float (obsP b k (ovN b k))]) ⟨hx, hb, hml, hown, hts⟩ (metX0_observed l G ad b hB  (nwN b k) (ovN b k) (by omega) (by omega)) (cwV 2 hts gX0_effective_X0_observed rfl rfl rfl (by decide +kernel) ⟨Nat.le_of_ble_eq_true rfl, Nat.le_of_ble_eq_true rfl⟩) (pR_V (q0 := 0) hK hP rfl rfl) rfl rfl hl.1 rfl (lv_room (Nat.le_of_ble_eq_true rfl)) dX0_effective_42 ⟨Nat.zero_le _, Nat.zero_le _⟩) (fun r_6 hr_7 => ?_)
    subst hr_7
    refine cr_f (va_runS (As := [.float (obsP b k (ovN b k)), .float (obsP b (nwN b k) (ovN b k))]) (rest := []) ⟨hx, hb, hml, hown, hts⟩ (metX5_over l G (obsP b k (ovN b k)) (obsP b (nwN b k) (ovN b k)) (ok_obs hB (k := k) (mo := (ovN b k)) (by omega) (by omega)) (ok_obs hB (k := (nwN b k)) (mo := (ovN b k)) (by omega) (by omega))) (va_cwS 2 hts gX0_effective_X5_over rfl rfl rfl (by decide +kernel) ⟨Nat.le_of_ble_eq_true rfl, Nat.le_of_ble_eq_true rfl⟩) (pR_S hK (va_P_nil _ _ _)) rfl rfl hl.1 rfl (lv_room (Nat.le_of_ble_eq_true rfl)) dX0_effective_45 ⟨Nat.zero_le _, Nat.zero_le _⟩) (fun r_8 hr_9 => ?_)
    subst hr_9
    refine lv_fstore (lv' := [(4, .float (cOver (obsP b k (ovN b k)) (obsP b (nwN b k) (ovN b k)))), (3, .int (nI (nwN b k))), (0, .ref (ad 0)), (1, .int (nI k)), (2, .int (nI mo))]) hx hb dX0_effective_48 hl (by decide) rfl (fun ls hl => ?_)
    refine lv_aload_n hx hb dX0_effective_50 rfl (lv_at hl 2 rfl) ?_
    refine lv_iload_n hx hb dX0_effective_51 rfl (lv_at hl 1 rfl) ?_
    refine lv_iload_n hx hb dX0_effective_52 rfl (lv_at hl 4 rfl) ?_
    refine cr_f (va_runV (As := [.int (nI (nwN b k)), .int (nI mo)]) (rest := []) ⟨hx, hb, hml, hown, hts⟩ (metX0_observed l G ad b hB  (nwN b k) mo (by omega) (by omega)) (cwV 2 hts gX0_effective_X0_observed rfl rfl rfl (by decide +kernel) ⟨Nat.le_of_ble_eq_true rfl, Nat.le_of_ble_eq_true rfl⟩) (pR_V (q0 := 0) hK hP rfl rfl) rfl rfl hl.1 rfl (lv_room (Nat.le_of_ble_eq_true rfl)) dX0_effective_53 ⟨Nat.zero_le _, Nat.zero_le _⟩) (fun r_10 hr_11 => ?_)
    subst hr_11
    refine lv_fload hx hb dX0_effective_56 (lv_at hl 0 rfl) ?_
    refine cr_f (va_runS (As := [.float (obsP b (nwN b k) mo), .float (cOver (obsP b k (ovN b k)) (obsP b (nwN b k) (ovN b k)))]) (rest := []) ⟨hx, hb, hml, hown, hts⟩ (metX5_times l G (obsP b (nwN b k) mo) (cOver (obsP b k (ovN b k)) (obsP b (nwN b k) (ovN b k))) (ok_obs hB (k := (nwN b k)) (mo := mo) (by omega) (by omega)) (ok_over (ok_obs hB (k := k) (mo := (ovN b k)) (by omega) (by omega)) (ok_obs hB (k := (nwN b k)) (mo := (ovN b k)) (by omega) (by omega)))) (va_cwS 2 hts gX0_effective_X5_times rfl rfl rfl (by decide +kernel) ⟨Nat.le_of_ble_eq_true rfl, Nat.le_of_ble_eq_true rfl⟩) (pR_S hK (va_P_nil _ _ _)) rfl rfl hl.1 rfl (lv_room (Nat.le_of_ble_eq_true rfl)) dX0_effective_58 ⟨Nat.zero_le _, Nat.zero_le _⟩) (fun r_12 hr_13 => ?_)
    subst hr_13
    exact W.fret (v := cTimes (obsP b (nwN b k) mo) (cOver (obsP b k (ovN b k)) (obsP b (nwN b k) (ovN b k)))) hx hb hr (fun t ht hW => ⟨_, rfl, (by simp [effP, c_3]), ht⟩) (fun q hq => absurd hq List.not_mem_nil) dX0_effective_61
  · refine lv_aload_n hx hb dX0_effective_9 rfl (lv_at hl 0 rfl) ?_
    refine lv_iload_n hx hb dX0_effective_10 rfl (lv_at hl 1 rfl) ?_
    refine lv_iload_n hx hb dX0_effective_11 rfl (lv_at hl 2 rfl) ?_
    refine cr_f (va_runV (As := [.int (nI k), .int (nI mo)]) (rest := []) ⟨hx, hb, hml, hown, hts⟩ (metX0_observed l G ad b hB  k mo (by omega) (by omega)) (cwV 2 hts gX0_effective_X0_observed rfl rfl rfl (by decide +kernel) ⟨Nat.le_of_ble_eq_true rfl, Nat.le_of_ble_eq_true rfl⟩) (pR_V (q0 := 0) hK hP rfl rfl) rfl rfl hl.1 rfl (lv_room (Nat.le_of_ble_eq_true rfl)) dX0_effective_12 ⟨Nat.zero_le _, Nat.zero_le _⟩) (fun r_14 hr_15 => ?_)
    subst hr_15
    exact W.fret (v := obsP b k mo) hx hb hr (fun t ht hW => ⟨_, rfl, (by simp [effP, c_3]), ht⟩) (fun q hq => absurd hq List.not_mem_nil) dX0_effective_15
set_option maxHeartbeats 4000000 in
set_option maxRecDepth 100000 in
/-- Basket.linkCount -/
theorem metX0_linkCount (l : Launch) (G : GG) (ad : Nat → Nat) (b : Nat → Nat → Int32) (hB : bWF b)  : Met l yX0_linkCount wsX0_linkCount ({ frames := 0, cells := 0, slots := 0, locals := 0 }) (pR G (bcells G ad b) [.ref (ad 0)]) (vp_Si (fun r => r = nI (lnkN b))) 0 0 (fun _ => False) := by
  refine Met.ofW (cc := cX0_linkCount) (maxL := 3) (ret := (some .int)) (by decide) rfl ?_
  intro p e s m args below meth c s₁ B hml hv
  obtain ⟨rfl, hK, hP⟩ := hv
  have hx := B.exec
  have hb := B.bytes
  have hr := B.returns
  have hlocks := B.notSynchronized
  have hts := atoms_spec (ws := wsX0_linkCount) B.pre
  have hown : s.vm.findClass RX0 = some m.cls := findClass_of_methodNamed B.named
  have hl := lv_entry ([.ref (ad 0)]) (n := 3) (Nat.le_of_ble_eq_true rfl)
  rw [lg_entry_eq]
  generalize (lg_sl ([.ref (ad 0)]) ++ List.replicate (3 - (lg_sl ([.ref (ad 0)])).length) Slot.unset).toArray = ls at hl ⊢
  have hl : lv_has ls 3 [(0, .ref (ad 0))] := hl
  refine lv_iconst (v := nI 0) hx hb dX0_linkCount_0 (by decide) ?_
  refine lv_istore_n (lv' := [(1, .int (nI 0)), (0, .ref (ad 0))]) hx hb dX0_linkCount_1 rfl hl (by decide) rfl (fun ls hl => ?_)
  refine lv_iconst (v := nI 0) hx hb dX0_linkCount_2 (by decide) ?_
  refine lv_istore_n (lv' := [(2, .int (nI 0)), (1, .int (nI 0)), (0, .ref (ad 0))]) hx hb dX0_linkCount_3 rfl hl (by decide) rfl (fun ls hl => ?_)
  refine lpR (S := Nat) (itN b) (fun i u => u = cntP (fun j => !decide (b 5 j = -1)) (i)) (fun i u => [(0, .ref (ad 0)), (1, .int (nI u)), (2, .int (nI i))]) (fun u ls hI_2 hl => ?_) (fun i u ls hi_3 hI_2 hl ih_1 => ?_) (0) 0 (by omega) (rfl) (lv_sub hl [2, 1, 0] rfl)
  · obtain ⟨n, rfl⟩ : ∃ z, z = u := ⟨_, rfl⟩
    have hl : lv_has ls 3 [(0, .ref (ad 0)), (1, .int (nI n)), (2, .int (nI (itN b)))] := hl
    have hin := cntP_le (fun j => !decide (b 5 j = -1)) (itN b)
    have hit := hB.1.2
    refine lv_iload_n hx hb dX0_linkCount_4 rfl (lv_at hl 2 rfl) ?_
    refine lv_aload_n hx hb dX0_linkCount_5 rfl (lv_at hl 0 rfl) ?_
    refine va_get (D := G.1) (ci := 0) (v := .int (b 0 0)) (C := RX0) (T := TX0) (N := 10) hx hb hts (by decide +kernel) hown hK.1 hP 0 rfl rfl 0 (by decide) (hts (.fieldLink RX0 36 "PriceIndexCalculator$Basket" "items" "I") (by decide +kernel)) (fun _ h9 => h9) rfl dX0_linkCount_6 ?_
    refine eq_i (y := nI (itN b)) (hB.1.1) ?_
    refine n_icmp_ge (x := itN b) (y := itN b) (tgt := 31) hx hb (by omega) (by omega) dX0_linkCount_9 (by decide) (fun c_4 => ?_) (fun c_4 => ?_)
    · refine lv_iload_n hx hb dX0_linkCount_31 rfl (lv_at hl 1 rfl) ?_
      exact W.iret (v := nI n) hx hb hr (fun t ht hW => ⟨_, rfl, (congrArg nI hI_2), ht⟩) (fun q hq => absurd hq List.not_mem_nil) dX0_linkCount_32
    · exact absurd c_4 (by omega)
  · obtain ⟨n, rfl⟩ : ∃ z, z = u := ⟨_, rfl⟩
    have hl : lv_has ls 3 [(0, .ref (ad 0)), (1, .int (nI n)), (2, .int (nI i))] := hl
    have hin := cntP_le (fun j => !decide (b 5 j = -1)) (itN b)
    have hit := hB.1.2
    refine lv_iload_n hx hb dX0_linkCount_4 rfl (lv_at hl 2 rfl) ?_
    refine lv_aload_n hx hb dX0_linkCount_5 rfl (lv_at hl 0 rfl) ?_
    refine va_get (D := G.1) (ci := 0) (v := .int (b 0 0)) (C := RX0) (T := TX0) (N := 10) hx hb hts (by decide +kernel) hown hK.1 hP 0 rfl rfl 0 (by decide) (hts (.fieldLink RX0 36 "PriceIndexCalculator$Basket" "items" "I") (by decide +kernel)) (fun _ h9 => h9) rfl dX0_linkCount_6 ?_
    refine eq_i (y := nI (itN b)) (hB.1.1) ?_
    refine n_icmp_ge (x := i) (y := itN b) (tgt := 31) hx hb (by omega) (by omega) dX0_linkCount_9 (by decide) (fun c_5 => ?_) (fun c_5 => ?_)
    · exact absurd c_5 (by omega)
    · refine lv_aload_n hx hb dX0_linkCount_12 rfl (lv_at hl 0 rfl) ?_
      refine va_get (D := G.1) (ci := 0) (v := .ref (ad 5)) (C := RX0) (T := TX0) (N := 10) hx hb hts (by decide +kernel) hown hK.1 hP 0 rfl rfl 6 (by decide) (hts (.fieldLink RX0 24 "PriceIndexCalculator$Basket" "newItemOf" "[I") (by decide +kernel)) (fun _ h9 => h9) rfl dX0_linkCount_13 ?_
      refine lv_iload_n hx hb dX0_linkCount_16 rfl (lv_at hl 2 rfl) ?_
      refine n_iald hx hb hK.1 hP 5 0 rfl rfl (j := i) (by omega) (by omega) dX0_linkCount_17 ?_
      refine lv_iconst (v := (-1)) hx hb dX0_linkCount_18 (by decide) ?_
      refine lv_icmp_eq (tgt := 25) hx hb dX0_linkCount_19 (by decide) (fun c_6 => ?_) (fun c_6 => ?_)
      · refine lv_iinc (v := nI (i + 1)) (lv' := [(2, .int (nI (i + 1))), (0, .ref (ad 0)), (1, .int (nI n))]) hx hb dX0_linkCount_25 hl (k := 2) rfl (by exact nI_add _ _) (by decide) rfl (fun ls hl => ?_)
        refine lv_goto (tgt := 4) hx hb dX0_linkCount_28 (by decide) ?_
        exact ih_1 n _ (by rw [hI_2]; exact cntP_f (by simp [c_6])) (lv_sub hl [1, 2, 0] rfl)
      · refine lv_iinc (v := nI (n + 1)) (lv' := [(1, .int (nI (n + 1))), (0, .ref (ad 0)), (2, .int (nI i))]) hx hb dX0_linkCount_22 hl (k := 1) rfl (by exact nI_add _ _) (by decide) rfl (fun ls hl => ?_)
        refine lv_iinc (v := nI (i + 1)) (lv' := [(2, .int (nI (i + 1))), (1, .int (nI (n + 1))), (0, .ref (ad 0))]) hx hb dX0_linkCount_25 hl (k := 2) rfl (by exact nI_add _ _) (by decide) rfl (fun ls hl => ?_)
        refine lv_goto (tgt := 4) hx hb dX0_linkCount_28 (by decide) ?_
        exact ih_1 (n + 1) _ (by rw [hI_2]; exact cntP_t (by simp [c_6])) (lv_sub hl [2, 1, 0] rfl)
set_option maxHeartbeats 4000000 in
set_option maxRecDepth 100000 in
/-- Basket.append -/
theorem metX0_append (l : Launch) (G : GG) (ad : Nat → Nat) (b : Nat → Nat → Int32) (hB : bWF b) (x y z : Int32) (hn : itN b < 12) : Met l yX0_append wsX0_append ({ frames := 0, cells := 0, slots := 0, locals := 0 }) (pM G (bcells G ad b) [.ref (ad 0), .int x, .int y, .int z]) (va_Qi (fun r (_ : Unit) => r = nI (itN b)) (bM G (fun _ : Unit => bcells G ad (bApp b x y z))) (adr (bcells G ad b))) 0 0 (adr (bcells G ad b)) := by
  refine Met.ofW (cc := cX0_append) (maxL := 5) (ret := (some .int)) (by decide) rfl ?_
  intro p e s m args below meth c s₁ B hml hv
  obtain ⟨rfl, hK, hP, hD0⟩ := hv
  have hx := B.exec
  have hb := B.bytes
  have hr := B.returns
  have hlocks := B.notSynchronized
  have hts := atoms_spec (ws := wsX0_append) B.pre
  have hown : s.vm.findClass RX0 = some m.cls := findClass_of_methodNamed B.named
  have hD := hD0.own
  generalize hAe : adr (bcells G ad b) = A at hD ⊢
  have hS : va_S A s.heap s.heap [] := va_S.rf
  have hl := lv_entry ([.ref (ad 0), .int x, .int y, .int z]) (n := 5) (Nat.le_of_ble_eq_true rfl)
  rw [lg_entry_eq]
  generalize (lg_sl ([.ref (ad 0), .int x, .int y, .int z]) ++ List.replicate (5 - (lg_sl ([.ref (ad 0), .int x, .int y, .int z])).length) Slot.unset).toArray = ls at hl ⊢
  have hl : lv_has ls 5 [(0, .ref (ad 0)), (1, .int x), (2, .int y), (3, .int z)] := hl
  have hP : va_P G.1 vwCl ([(ad 0, .inr (0, [.int (b 0 0), .int (b 0 1), .ref (ad 1), .ref (ad 2), .ref (ad 3), .ref (ad 4), .ref (ad 5), .ref (ad 6), .ref (ad 7), .ref (ad 8)])), (ad 1, .inl (G.2 0, 4, .inl (b 1))), (ad 2, .inl (G.2 0, 12, .inl (b 2))), (ad 3, .inl (G.2 0, 12, .inl (b 3))), (ad 4, .inl (G.2 0, 12, .inl (b 4))), (ad 5, .inl (G.2 0, 12, .inl (b 5))), (ad 6, .inl (G.2 0, 12, .inl (b 6))), (ad 7, .inl (G.2 0, 12, .inl (b 7))), (ad 8, .inl (G.2 0, 288, .inl (b 8)))]) s.heap := hP
  have hD : va_D A ([(ad 0, .inr (0, [.int (b 0 0), .int (b 0 1), .ref (ad 1), .ref (ad 2), .ref (ad 3), .ref (ad 4), .ref (ad 5), .ref (ad 6), .ref (ad 7), .ref (ad 8)])), (ad 1, .inl (G.2 0, 4, .inl (b 1))), (ad 2, .inl (G.2 0, 12, .inl (b 2))), (ad 3, .inl (G.2 0, 12, .inl (b 3))), (ad 4, .inl (G.2 0, 12, .inl (b 4))), (ad 5, .inl (G.2 0, 12, .inl (b 5))), (ad 6, .inl (G.2 0, 12, .inl (b 6))), (ad 7, .inl (G.2 0, 12, .inl (b 7))), (ad 8, .inl (G.2 0, 288, .inl (b 8)))]) := hD
  refine lv_aload_n hx hb dX0_append_0 rfl (lv_at hl 0 rfl) ?_
  refine va_get (D := G.1) (ci := 0) (v := .int (b 0 0)) (C := RX0) (T := TX0) (N := 10) hx hb hts (by decide +kernel) hown hK.1 hP 0 rfl rfl 0 (by decide) (hts (.fieldLink RX0 36 "PriceIndexCalculator$Basket" "items" "I") (by decide +kernel)) (fun _ h9 => h9) rfl dX0_append_1 ?_
  refine eq_i (y := nI (itN b)) (hB.1.1) ?_
  refine lv_istore (lv' := [(4, .int (nI (itN b))), (0, .ref (ad 0)), (1, .int x), (2, .int y), (3, .int z)]) hx hb dX0_append_4 hl (by decide) rfl (fun ls hl => ?_)
  refine lv_aload_n hx hb dX0_append_6 rfl (lv_at hl 1 rfl) ?_
  refine va_get (D := G.1) (ci := 0) (v := .ref (ad 2)) (C := RX0) (T := TX0) (N := 10) hx hb hts (by decide +kernel) hown hK.1 hP 0 rfl rfl 3 (by decide) (hts (.fieldLink RX0 15 "PriceIndexCalculator$Basket" "stratum" "[I") (by decide +kernel)) (fun _ h9 => h9) rfl dX0_append_7 ?_
  refine lv_iload hx hb dX0_append_10 (lv_at hl 0 rfl) ?_
  refine lv_iload_n hx hb dX0_append_12 rfl (lv_at hl 2 rfl) ?_
  refine n_iast hx hb hK.1 hP hD hS 2 0 rfl rfl (j := itN b) (by omega) (by omega) dX0_append_13 (fun H locs hP hD hS => ?_)
  have hP : va_P G.1 vwCl ([(ad 0, .inr (0, [.int (b 0 0), .int (b 0 1), .ref (ad 1), .ref (ad 2), .ref (ad 3), .ref (ad 4), .ref (ad 5), .ref (ad 6), .ref (ad 7), .ref (ad 8)])), (ad 1, .inl (G.2 0, 4, .inl (b 1))), (ad 2, .inl (G.2 0, 12, .inl (upd (b 2) (itN b) x))), (ad 3, .inl (G.2 0, 12, .inl (b 3))), (ad 4, .inl (G.2 0, 12, .inl (b 4))), (ad 5, .inl (G.2 0, 12, .inl (b 5))), (ad 6, .inl (G.2 0, 12, .inl (b 6))), (ad 7, .inl (G.2 0, 12, .inl (b 7))), (ad 8, .inl (G.2 0, 288, .inl (b 8)))]) H := hP
  have hD : va_D A ([(ad 0, .inr (0, [.int (b 0 0), .int (b 0 1), .ref (ad 1), .ref (ad 2), .ref (ad 3), .ref (ad 4), .ref (ad 5), .ref (ad 6), .ref (ad 7), .ref (ad 8)])), (ad 1, .inl (G.2 0, 4, .inl (b 1))), (ad 2, .inl (G.2 0, 12, .inl (upd (b 2) (itN b) x))), (ad 3, .inl (G.2 0, 12, .inl (b 3))), (ad 4, .inl (G.2 0, 12, .inl (b 4))), (ad 5, .inl (G.2 0, 12, .inl (b 5))), (ad 6, .inl (G.2 0, 12, .inl (b 6))), (ad 7, .inl (G.2 0, 12, .inl (b 7))), (ad 8, .inl (G.2 0, 288, .inl (b 8)))]) := hD
  refine lv_aload_n hx hb dX0_append_14 rfl (lv_at hl 1 rfl) ?_
  refine va_get (D := G.1) (ci := 0) (v := .ref (ad 3)) (C := RX0) (T := TX0) (N := 10) hx hb hts (by decide +kernel) hown hK.1 hP 0 rfl rfl 4 (by decide) (hts (.fieldLink RX0 18 "PriceIndexCalculator$Basket" "size" "[I") (by decide +kernel)) (fun _ h9 => h9) rfl dX0_append_15 ?_
  refine lv_iload hx hb dX0_append_18 (lv_at hl 0 rfl) ?_
  refine lv_iload_n hx hb dX0_append_20 rfl (lv_at hl 3 rfl) ?_
  refine n_iast hx hb hK.1 hP hD hS 3 0 rfl rfl (j := itN b) (by omega) (by omega) dX0_append_21 (fun H locs hP hD hS => ?_)
  have hP : va_P G.1 vwCl ([(ad 0, .inr (0, [.int (b 0 0), .int (b 0 1), .ref (ad 1), .ref (ad 2), .ref (ad 3), .ref (ad 4), .ref (ad 5), .ref (ad 6), .ref (ad 7), .ref (ad 8)])), (ad 1, .inl (G.2 0, 4, .inl (b 1))), (ad 2, .inl (G.2 0, 12, .inl (upd (b 2) (itN b) x))), (ad 3, .inl (G.2 0, 12, .inl (upd (b 3) (itN b) y))), (ad 4, .inl (G.2 0, 12, .inl (b 4))), (ad 5, .inl (G.2 0, 12, .inl (b 5))), (ad 6, .inl (G.2 0, 12, .inl (b 6))), (ad 7, .inl (G.2 0, 12, .inl (b 7))), (ad 8, .inl (G.2 0, 288, .inl (b 8)))]) H := hP
  have hD : va_D A ([(ad 0, .inr (0, [.int (b 0 0), .int (b 0 1), .ref (ad 1), .ref (ad 2), .ref (ad 3), .ref (ad 4), .ref (ad 5), .ref (ad 6), .ref (ad 7), .ref (ad 8)])), (ad 1, .inl (G.2 0, 4, .inl (b 1))), (ad 2, .inl (G.2 0, 12, .inl (upd (b 2) (itN b) x))), (ad 3, .inl (G.2 0, 12, .inl (upd (b 3) (itN b) y))), (ad 4, .inl (G.2 0, 12, .inl (b 4))), (ad 5, .inl (G.2 0, 12, .inl (b 5))), (ad 6, .inl (G.2 0, 12, .inl (b 6))), (ad 7, .inl (G.2 0, 12, .inl (b 7))), (ad 8, .inl (G.2 0, 288, .inl (b 8)))]) := hD
  refine lv_aload_n hx hb dX0_append_22 rfl (lv_at hl 1 rfl) ?_
  refine va_get (D := G.1) (ci := 0) (v := .ref (ad 4)) (C := RX0) (T := TX0) (N := 10) hx hb hts (by decide +kernel) hown hK.1 hP 0 rfl rfl 5 (by decide) (hts (.fieldLink RX0 21 "PriceIndexCalculator$Basket" "seasons" "[I") (by decide +kernel)) (fun _ h9 => h9) rfl dX0_append_23 ?_
  refine lv_iload hx hb dX0_append_26 (lv_at hl 0 rfl) ?_
  refine lv_iload_n hx hb dX0_append_28 rfl (lv_at hl 4 rfl) ?_
  refine n_iast hx hb hK.1 hP hD hS 4 0 rfl rfl (j := itN b) (by omega) (by omega) dX0_append_29 (fun H locs hP hD hS => ?_)
  have hP : va_P G.1 vwCl ([(ad 0, .inr (0, [.int (b 0 0), .int (b 0 1), .ref (ad 1), .ref (ad 2), .ref (ad 3), .ref (ad 4), .ref (ad 5), .ref (ad 6), .ref (ad 7), .ref (ad 8)])), (ad 1, .inl (G.2 0, 4, .inl (b 1))), (ad 2, .inl (G.2 0, 12, .inl (upd (b 2) (itN b) x))), (ad 3, .inl (G.2 0, 12, .inl (upd (b 3) (itN b) y))), (ad 4, .inl (G.2 0, 12, .inl (upd (b 4) (itN b) z))), (ad 5, .inl (G.2 0, 12, .inl (b 5))), (ad 6, .inl (G.2 0, 12, .inl (b 6))), (ad 7, .inl (G.2 0, 12, .inl (b 7))), (ad 8, .inl (G.2 0, 288, .inl (b 8)))]) H := hP
  have hD : va_D A ([(ad 0, .inr (0, [.int (b 0 0), .int (b 0 1), .ref (ad 1), .ref (ad 2), .ref (ad 3), .ref (ad 4), .ref (ad 5), .ref (ad 6), .ref (ad 7), .ref (ad 8)])), (ad 1, .inl (G.2 0, 4, .inl (b 1))), (ad 2, .inl (G.2 0, 12, .inl (upd (b 2) (itN b) x))), (ad 3, .inl (G.2 0, 12, .inl (upd (b 3) (itN b) y))), (ad 4, .inl (G.2 0, 12, .inl (upd (b 4) (itN b) z))), (ad 5, .inl (G.2 0, 12, .inl (b 5))), (ad 6, .inl (G.2 0, 12, .inl (b 6))), (ad 7, .inl (G.2 0, 12, .inl (b 7))), (ad 8, .inl (G.2 0, 288, .inl (b 8)))]) := hD
  refine lv_aload_n hx hb dX0_append_30 rfl (lv_at hl 1 rfl) ?_
  refine lv_iload hx hb dX0_append_31 (lv_at hl 0 rfl) ?_
  refine lv_iconst (v := nI 1) hx hb dX0_append_33 (by decide) ?_
  refine n_add hx hb dX0_append_34 ?_
  refine va_put (D := G.1) (ci := 0) (v := .int (nI ((itN b) + 1))) (ty := .int) (C := RX0) (T := TX0) (N := 10) hx hb hts (by decide +kernel) tyX0 tyX0_ok nmX0 hown hK.1 hP hD hS 0 rfl rfl 0 (by decide) (hts (.fieldLink RX0 36 "PriceIndexCalculator$Basket" "items" "I") (by decide +kernel)) (fun _ h9 => h9) rfl (by decide +kernel) rfl rfl (Nat.le_of_ble_eq_true rfl) dX0_append_35 (fun H locs hP hD hS => ?_)
  have hP : va_P G.1 vwCl ([(ad 0, .inr (0, [.int (nI ((itN b) + 1)), .int (b 0 1), .ref (ad 1), .ref (ad 2), .ref (ad 3), .ref (ad 4), .ref (ad 5), .ref (ad 6), .ref (ad 7), .ref (ad 8)])), (ad 1, .inl (G.2 0, 4, .inl (b 1))), (ad 2, .inl (G.2 0, 12, .inl (upd (b 2) (itN b) x))), (ad 3, .inl (G.2 0, 12, .inl (upd (b 3) (itN b) y))), (ad 4, .inl (G.2 0, 12, .inl (upd (b 4) (itN b) z))), (ad 5, .inl (G.2 0, 12, .inl (b 5))), (ad 6, .inl (G.2 0, 12, .inl (b 6))), (ad 7, .inl (G.2 0, 12, .inl (b 7))), (ad 8, .inl (G.2 0, 288, .inl (b 8)))]) H := hP
  have hD : va_D A ([(ad 0, .inr (0, [.int (nI ((itN b) + 1)), .int (b 0 1), .ref (ad 1), .ref (ad 2), .ref (ad 3), .ref (ad 4), .ref (ad 5), .ref (ad 6), .ref (ad 7), .ref (ad 8)])), (ad 1, .inl (G.2 0, 4, .inl (b 1))), (ad 2, .inl (G.2 0, 12, .inl (upd (b 2) (itN b) x))), (ad 3, .inl (G.2 0, 12, .inl (upd (b 3) (itN b) y))), (ad 4, .inl (G.2 0, 12, .inl (upd (b 4) (itN b) z))), (ad 5, .inl (G.2 0, 12, .inl (b 5))), (ad 6, .inl (G.2 0, 12, .inl (b 6))), (ad 7, .inl (G.2 0, 12, .inl (b 7))), (ad 8, .inl (G.2 0, 288, .inl (b 8)))]) := hD
  refine lv_iload hx hb dX0_append_38 (lv_at hl 0 rfl) ?_
  have hP9 := hP
  exact W.iret (v := nI (itN b)) hx hb hr (fun t ht hW => ⟨⟨_, (), rfl, rfl, bM_end ht hP9⟩, hS.F ht⟩) hS.2.2 dX0_append_40
set_option maxHeartbeats 4000000 in
set_option maxRecDepth 100000 in
/-- Basket.link -/
theorem metX0_link (l : Launch) (G : GG) (ad : Nat → Nat) (b : Nat → Nat → Int32) (k j mo : Nat) (hk : k < 12) (hj : j < 12) : Met l yX0_link wsX0_link ({ frames := 0, cells := 0, slots := 0, locals := 0 }) (pM G (bcells G ad b) [.ref (ad 0), .int (nI k), .int (nI j), .int (nI mo)]) (va_Qv (fun (_ : Unit) => True) (bM G (fun _ : Unit => bcells G ad (bLnk b k j mo))) (adr (bcells G ad b))) 0 0 (adr (bcells G ad b)) := by
  refine Met.ofW (cc := cX0_link) (maxL := 4) (ret := none) (by decide) rfl ?_
  intro p e s m args below meth c s₁ B hml hv
  obtain ⟨rfl, hK, hP, hD0⟩ := hv
  have hx := B.exec
  have hb := B.bytes
  have hr := B.returns
  have hlocks := B.notSynchronized
  have hts := atoms_spec (ws := wsX0_link) B.pre
  have hown : s.vm.findClass RX0 = some m.cls := findClass_of_methodNamed B.named
  have hD := hD0.own
  generalize hAe : adr (bcells G ad b) = A at hD ⊢
  have hS : va_S A s.heap s.heap [] := va_S.rf
  have hl := lv_entry ([.ref (ad 0), .int (nI k), .int (nI j), .int (nI mo)]) (n := 4) (Nat.le_of_ble_eq_true rfl)
  rw [lg_entry_eq]
  generalize (lg_sl ([.ref (ad 0), .int (nI k), .int (nI j), .int (nI mo)]) ++ List.replicate (4 - (lg_sl ([.ref (ad 0), .int (nI k), .int (nI j), .int (nI mo)])).length) Slot.unset).toArray = ls at hl ⊢
  have hl : lv_has ls 4 [(0, .ref (ad 0)), (1, .int (nI k)), (2, .int (nI j)), (3, .int (nI mo))] := hl
  have hP : va_P G.1 vwCl ([(ad 0, .inr (0, [.int (b 0 0), .int (b 0 1), .ref (ad 1), .ref (ad 2), .ref (ad 3), .ref (ad 4), .ref (ad 5), .ref (ad 6), .ref (ad 7), .ref (ad 8)])), (ad 1, .inl (G.2 0, 4, .inl (b 1))), (ad 2, .inl (G.2 0, 12, .inl (b 2))), (ad 3, .inl (G.2 0, 12, .inl (b 3))), (ad 4, .inl (G.2 0, 12, .inl (b 4))), (ad 5, .inl (G.2 0, 12, .inl (b 5))), (ad 6, .inl (G.2 0, 12, .inl (b 6))), (ad 7, .inl (G.2 0, 12, .inl (b 7))), (ad 8, .inl (G.2 0, 288, .inl (b 8)))]) s.heap := hP
  have hD : va_D A ([(ad 0, .inr (0, [.int (b 0 0), .int (b 0 1), .ref (ad 1), .ref (ad 2), .ref (ad 3), .ref (ad 4), .ref (ad 5), .ref (ad 6), .ref (ad 7), .ref (ad 8)])), (ad 1, .inl (G.2 0, 4, .inl (b 1))), (ad 2, .inl (G.2 0, 12, .inl (b 2))), (ad 3, .inl (G.2 0, 12, .inl (b 3))), (ad 4, .inl (G.2 0, 12, .inl (b 4))), (ad 5, .inl (G.2 0, 12, .inl (b 5))), (ad 6, .inl (G.2 0, 12, .inl (b 6))), (ad 7, .inl (G.2 0, 12, .inl (b 7))), (ad 8, .inl (G.2 0, 288, .inl (b 8)))]) := hD
  refine lv_aload_n hx hb dX0_link_0 rfl (lv_at hl 0 rfl) ?_
  refine va_get (D := G.1) (ci := 0) (v := .ref (ad 5)) (C := RX0) (T := TX0) (N := 10) hx hb hts (by decide +kernel) hown hK.1 hP 0 rfl rfl 6 (by decide) (hts (.fieldLink RX0 24 "PriceIndexCalculator$Basket" "newItemOf" "[I") (by decide +kernel)) (fun _ h9 => h9) rfl dX0_link_1 ?_
  refine lv_iload_n hx hb dX0_link_4 rfl (lv_at hl 1 rfl) ?_
  refine lv_iload_n hx hb dX0_link_5 rfl (lv_at hl 2 rfl) ?_
  refine n_iast hx hb hK.1 hP hD hS 5 0 rfl rfl (j := k) (by omega) (by omega) dX0_link_6 (fun H locs hP hD hS => ?_)
  have hP : va_P G.1 vwCl ([(ad 0, .inr (0, [.int (b 0 0), .int (b 0 1), .ref (ad 1), .ref (ad 2), .ref (ad 3), .ref (ad 4), .ref (ad 5), .ref (ad 6), .ref (ad 7), .ref (ad 8)])), (ad 1, .inl (G.2 0, 4, .inl (b 1))), (ad 2, .inl (G.2 0, 12, .inl (b 2))), (ad 3, .inl (G.2 0, 12, .inl (b 3))), (ad 4, .inl (G.2 0, 12, .inl (b 4))), (ad 5, .inl (G.2 0, 12, .inl (upd (b 5) k (nI j)))), (ad 6, .inl (G.2 0, 12, .inl (b 6))), (ad 7, .inl (G.2 0, 12, .inl (b 7))), (ad 8, .inl (G.2 0, 288, .inl (b 8)))]) H := hP
  have hD : va_D A ([(ad 0, .inr (0, [.int (b 0 0), .int (b 0 1), .ref (ad 1), .ref (ad 2), .ref (ad 3), .ref (ad 4), .ref (ad 5), .ref (ad 6), .ref (ad 7), .ref (ad 8)])), (ad 1, .inl (G.2 0, 4, .inl (b 1))), (ad 2, .inl (G.2 0, 12, .inl (b 2))), (ad 3, .inl (G.2 0, 12, .inl (b 3))), (ad 4, .inl (G.2 0, 12, .inl (b 4))), (ad 5, .inl (G.2 0, 12, .inl (upd (b 5) k (nI j)))), (ad 6, .inl (G.2 0, 12, .inl (b 6))), (ad 7, .inl (G.2 0, 12, .inl (b 7))), (ad 8, .inl (G.2 0, 288, .inl (b 8)))]) := hD
  refine lv_aload_n hx hb dX0_link_7 rfl (lv_at hl 0 rfl) ?_
  refine va_get (D := G.1) (ci := 0) (v := .ref (ad 6)) (C := RX0) (T := TX0) (N := 10) hx hb hts (by decide +kernel) hown hK.1 hP 0 rfl rfl 7 (by decide) (hts (.fieldLink RX0 27 "PriceIndexCalculator$Basket" "oldItemOf" "[I") (by decide +kernel)) (fun _ h9 => h9) rfl dX0_link_8 ?_
  refine lv_iload_n hx hb dX0_link_11 rfl (lv_at hl 2 rfl) ?_
  refine lv_iload_n hx hb dX0_link_12 rfl (lv_at hl 1 rfl) ?_
  refine n_iast hx hb hK.1 hP hD hS 6 0 rfl rfl (j := j) (by omega) (by omega) dX0_link_13 (fun H locs hP hD hS => ?_)
  have hP : va_P G.1 vwCl ([(ad 0, .inr (0, [.int (b 0 0), .int (b 0 1), .ref (ad 1), .ref (ad 2), .ref (ad 3), .ref (ad 4), .ref (ad 5), .ref (ad 6), .ref (ad 7), .ref (ad 8)])), (ad 1, .inl (G.2 0, 4, .inl (b 1))), (ad 2, .inl (G.2 0, 12, .inl (b 2))), (ad 3, .inl (G.2 0, 12, .inl (b 3))), (ad 4, .inl (G.2 0, 12, .inl (b 4))), (ad 5, .inl (G.2 0, 12, .inl (upd (b 5) k (nI j)))), (ad 6, .inl (G.2 0, 12, .inl (upd (b 6) j (nI k)))), (ad 7, .inl (G.2 0, 12, .inl (b 7))), (ad 8, .inl (G.2 0, 288, .inl (b 8)))]) H := hP
  have hD : va_D A ([(ad 0, .inr (0, [.int (b 0 0), .int (b 0 1), .ref (ad 1), .ref (ad 2), .ref (ad 3), .ref (ad 4), .ref (ad 5), .ref (ad 6), .ref (ad 7), .ref (ad 8)])), (ad 1, .inl (G.2 0, 4, .inl (b 1))), (ad 2, .inl (G.2 0, 12, .inl (b 2))), (ad 3, .inl (G.2 0, 12, .inl (b 3))), (ad 4, .inl (G.2 0, 12, .inl (b 4))), (ad 5, .inl (G.2 0, 12, .inl (upd (b 5) k (nI j)))), (ad 6, .inl (G.2 0, 12, .inl (upd (b 6) j (nI k)))), (ad 7, .inl (G.2 0, 12, .inl (b 7))), (ad 8, .inl (G.2 0, 288, .inl (b 8)))]) := hD
  refine lv_aload_n hx hb dX0_link_14 rfl (lv_at hl 0 rfl) ?_
  refine va_get (D := G.1) (ci := 0) (v := .ref (ad 7)) (C := RX0) (T := TX0) (N := 10) hx hb hts (by decide +kernel) hown hK.1 hP 0 rfl rfl 8 (by decide) (hts (.fieldLink RX0 30 "PriceIndexCalculator$Basket" "overlap" "[I") (by decide +kernel)) (fun _ h9 => h9) rfl dX0_link_15 ?_
  refine lv_iload_n hx hb dX0_link_18 rfl (lv_at hl 1 rfl) ?_
  refine lv_iload_n hx hb dX0_link_19 rfl (lv_at hl 3 rfl) ?_
  refine n_iast hx hb hK.1 hP hD hS 7 0 rfl rfl (j := k) (by omega) (by omega) dX0_link_20 (fun H locs hP hD hS => ?_)
  have hP : va_P G.1 vwCl ([(ad 0, .inr (0, [.int (b 0 0), .int (b 0 1), .ref (ad 1), .ref (ad 2), .ref (ad 3), .ref (ad 4), .ref (ad 5), .ref (ad 6), .ref (ad 7), .ref (ad 8)])), (ad 1, .inl (G.2 0, 4, .inl (b 1))), (ad 2, .inl (G.2 0, 12, .inl (b 2))), (ad 3, .inl (G.2 0, 12, .inl (b 3))), (ad 4, .inl (G.2 0, 12, .inl (b 4))), (ad 5, .inl (G.2 0, 12, .inl (upd (b 5) k (nI j)))), (ad 6, .inl (G.2 0, 12, .inl (upd (b 6) j (nI k)))), (ad 7, .inl (G.2 0, 12, .inl (upd (b 7) k (nI mo)))), (ad 8, .inl (G.2 0, 288, .inl (b 8)))]) H := hP
  have hD : va_D A ([(ad 0, .inr (0, [.int (b 0 0), .int (b 0 1), .ref (ad 1), .ref (ad 2), .ref (ad 3), .ref (ad 4), .ref (ad 5), .ref (ad 6), .ref (ad 7), .ref (ad 8)])), (ad 1, .inl (G.2 0, 4, .inl (b 1))), (ad 2, .inl (G.2 0, 12, .inl (b 2))), (ad 3, .inl (G.2 0, 12, .inl (b 3))), (ad 4, .inl (G.2 0, 12, .inl (b 4))), (ad 5, .inl (G.2 0, 12, .inl (upd (b 5) k (nI j)))), (ad 6, .inl (G.2 0, 12, .inl (upd (b 6) j (nI k)))), (ad 7, .inl (G.2 0, 12, .inl (upd (b 7) k (nI mo)))), (ad 8, .inl (G.2 0, 288, .inl (b 8)))]) := hD
  have hP9 := hP
  exact W.vret hx hb hr (fun t ht hW => ⟨⟨(), rfl, trivial, bM_end ht hP9⟩, hS.F ht⟩) hS.2.2 dX0_link_21
set_option maxHeartbeats 4000000 in
set_option maxRecDepth 100000 in
/-- Basket.unlink -/
theorem metX0_unlink (l : Launch) (G : GG) (ad : Nat → Nat) (b : Nat → Nat → Int32) (hB : bWF b) (k : Nat) (hk : k < 12) : Met l yX0_unlink wsX0_unlink ({ frames := 0, cells := 0, slots := 0, locals := 0 }) (pM G (bcells G ad b) [.ref (ad 0), .int (nI k)]) (va_Qv (fun (_ : Unit) => True) (bM G (fun _ : Unit => bcells G ad (bUnl b k))) (adr (bcells G ad b))) 0 0 (adr (bcells G ad b)) := by
  refine Met.ofW (cc := cX0_unlink) (maxL := 4) (ret := none) (by decide) rfl ?_
  intro p e s m args below meth c s₁ B hml hv
  obtain ⟨rfl, hK, hP, hD0⟩ := hv
  have hx := B.exec
  have hb := B.bytes
  have hr := B.returns
  have hlocks := B.notSynchronized
  have hts := atoms_spec (ws := wsX0_unlink) B.pre
  have hown : s.vm.findClass RX0 = some m.cls := findClass_of_methodNamed B.named
  have hD := hD0.own
  generalize hAe : adr (bcells G ad b) = A at hD ⊢
  have hS : va_S A s.heap s.heap [] := va_S.rf
  have hl := lv_entry ([.ref (ad 0), .int (nI k)]) (n := 4) (Nat.le_of_ble_eq_true rfl)
  rw [lg_entry_eq]
  generalize (lg_sl ([.ref (ad 0), .int (nI k)]) ++ List.replicate (4 - (lg_sl ([.ref (ad 0), .int (nI k)])).length) Slot.unset).toArray = ls at hl ⊢
  have hl : lv_has ls 4 [(0, .ref (ad 0)), (1, .int (nI k))] := hl
  have hP : va_P G.1 vwCl ([(ad 0, .inr (0, [.int (b 0 0), .int (b 0 1), .ref (ad 1), .ref (ad 2), .ref (ad 3), .ref (ad 4), .ref (ad 5), .ref (ad 6), .ref (ad 7), .ref (ad 8)])), (ad 1, .inl (G.2 0, 4, .inl (b 1))), (ad 2, .inl (G.2 0, 12, .inl (b 2))), (ad 3, .inl (G.2 0, 12, .inl (b 3))), (ad 4, .inl (G.2 0, 12, .inl (b 4))), (ad 5, .inl (G.2 0, 12, .inl (b 5))), (ad 6, .inl (G.2 0, 12, .inl (b 6))), (ad 7, .inl (G.2 0, 12, .inl (b 7))), (ad 8, .inl (G.2 0, 288, .inl (b 8)))]) s.heap := hP
  have hD : va_D A ([(ad 0, .inr (0, [.int (b 0 0), .int (b 0 1), .ref (ad 1), .ref (ad 2), .ref (ad 3), .ref (ad 4), .ref (ad 5), .ref (ad 6), .ref (ad 7), .ref (ad 8)])), (ad 1, .inl (G.2 0, 4, .inl (b 1))), (ad 2, .inl (G.2 0, 12, .inl (b 2))), (ad 3, .inl (G.2 0, 12, .inl (b 3))), (ad 4, .inl (G.2 0, 12, .inl (b 4))), (ad 5, .inl (G.2 0, 12, .inl (b 5))), (ad 6, .inl (G.2 0, 12, .inl (b 6))), (ad 7, .inl (G.2 0, 12, .inl (b 7))), (ad 8, .inl (G.2 0, 288, .inl (b 8)))]) := hD
  refine lv_aload_n hx hb dX0_unlink_0 rfl (lv_at hl 0 rfl) ?_
  refine va_get (D := G.1) (ci := 0) (v := .ref (ad 6)) (C := RX0) (T := TX0) (N := 10) hx hb hts (by decide +kernel) hown hK.1 hP 0 rfl rfl 7 (by decide) (hts (.fieldLink RX0 27 "PriceIndexCalculator$Basket" "oldItemOf" "[I") (by decide +kernel)) (fun _ h9 => h9) rfl dX0_unlink_1 ?_
  refine lv_iload_n hx hb dX0_unlink_4 rfl (lv_at hl 1 rfl) ?_
  refine n_iald hx hb hK.1 hP 6 0 rfl rfl (j := k) (by omega) (by omega) dX0_unlink_5 ?_
  refine lv_iconst (v := (-1)) hx hb dX0_unlink_6 (by decide) ?_
  refine lv_icmp_ne (tgt := 14) hx hb dX0_unlink_7 (by decide) (fun c_1 => ?_) (fun c_1 => ?_)
  · refine lv_aload_n hx hb dX0_unlink_14 rfl (lv_at hl 0 rfl) ?_
    refine va_get (D := G.1) (ci := 0) (v := .ref (ad 6)) (C := RX0) (T := TX0) (N := 10) hx hb hts (by decide +kernel) hown hK.1 hP 0 rfl rfl 7 (by decide) (hts (.fieldLink RX0 27 "PriceIndexCalculator$Basket" "oldItemOf" "[I") (by decide +kernel)) (fun _ h9 => h9) rfl dX0_unlink_15 ?_
    refine lv_iload_n hx hb dX0_unlink_18 rfl (lv_at hl 1 rfl) ?_
    refine n_iald hx hb hK.1 hP 6 0 rfl rfl (j := k) (by omega) (by omega) dX0_unlink_19 ?_
    have eo : bOld b k = odN b k := by simp [bOld, c_1]
    have ho : bOld b k < 12 := by rw [eo]; exact (hB.2.2.2.2.1 k hk c_1).2
    refine eq_i (y := nI (bOld b k)) (by rw [eo]; exact (hB.2.2.2.2.1 k hk c_1).1) ?_
    refine lv_istore_n (lv' := [(2, .int (nI (bOld b k))), (0, .ref (ad 0)), (1, .int (nI k))]) hx hb dX0_unlink_20 rfl hl (by decide) rfl (fun ls hl => ?_)
    refine lv_aload_n hx hb dX0_unlink_21 rfl (lv_at hl 1 rfl) ?_
    refine va_get (D := G.1) (ci := 0) (v := .ref (ad 5)) (C := RX0) (T := TX0) (N := 10) hx hb hts (by decide +kernel) hown hK.1 hP 0 rfl rfl 6 (by decide) (hts (.fieldLink RX0 24 "PriceIndexCalculator$Basket" "newItemOf" "[I") (by decide +kernel)) (fun _ h9 => h9) rfl dX0_unlink_22 ?_
    refine lv_iload_n hx hb dX0_unlink_25 rfl (lv_at hl 0 rfl) ?_
    refine n_iald hx hb hK.1 hP 5 0 rfl rfl (j := bOld b k) (by omega) (by omega) dX0_unlink_26 ?_
    refine lv_istore_n (lv' := [(3, .int (b 5 (bOld b k))), (2, .int (nI (bOld b k))), (0, .ref (ad 0)), (1, .int (nI k))]) hx hb dX0_unlink_27 rfl hl (by decide) rfl (fun ls hl => ?_)
    refine lv_aload_n hx hb dX0_unlink_28 rfl (lv_at hl 2 rfl) ?_
    refine va_get (D := G.1) (ci := 0) (v := .ref (ad 5)) (C := RX0) (T := TX0) (N := 10) hx hb hts (by decide +kernel) hown hK.1 hP 0 rfl rfl 6 (by decide) (hts (.fieldLink RX0 24 "PriceIndexCalculator$Basket" "newItemOf" "[I") (by decide +kernel)) (fun _ h9 => h9) rfl dX0_unlink_29 ?_
    refine lv_iload_n hx hb dX0_unlink_32 rfl (lv_at hl 1 rfl) ?_
    refine lv_iconst (v := (-1)) hx hb dX0_unlink_33 (by decide) ?_
    refine n_iast hx hb hK.1 hP hD hS 5 0 rfl rfl (j := bOld b k) (by omega) (by omega) dX0_unlink_34 (fun H locs hP hD hS => ?_)
    have hP : va_P G.1 vwCl ([(ad 0, .inr (0, [.int (b 0 0), .int (b 0 1), .ref (ad 1), .ref (ad 2), .ref (ad 3), .ref (ad 4), .ref (ad 5), .ref (ad 6), .ref (ad 7), .ref (ad 8)])), (ad 1, .inl (G.2 0, 4, .inl (b 1))), (ad 2, .inl (G.2 0, 12, .inl (b 2))), (ad 3, .inl (G.2 0, 12, .inl (b 3))), (ad 4, .inl (G.2 0, 12, .inl (b 4))), (ad 5, .inl (G.2 0, 12, .inl (upd (b 5) (bOld b k) (-1)))), (ad 6, .inl (G.2 0, 12, .inl (b 6))), (ad 7, .inl (G.2 0, 12, .inl (b 7))), (ad 8, .inl (G.2 0, 288, .inl (b 8)))]) H := hP
    have hD : va_D A ([(ad 0, .inr (0, [.int (b 0 0), .int (b 0 1), .ref (ad 1), .ref (ad 2), .ref (ad 3), .ref (ad 4), .ref (ad 5), .ref (ad 6), .ref (ad 7), .ref (ad 8)])), (ad 1, .inl (G.2 0, 4, .inl (b 1))), (ad 2, .inl (G.2 0, 12, .inl (b 2))), (ad 3, .inl (G.2 0, 12, .inl (b 3))), (ad 4, .inl (G.2 0, 12, .inl (b 4))), (ad 5, .inl (G.2 0, 12, .inl (upd (b 5) (bOld b k) (-1)))), (ad 6, .inl (G.2 0, 12, .inl (b 6))), (ad 7, .inl (G.2 0, 12, .inl (b 7))), (ad 8, .inl (G.2 0, 288, .inl (b 8)))]) := hD
    refine lv_iload_n hx hb dX0_unlink_35 rfl (lv_at hl 0 rfl) ?_
    refine lv_iconst (v := (-1)) hx hb dX0_unlink_36 (by decide) ?_
    refine lv_icmp_eq (tgt := 47) hx hb dX0_unlink_37 (by decide) (fun c_2 => ?_) (fun c_2 => ?_)
    · have hP9 : va_P G.1 vwCl (bcells G ad (bUnl b k)) H := by
        rw [show bUnl b k = bPut b 5 (bOld b k) (-1) from if_pos c_2]; exact hP
      exact W.vret hx hb hr (fun t ht hW => ⟨⟨(), rfl, trivial, bM_end ht hP9⟩, hS.F ht⟩) hS.2.2 dX0_unlink_47
    · obtain ⟨e5, h5, e7, h7⟩ := hB.2.2.2.1 (bOld b k) ho c_2
      refine lv_aload_n hx hb dX0_unlink_40 rfl (lv_at hl 2 rfl) ?_
      refine va_get (D := G.1) (ci := 0) (v := .ref (ad 6)) (C := RX0) (T := TX0) (N := 10) hx hb hts (by decide +kernel) hown hK.1 hP 0 rfl rfl 7 (by decide) (hts (.fieldLink RX0 27 "PriceIndexCalculator$Basket" "oldItemOf" "[I") (by decide +kernel)) (fun _ h9 => h9) rfl dX0_unlink_41 ?_
      refine lv_iload_n hx hb dX0_unlink_44 rfl (lv_at hl 0 rfl) ?_
      refine eq_i (y := nI (nwN b (bOld b k))) (e5) ?_
      refine lv_iconst (v := (-1)) hx hb dX0_unlink_45 (by decide) ?_
      refine n_iast hx hb hK.1 hP hD hS 6 0 rfl rfl (j := nwN b (bOld b k)) (by omega) (by omega) dX0_unlink_46 (fun H locs hP hD hS => ?_)
      have hP : va_P G.1 vwCl ([(ad 0, .inr (0, [.int (b 0 0), .int (b 0 1), .ref (ad 1), .ref (ad 2), .ref (ad 3), .ref (ad 4), .ref (ad 5), .ref (ad 6), .ref (ad 7), .ref (ad 8)])), (ad 1, .inl (G.2 0, 4, .inl (b 1))), (ad 2, .inl (G.2 0, 12, .inl (b 2))), (ad 3, .inl (G.2 0, 12, .inl (b 3))), (ad 4, .inl (G.2 0, 12, .inl (b 4))), (ad 5, .inl (G.2 0, 12, .inl (upd (b 5) (bOld b k) (-1)))), (ad 6, .inl (G.2 0, 12, .inl (upd (b 6) (nwN b (bOld b k)) (-1)))), (ad 7, .inl (G.2 0, 12, .inl (b 7))), (ad 8, .inl (G.2 0, 288, .inl (b 8)))]) H := hP
      have hD : va_D A ([(ad 0, .inr (0, [.int (b 0 0), .int (b 0 1), .ref (ad 1), .ref (ad 2), .ref (ad 3), .ref (ad 4), .ref (ad 5), .ref (ad 6), .ref (ad 7), .ref (ad 8)])), (ad 1, .inl (G.2 0, 4, .inl (b 1))), (ad 2, .inl (G.2 0, 12, .inl (b 2))), (ad 3, .inl (G.2 0, 12, .inl (b 3))), (ad 4, .inl (G.2 0, 12, .inl (b 4))), (ad 5, .inl (G.2 0, 12, .inl (upd (b 5) (bOld b k) (-1)))), (ad 6, .inl (G.2 0, 12, .inl (upd (b 6) (nwN b (bOld b k)) (-1)))), (ad 7, .inl (G.2 0, 12, .inl (b 7))), (ad 8, .inl (G.2 0, 288, .inl (b 8)))]) := hD
      have hP9 : va_P G.1 vwCl (bcells G ad (bUnl b k)) H := by
        rw [show bUnl b k = bPut (bPut b 5 (bOld b k) (-1)) 6 (nwN b (bOld b k)) (-1) from if_neg c_2]; exact hP
      exact W.vret hx hb hr (fun t ht hW => ⟨⟨(), rfl, trivial, bM_end ht hP9⟩, hS.F ht⟩) hS.2.2 dX0_unlink_47
  · refine lv_iload_n hx hb dX0_unlink_10 rfl (lv_at hl 1 rfl) ?_
    refine lv_goto (tgt := 20) hx hb dX0_unlink_11 (by decide) ?_
    have eo : bOld b k = k := by simp [bOld, c_1]
    have ho : bOld b k < 12 := by rw [eo]; exact hk
    refine eq_i (y := nI (bOld b k)) (by rw [eo]) ?_
    refine lv_istore_n (lv' := [(2, .int (nI (bOld b k))), (0, .ref (ad 0)), (1, .int (nI k))]) hx hb dX0_unlink_20 rfl hl (by decide) rfl (fun ls hl => ?_)
    refine lv_aload_n hx hb dX0_unlink_21 rfl (lv_at hl 1 rfl) ?_
    refine va_get (D := G.1) (ci := 0) (v := .ref (ad 5)) (C := RX0) (T := TX0) (N := 10) hx hb hts (by decide +kernel) hown hK.1 hP 0 rfl rfl 6 (by decide) (hts (.fieldLink RX0 24 "PriceIndexCalculator$Basket" "newItemOf" "[I") (by decide +kernel)) (fun _ h9 => h9) rfl dX0_unlink_22 ?_
    refine lv_iload_n hx hb dX0_unlink_25 rfl (lv_at hl 0 rfl) ?_
    refine n_iald hx hb hK.1 hP 5 0 rfl rfl (j := bOld b k) (by omega) (by omega) dX0_unlink_26 ?_
    refine lv_istore_n (lv' := [(3, .int (b 5 (bOld b k))), (2, .int (nI (bOld b k))), (0, .ref (ad 0)), (1, .int (nI k))]) hx hb dX0_unlink_27 rfl hl (by decide) rfl (fun ls hl => ?_)
    refine lv_aload_n hx hb dX0_unlink_28 rfl (lv_at hl 2 rfl) ?_
    refine va_get (D := G.1) (ci := 0) (v := .ref (ad 5)) (C := RX0) (T := TX0) (N := 10) hx hb hts (by decide +kernel) hown hK.1 hP 0 rfl rfl 6 (by decide) (hts (.fieldLink RX0 24 "PriceIndexCalculator$Basket" "newItemOf" "[I") (by decide +kernel)) (fun _ h9 => h9) rfl dX0_unlink_29 ?_
    refine lv_iload_n hx hb dX0_unlink_32 rfl (lv_at hl 1 rfl) ?_
    refine lv_iconst (v := (-1)) hx hb dX0_unlink_33 (by decide) ?_
    refine n_iast hx hb hK.1 hP hD hS 5 0 rfl rfl (j := bOld b k) (by omega) (by omega) dX0_unlink_34 (fun H locs hP hD hS => ?_)
    have hP : va_P G.1 vwCl ([(ad 0, .inr (0, [.int (b 0 0), .int (b 0 1), .ref (ad 1), .ref (ad 2), .ref (ad 3), .ref (ad 4), .ref (ad 5), .ref (ad 6), .ref (ad 7), .ref (ad 8)])), (ad 1, .inl (G.2 0, 4, .inl (b 1))), (ad 2, .inl (G.2 0, 12, .inl (b 2))), (ad 3, .inl (G.2 0, 12, .inl (b 3))), (ad 4, .inl (G.2 0, 12, .inl (b 4))), (ad 5, .inl (G.2 0, 12, .inl (upd (b 5) (bOld b k) (-1)))), (ad 6, .inl (G.2 0, 12, .inl (b 6))), (ad 7, .inl (G.2 0, 12, .inl (b 7))), (ad 8, .inl (G.2 0, 288, .inl (b 8)))]) H := hP
    have hD : va_D A ([(ad 0, .inr (0, [.int (b 0 0), .int (b 0 1), .ref (ad 1), .ref (ad 2), .ref (ad 3), .ref (ad 4), .ref (ad 5), .ref (ad 6), .ref (ad 7), .ref (ad 8)])), (ad 1, .inl (G.2 0, 4, .inl (b 1))), (ad 2, .inl (G.2 0, 12, .inl (b 2))), (ad 3, .inl (G.2 0, 12, .inl (b 3))), (ad 4, .inl (G.2 0, 12, .inl (b 4))), (ad 5, .inl (G.2 0, 12, .inl (upd (b 5) (bOld b k) (-1)))), (ad 6, .inl (G.2 0, 12, .inl (b 6))), (ad 7, .inl (G.2 0, 12, .inl (b 7))), (ad 8, .inl (G.2 0, 288, .inl (b 8)))]) := hD
    refine lv_iload_n hx hb dX0_unlink_35 rfl (lv_at hl 0 rfl) ?_
    refine lv_iconst (v := (-1)) hx hb dX0_unlink_36 (by decide) ?_
    refine lv_icmp_eq (tgt := 47) hx hb dX0_unlink_37 (by decide) (fun c_3 => ?_) (fun c_3 => ?_)
    · have hP9 : va_P G.1 vwCl (bcells G ad (bUnl b k)) H := by
        rw [show bUnl b k = bPut b 5 (bOld b k) (-1) from if_pos c_3]; exact hP
      exact W.vret hx hb hr (fun t ht hW => ⟨⟨(), rfl, trivial, bM_end ht hP9⟩, hS.F ht⟩) hS.2.2 dX0_unlink_47
    · obtain ⟨e5, h5, e7, h7⟩ := hB.2.2.2.1 (bOld b k) ho c_3
      refine lv_aload_n hx hb dX0_unlink_40 rfl (lv_at hl 2 rfl) ?_
      refine va_get (D := G.1) (ci := 0) (v := .ref (ad 6)) (C := RX0) (T := TX0) (N := 10) hx hb hts (by decide +kernel) hown hK.1 hP 0 rfl rfl 7 (by decide) (hts (.fieldLink RX0 27 "PriceIndexCalculator$Basket" "oldItemOf" "[I") (by decide +kernel)) (fun _ h9 => h9) rfl dX0_unlink_41 ?_
      refine lv_iload_n hx hb dX0_unlink_44 rfl (lv_at hl 0 rfl) ?_
      refine eq_i (y := nI (nwN b (bOld b k))) (e5) ?_
      refine lv_iconst (v := (-1)) hx hb dX0_unlink_45 (by decide) ?_
      refine n_iast hx hb hK.1 hP hD hS 6 0 rfl rfl (j := nwN b (bOld b k)) (by omega) (by omega) dX0_unlink_46 (fun H locs hP hD hS => ?_)
      have hP : va_P G.1 vwCl ([(ad 0, .inr (0, [.int (b 0 0), .int (b 0 1), .ref (ad 1), .ref (ad 2), .ref (ad 3), .ref (ad 4), .ref (ad 5), .ref (ad 6), .ref (ad 7), .ref (ad 8)])), (ad 1, .inl (G.2 0, 4, .inl (b 1))), (ad 2, .inl (G.2 0, 12, .inl (b 2))), (ad 3, .inl (G.2 0, 12, .inl (b 3))), (ad 4, .inl (G.2 0, 12, .inl (b 4))), (ad 5, .inl (G.2 0, 12, .inl (upd (b 5) (bOld b k) (-1)))), (ad 6, .inl (G.2 0, 12, .inl (upd (b 6) (nwN b (bOld b k)) (-1)))), (ad 7, .inl (G.2 0, 12, .inl (b 7))), (ad 8, .inl (G.2 0, 288, .inl (b 8)))]) H := hP
      have hD : va_D A ([(ad 0, .inr (0, [.int (b 0 0), .int (b 0 1), .ref (ad 1), .ref (ad 2), .ref (ad 3), .ref (ad 4), .ref (ad 5), .ref (ad 6), .ref (ad 7), .ref (ad 8)])), (ad 1, .inl (G.2 0, 4, .inl (b 1))), (ad 2, .inl (G.2 0, 12, .inl (b 2))), (ad 3, .inl (G.2 0, 12, .inl (b 3))), (ad 4, .inl (G.2 0, 12, .inl (b 4))), (ad 5, .inl (G.2 0, 12, .inl (upd (b 5) (bOld b k) (-1)))), (ad 6, .inl (G.2 0, 12, .inl (upd (b 6) (nwN b (bOld b k)) (-1)))), (ad 7, .inl (G.2 0, 12, .inl (b 7))), (ad 8, .inl (G.2 0, 288, .inl (b 8)))]) := hD
      have hP9 : va_P G.1 vwCl (bcells G ad (bUnl b k)) H := by
        rw [show bUnl b k = bPut (bPut b 5 (bOld b k) (-1)) 6 (nwN b (bOld b k)) (-1) from if_neg c_3]; exact hP
      exact W.vret hx hb hr (fun t ht hW => ⟨⟨(), rfl, trivial, bM_end ht hP9⟩, hS.F ht⟩) hS.2.2 dX0_unlink_47
set_option maxHeartbeats 4000000 in
set_option maxRecDepth 100000 in
/-- Basket.copyFrom -/
theorem metX0_copyFrom (l : Launch) (G : GG) (ad ad2 : Nat → Nat) (b b2 : Nat → Nat → Int32) : Met l yX0_copyFrom wsX0_copyFrom ({ frames := 1, cells := 0, slots := 0, locals := 30 }) (pM G (bcells G ad b ++ bcells G ad2 b2) [.ref (ad 0), .ref (ad2 0)]) (va_Qv (fun (_ : Unit) => True) (bM G (fun _ : Unit => bcells G ad b2 ++ bcells G ad2 b2)) (adr (bcells G ad b ++ bcells G ad2 b2))) 0 0 (adr (bcells G ad b ++ bcells G ad2 b2)) := by
  refine Met.ofW (cc := cX0_copyFrom) (maxL := 2) (ret := none) (by decide) rfl ?_
  intro p e s m args below meth c s₁ B hml hv
  obtain ⟨rfl, hK, hP, hD0⟩ := hv
  have hx := B.exec
  have hb := B.bytes
  have hr := B.returns
  have hlocks := B.notSynchronized
  have hts := atoms_spec (ws := wsX0_copyFrom) B.pre
  have hown : s.vm.findClass RX0 = some m.cls := findClass_of_methodNamed B.named
  have hD := hD0.own
  generalize hAe : adr (bcells G ad b ++ bcells G ad2 b2) = A at hD ⊢
  have hS : va_S A s.heap s.heap [] := va_S.rf
  have hl := lv_entry ([.ref (ad 0), .ref (ad2 0)]) (n := 2) (Nat.le_of_ble_eq_true rfl)
  rw [lg_entry_eq]
  generalize (lg_sl ([.ref (ad 0), .ref (ad2 0)]) ++ List.replicate (2 - (lg_sl ([.ref (ad 0), .ref (ad2 0)])).length) Slot.unset).toArray = ls at hl ⊢
  have hl : lv_has ls 2 [(0, .ref (ad 0)), (1, .ref (ad2 0))] := hl
  have hP : va_P G.1 vwCl ([(ad 0, .inr (0, [.int (b 0 0), .int (b 0 1), .ref (ad 1), .ref (ad 2), .ref (ad 3), .ref (ad 4), .ref (ad 5), .ref (ad 6), .ref (ad 7), .ref (ad 8)])), (ad 1, .inl (G.2 0, 4, .inl (b 1))), (ad 2, .inl (G.2 0, 12, .inl (b 2))), (ad 3, .inl (G.2 0, 12, .inl (b 3))), (ad 4, .inl (G.2 0, 12, .inl (b 4))), (ad 5, .inl (G.2 0, 12, .inl (b 5))), (ad 6, .inl (G.2 0, 12, .inl (b 6))), (ad 7, .inl (G.2 0, 12, .inl (b 7))), (ad 8, .inl (G.2 0, 288, .inl (b 8))), (ad2 0, .inr (0, [.int (b2 0 0), .int (b2 0 1), .ref (ad2 1), .ref (ad2 2), .ref (ad2 3), .ref (ad2 4), .ref (ad2 5), .ref (ad2 6), .ref (ad2 7), .ref (ad2 8)])), (ad2 1, .inl (G.2 0, 4, .inl (b2 1))), (ad2 2, .inl (G.2 0, 12, .inl (b2 2))), (ad2 3, .inl (G.2 0, 12, .inl (b2 3))), (ad2 4, .inl (G.2 0, 12, .inl (b2 4))), (ad2 5, .inl (G.2 0, 12, .inl (b2 5))), (ad2 6, .inl (G.2 0, 12, .inl (b2 6))), (ad2 7, .inl (G.2 0, 12, .inl (b2 7))), (ad2 8, .inl (G.2 0, 288, .inl (b2 8)))]) s.heap := hP
  have hD : va_D A ([(ad 0, .inr (0, [.int (b 0 0), .int (b 0 1), .ref (ad 1), .ref (ad 2), .ref (ad 3), .ref (ad 4), .ref (ad 5), .ref (ad 6), .ref (ad 7), .ref (ad 8)])), (ad 1, .inl (G.2 0, 4, .inl (b 1))), (ad 2, .inl (G.2 0, 12, .inl (b 2))), (ad 3, .inl (G.2 0, 12, .inl (b 3))), (ad 4, .inl (G.2 0, 12, .inl (b 4))), (ad 5, .inl (G.2 0, 12, .inl (b 5))), (ad 6, .inl (G.2 0, 12, .inl (b 6))), (ad 7, .inl (G.2 0, 12, .inl (b 7))), (ad 8, .inl (G.2 0, 288, .inl (b 8))), (ad2 0, .inr (0, [.int (b2 0 0), .int (b2 0 1), .ref (ad2 1), .ref (ad2 2), .ref (ad2 3), .ref (ad2 4), .ref (ad2 5), .ref (ad2 6), .ref (ad2 7), .ref (ad2 8)])), (ad2 1, .inl (G.2 0, 4, .inl (b2 1))), (ad2 2, .inl (G.2 0, 12, .inl (b2 2))), (ad2 3, .inl (G.2 0, 12, .inl (b2 3))), (ad2 4, .inl (G.2 0, 12, .inl (b2 4))), (ad2 5, .inl (G.2 0, 12, .inl (b2 5))), (ad2 6, .inl (G.2 0, 12, .inl (b2 6))), (ad2 7, .inl (G.2 0, 12, .inl (b2 7))), (ad2 8, .inl (G.2 0, 288, .inl (b2 8)))]) := hD
  refine lv_aload_n hx hb dX0_copyFrom_0 rfl (lv_at hl 0 rfl) ?_
  refine lv_aload_n hx hb dX0_copyFrom_1 rfl (lv_at hl 1 rfl) ?_
  refine va_get (D := G.1) (ci := 0) (v := .int (b2 0 0)) (C := RX0) (T := TX0) (N := 10) hx hb hts (by decide +kernel) hown hK.1 hP 9 rfl rfl 0 (by decide) (hts (.fieldLink RX0 36 "PriceIndexCalculator$Basket" "items" "I") (by decide +kernel)) (fun _ h9 => h9) rfl dX0_copyFrom_2 ?_
  refine va_put (D := G.1) (ci := 0) (v := .int (b2 0 0)) (ty := .int) (C := RX0) (T := TX0) (N := 10) hx hb hts (by decide +kernel) tyX0 tyX0_ok nmX0 hown hK.1 hP hD hS 0 rfl rfl 0 (by decide) (hts (.fieldLink RX0 36 "PriceIndexCalculator$Basket" "items" "I") (by decide +kernel)) (fun _ h9 => h9) rfl (by decide +kernel) rfl rfl (Nat.le_of_ble_eq_true rfl) dX0_copyFrom_5 (fun H locs hP hD hS => ?_)
  have hP : va_P G.1 vwCl ([(ad 0, .inr (0, [.int (b2 0 0), .int (b 0 1), .ref (ad 1), .ref (ad 2), .ref (ad 3), .ref (ad 4), .ref (ad 5), .ref (ad 6), .ref (ad 7), .ref (ad 8)])), (ad 1, .inl (G.2 0, 4, .inl (b 1))), (ad 2, .inl (G.2 0, 12, .inl (b 2))), (ad 3, .inl (G.2 0, 12, .inl (b 3))), (ad 4, .inl (G.2 0, 12, .inl (b 4))), (ad 5, .inl (G.2 0, 12, .inl (b 5))), (ad 6, .inl (G.2 0, 12, .inl (b 6))), (ad 7, .inl (G.2 0, 12, .inl (b 7))), (ad 8, .inl (G.2 0, 288, .inl (b 8))), (ad2 0, .inr (0, [.int (b2 0 0), .int (b2 0 1), .ref (ad2 1), .ref (ad2 2), .ref (ad2 3), .ref (ad2 4), .ref (ad2 5), .ref (ad2 6), .ref (ad2 7), .ref (ad2 8)])), (ad2 1, .inl (G.2 0, 4, .inl (b2 1))), (ad2 2, .inl (G.2 0, 12, .inl (b2 2))), (ad2 3, .inl (G.2 0, 12, .inl (b2 3))), (ad2 4, .inl (G.2 0, 12, .inl (b2 4))), (ad2 5, .inl (G.2 0, 12, .inl (b2 5))), (ad2 6, .inl (G.2 0, 12, .inl (b2 6))), (ad2 7, .inl (G.2 0, 12, .inl (b2 7))), (ad2 8, .inl (G.2 0, 288, .inl (b2 8)))]) H := hP
  have hD : va_D A ([(ad 0, .inr (0, [.int (b2 0 0), .int (b 0 1), .ref (ad 1), .ref (ad 2), .ref (ad 3), .ref (ad 4), .ref (ad 5), .ref (ad 6), .ref (ad 7), .ref (ad 8)])), (ad 1, .inl (G.2 0, 4, .inl (b 1))), (ad 2, .inl (G.2 0, 12, .inl (b 2))), (ad 3, .inl (G.2 0, 12, .inl (b 3))), (ad 4, .inl (G.2 0, 12, .inl (b 4))), (ad 5, .inl (G.2 0, 12, .inl (b 5))), (ad 6, .inl (G.2 0, 12, .inl (b 6))), (ad 7, .inl (G.2 0, 12, .inl (b 7))), (ad 8, .inl (G.2 0, 288, .inl (b 8))), (ad2 0, .inr (0, [.int (b2 0 0), .int (b2 0 1), .ref (ad2 1), .ref (ad2 2), .ref (ad2 3), .ref (ad2 4), .ref (ad2 5), .ref (ad2 6), .ref (ad2 7), .ref (ad2 8)])), (ad2 1, .inl (G.2 0, 4, .inl (b2 1))), (ad2 2, .inl (G.2 0, 12, .inl (b2 2))), (ad2 3, .inl (G.2 0, 12, .inl (b2 3))), (ad2 4, .inl (G.2 0, 12, .inl (b2 4))), (ad2 5, .inl (G.2 0, 12, .inl (b2 5))), (ad2 6, .inl (G.2 0, 12, .inl (b2 6))), (ad2 7, .inl (G.2 0, 12, .inl (b2 7))), (ad2 8, .inl (G.2 0, 288, .inl (b2 8)))]) := hD
  refine lv_aload_n hx hb dX0_copyFrom_8 rfl (lv_at hl 0 rfl) ?_
  refine lv_aload_n hx hb dX0_copyFrom_9 rfl (lv_at hl 1 rfl) ?_
  refine va_get (D := G.1) (ci := 0) (v := .int (b2 0 1)) (C := RX0) (T := TX0) (N := 10) hx hb hts (by decide +kernel) hown hK.1 hP 9 rfl rfl 1 (by decide) (hts (.fieldLink RX0 40 "PriceIndexCalculator$Basket" "formula" "I") (by decide +kernel)) (fun _ h9 => h9) rfl dX0_copyFrom_10 ?_
  refine va_put (D := G.1) (ci := 0) (v := .int (b2 0 1)) (ty := .int) (C := RX0) (T := TX0) (N := 10) hx hb hts (by decide +kernel) tyX0 tyX0_ok nmX0 hown hK.1 hP hD hS 0 rfl rfl 1 (by decide) (hts (.fieldLink RX0 40 "PriceIndexCalculator$Basket" "formula" "I") (by decide +kernel)) (fun _ h9 => h9) rfl (by decide +kernel) rfl rfl (Nat.le_of_ble_eq_true rfl) dX0_copyFrom_13 (fun H locs hP hD hS => ?_)
  have hP : va_P G.1 vwCl ([(ad 0, .inr (0, [.int (b2 0 0), .int (b2 0 1), .ref (ad 1), .ref (ad 2), .ref (ad 3), .ref (ad 4), .ref (ad 5), .ref (ad 6), .ref (ad 7), .ref (ad 8)])), (ad 1, .inl (G.2 0, 4, .inl (b 1))), (ad 2, .inl (G.2 0, 12, .inl (b 2))), (ad 3, .inl (G.2 0, 12, .inl (b 3))), (ad 4, .inl (G.2 0, 12, .inl (b 4))), (ad 5, .inl (G.2 0, 12, .inl (b 5))), (ad 6, .inl (G.2 0, 12, .inl (b 6))), (ad 7, .inl (G.2 0, 12, .inl (b 7))), (ad 8, .inl (G.2 0, 288, .inl (b 8))), (ad2 0, .inr (0, [.int (b2 0 0), .int (b2 0 1), .ref (ad2 1), .ref (ad2 2), .ref (ad2 3), .ref (ad2 4), .ref (ad2 5), .ref (ad2 6), .ref (ad2 7), .ref (ad2 8)])), (ad2 1, .inl (G.2 0, 4, .inl (b2 1))), (ad2 2, .inl (G.2 0, 12, .inl (b2 2))), (ad2 3, .inl (G.2 0, 12, .inl (b2 3))), (ad2 4, .inl (G.2 0, 12, .inl (b2 4))), (ad2 5, .inl (G.2 0, 12, .inl (b2 5))), (ad2 6, .inl (G.2 0, 12, .inl (b2 6))), (ad2 7, .inl (G.2 0, 12, .inl (b2 7))), (ad2 8, .inl (G.2 0, 288, .inl (b2 8)))]) H := hP
  have hD : va_D A ([(ad 0, .inr (0, [.int (b2 0 0), .int (b2 0 1), .ref (ad 1), .ref (ad 2), .ref (ad 3), .ref (ad 4), .ref (ad 5), .ref (ad 6), .ref (ad 7), .ref (ad 8)])), (ad 1, .inl (G.2 0, 4, .inl (b 1))), (ad 2, .inl (G.2 0, 12, .inl (b 2))), (ad 3, .inl (G.2 0, 12, .inl (b 3))), (ad 4, .inl (G.2 0, 12, .inl (b 4))), (ad 5, .inl (G.2 0, 12, .inl (b 5))), (ad 6, .inl (G.2 0, 12, .inl (b 6))), (ad 7, .inl (G.2 0, 12, .inl (b 7))), (ad 8, .inl (G.2 0, 288, .inl (b 8))), (ad2 0, .inr (0, [.int (b2 0 0), .int (b2 0 1), .ref (ad2 1), .ref (ad2 2), .ref (ad2 3), .ref (ad2 4), .ref (ad2 5), .ref (ad2 6), .ref (ad2 7), .ref (ad2 8)])), (ad2 1, .inl (G.2 0, 4, .inl (b2 1))), (ad2 2, .inl (G.2 0, 12, .inl (b2 2))), (ad2 3, .inl (G.2 0, 12, .inl (b2 3))), (ad2 4, .inl (G.2 0, 12, .inl (b2 4))), (ad2 5, .inl (G.2 0, 12, .inl (b2 5))), (ad2 6, .inl (G.2 0, 12, .inl (b2 6))), (ad2 7, .inl (G.2 0, 12, .inl (b2 7))), (ad2 8, .inl (G.2 0, 288, .inl (b2 8)))]) := hD
  refine lv_aload_n hx hb dX0_copyFrom_16 rfl (lv_at hl 1 rfl) ?_
  refine va_get (D := G.1) (ci := 0) (v := .ref (ad2 1)) (C := RX0) (T := TX0) (N := 10) hx hb hts (by decide +kernel) hown hK.1 hP 9 rfl rfl 2 (by decide) (hts (.fieldLink RX0 9 "PriceIndexCalculator$Basket" "weight" "[I") (by decide +kernel)) (fun _ h9 => h9) rfl dX0_copyFrom_17 ?_
  refine lv_iconst (v := nI 0) hx hb dX0_copyFrom_20 (by decide) ?_
  refine lv_aload_n hx hb dX0_copyFrom_21 rfl (lv_at hl 0 rfl) ?_
  refine va_get (D := G.1) (ci := 0) (v := .ref (ad 1)) (C := RX0) (T := TX0) (N := 10) hx hb hts (by decide +kernel) hown hK.1 hP 0 rfl rfl 2 (by decide) (hts (.fieldLink RX0 9 "PriceIndexCalculator$Basket" "weight" "[I") (by decide +kernel)) (fun _ h9 => h9) rfl dX0_copyFrom_22 ?_
  refine lv_iconst (v := nI 0) hx hb dX0_copyFrom_25 (by decide) ?_
  refine lv_iconst (v := nI 4) hx hb dX0_copyFrom_26 (by decide) ?_
  refine n_copy hx hb (by rw [hml]; exact hl.1.symm) hown (hts (.methodLink RX0 43 arraycopyName) (by decide +kernel)) (hts (.native arraycopyName) (by decide +kernel)) (hts (.static arraycopyName) (by decide +kernel)) (hts (.initialized "java/lang/System") (by decide +kernel)) hK.1 hP hD hS 10 1 0 0 rfl rfl rfl rfl (by omega) (Nat.le_of_ble_eq_true rfl) (Nat.le_of_ble_eq_true rfl) dX0_copyFrom_27 (fun H locs hP hD hS => ?_)
  have hP : va_P G.1 vwCl ([(ad 0, .inr (0, [.int (b2 0 0), .int (b2 0 1), .ref (ad 1), .ref (ad 2), .ref (ad 3), .ref (ad 4), .ref (ad 5), .ref (ad 6), .ref (ad 7), .ref (ad 8)])), (ad 1, .inl (G.2 0, 4, .inl (b2 1))), (ad 2, .inl (G.2 0, 12, .inl (b 2))), (ad 3, .inl (G.2 0, 12, .inl (b 3))), (ad 4, .inl (G.2 0, 12, .inl (b 4))), (ad 5, .inl (G.2 0, 12, .inl (b 5))), (ad 6, .inl (G.2 0, 12, .inl (b 6))), (ad 7, .inl (G.2 0, 12, .inl (b 7))), (ad 8, .inl (G.2 0, 288, .inl (b 8))), (ad2 0, .inr (0, [.int (b2 0 0), .int (b2 0 1), .ref (ad2 1), .ref (ad2 2), .ref (ad2 3), .ref (ad2 4), .ref (ad2 5), .ref (ad2 6), .ref (ad2 7), .ref (ad2 8)])), (ad2 1, .inl (G.2 0, 4, .inl (b2 1))), (ad2 2, .inl (G.2 0, 12, .inl (b2 2))), (ad2 3, .inl (G.2 0, 12, .inl (b2 3))), (ad2 4, .inl (G.2 0, 12, .inl (b2 4))), (ad2 5, .inl (G.2 0, 12, .inl (b2 5))), (ad2 6, .inl (G.2 0, 12, .inl (b2 6))), (ad2 7, .inl (G.2 0, 12, .inl (b2 7))), (ad2 8, .inl (G.2 0, 288, .inl (b2 8)))]) H := hP
  have hD : va_D A ([(ad 0, .inr (0, [.int (b2 0 0), .int (b2 0 1), .ref (ad 1), .ref (ad 2), .ref (ad 3), .ref (ad 4), .ref (ad 5), .ref (ad 6), .ref (ad 7), .ref (ad 8)])), (ad 1, .inl (G.2 0, 4, .inl (b2 1))), (ad 2, .inl (G.2 0, 12, .inl (b 2))), (ad 3, .inl (G.2 0, 12, .inl (b 3))), (ad 4, .inl (G.2 0, 12, .inl (b 4))), (ad 5, .inl (G.2 0, 12, .inl (b 5))), (ad 6, .inl (G.2 0, 12, .inl (b 6))), (ad 7, .inl (G.2 0, 12, .inl (b 7))), (ad 8, .inl (G.2 0, 288, .inl (b 8))), (ad2 0, .inr (0, [.int (b2 0 0), .int (b2 0 1), .ref (ad2 1), .ref (ad2 2), .ref (ad2 3), .ref (ad2 4), .ref (ad2 5), .ref (ad2 6), .ref (ad2 7), .ref (ad2 8)])), (ad2 1, .inl (G.2 0, 4, .inl (b2 1))), (ad2 2, .inl (G.2 0, 12, .inl (b2 2))), (ad2 3, .inl (G.2 0, 12, .inl (b2 3))), (ad2 4, .inl (G.2 0, 12, .inl (b2 4))), (ad2 5, .inl (G.2 0, 12, .inl (b2 5))), (ad2 6, .inl (G.2 0, 12, .inl (b2 6))), (ad2 7, .inl (G.2 0, 12, .inl (b2 7))), (ad2 8, .inl (G.2 0, 288, .inl (b2 8)))]) := hD
  refine lv_aload_n hx hb dX0_copyFrom_30 rfl (lv_at hl 1 rfl) ?_
  refine va_get (D := G.1) (ci := 0) (v := .ref (ad2 2)) (C := RX0) (T := TX0) (N := 10) hx hb hts (by decide +kernel) hown hK.1 hP 9 rfl rfl 3 (by decide) (hts (.fieldLink RX0 15 "PriceIndexCalculator$Basket" "stratum" "[I") (by decide +kernel)) (fun _ h9 => h9) rfl dX0_copyFrom_31 ?_
  refine lv_iconst (v := nI 0) hx hb dX0_copyFrom_34 (by decide) ?_
  refine lv_aload_n hx hb dX0_copyFrom_35 rfl (lv_at hl 0 rfl) ?_
  refine va_get (D := G.1) (ci := 0) (v := .ref (ad 2)) (C := RX0) (T := TX0) (N := 10) hx hb hts (by decide +kernel) hown hK.1 hP 0 rfl rfl 3 (by decide) (hts (.fieldLink RX0 15 "PriceIndexCalculator$Basket" "stratum" "[I") (by decide +kernel)) (fun _ h9 => h9) rfl dX0_copyFrom_36 ?_
  refine lv_iconst (v := nI 0) hx hb dX0_copyFrom_39 (by decide) ?_
  refine lv_bipush (v := nI 12) hx hb dX0_copyFrom_40 (by decide) ?_
  refine n_copy hx hb (by rw [hml]; exact hl.1.symm) hown (hts (.methodLink RX0 43 arraycopyName) (by decide +kernel)) (hts (.native arraycopyName) (by decide +kernel)) (hts (.static arraycopyName) (by decide +kernel)) (hts (.initialized "java/lang/System") (by decide +kernel)) hK.1 hP hD hS 11 2 0 0 rfl rfl rfl rfl (by omega) (Nat.le_of_ble_eq_true rfl) (Nat.le_of_ble_eq_true rfl) dX0_copyFrom_42 (fun H locs hP hD hS => ?_)
  have hP : va_P G.1 vwCl ([(ad 0, .inr (0, [.int (b2 0 0), .int (b2 0 1), .ref (ad 1), .ref (ad 2), .ref (ad 3), .ref (ad 4), .ref (ad 5), .ref (ad 6), .ref (ad 7), .ref (ad 8)])), (ad 1, .inl (G.2 0, 4, .inl (b2 1))), (ad 2, .inl (G.2 0, 12, .inl (b2 2))), (ad 3, .inl (G.2 0, 12, .inl (b 3))), (ad 4, .inl (G.2 0, 12, .inl (b 4))), (ad 5, .inl (G.2 0, 12, .inl (b 5))), (ad 6, .inl (G.2 0, 12, .inl (b 6))), (ad 7, .inl (G.2 0, 12, .inl (b 7))), (ad 8, .inl (G.2 0, 288, .inl (b 8))), (ad2 0, .inr (0, [.int (b2 0 0), .int (b2 0 1), .ref (ad2 1), .ref (ad2 2), .ref (ad2 3), .ref (ad2 4), .ref (ad2 5), .ref (ad2 6), .ref (ad2 7), .ref (ad2 8)])), (ad2 1, .inl (G.2 0, 4, .inl (b2 1))), (ad2 2, .inl (G.2 0, 12, .inl (b2 2))), (ad2 3, .inl (G.2 0, 12, .inl (b2 3))), (ad2 4, .inl (G.2 0, 12, .inl (b2 4))), (ad2 5, .inl (G.2 0, 12, .inl (b2 5))), (ad2 6, .inl (G.2 0, 12, .inl (b2 6))), (ad2 7, .inl (G.2 0, 12, .inl (b2 7))), (ad2 8, .inl (G.2 0, 288, .inl (b2 8)))]) H := hP
  have hD : va_D A ([(ad 0, .inr (0, [.int (b2 0 0), .int (b2 0 1), .ref (ad 1), .ref (ad 2), .ref (ad 3), .ref (ad 4), .ref (ad 5), .ref (ad 6), .ref (ad 7), .ref (ad 8)])), (ad 1, .inl (G.2 0, 4, .inl (b2 1))), (ad 2, .inl (G.2 0, 12, .inl (b2 2))), (ad 3, .inl (G.2 0, 12, .inl (b 3))), (ad 4, .inl (G.2 0, 12, .inl (b 4))), (ad 5, .inl (G.2 0, 12, .inl (b 5))), (ad 6, .inl (G.2 0, 12, .inl (b 6))), (ad 7, .inl (G.2 0, 12, .inl (b 7))), (ad 8, .inl (G.2 0, 288, .inl (b 8))), (ad2 0, .inr (0, [.int (b2 0 0), .int (b2 0 1), .ref (ad2 1), .ref (ad2 2), .ref (ad2 3), .ref (ad2 4), .ref (ad2 5), .ref (ad2 6), .ref (ad2 7), .ref (ad2 8)])), (ad2 1, .inl (G.2 0, 4, .inl (b2 1))), (ad2 2, .inl (G.2 0, 12, .inl (b2 2))), (ad2 3, .inl (G.2 0, 12, .inl (b2 3))), (ad2 4, .inl (G.2 0, 12, .inl (b2 4))), (ad2 5, .inl (G.2 0, 12, .inl (b2 5))), (ad2 6, .inl (G.2 0, 12, .inl (b2 6))), (ad2 7, .inl (G.2 0, 12, .inl (b2 7))), (ad2 8, .inl (G.2 0, 288, .inl (b2 8)))]) := hD
  refine lv_aload_n hx hb dX0_copyFrom_45 rfl (lv_at hl 1 rfl) ?_
  refine va_get (D := G.1) (ci := 0) (v := .ref (ad2 3)) (C := RX0) (T := TX0) (N := 10) hx hb hts (by decide +kernel) hown hK.1 hP 9 rfl rfl 4 (by decide) (hts (.fieldLink RX0 18 "PriceIndexCalculator$Basket" "size" "[I") (by decide +kernel)) (fun _ h9 => h9) rfl dX0_copyFrom_46 ?_
  refine lv_iconst (v := nI 0) hx hb dX0_copyFrom_49 (by decide) ?_
  refine lv_aload_n hx hb dX0_copyFrom_50 rfl (lv_at hl 0 rfl) ?_
  refine va_get (D := G.1) (ci := 0) (v := .ref (ad 3)) (C := RX0) (T := TX0) (N := 10) hx hb hts (by decide +kernel) hown hK.1 hP 0 rfl rfl 4 (by decide) (hts (.fieldLink RX0 18 "PriceIndexCalculator$Basket" "size" "[I") (by decide +kernel)) (fun _ h9 => h9) rfl dX0_copyFrom_51 ?_
  refine lv_iconst (v := nI 0) hx hb dX0_copyFrom_54 (by decide) ?_
  refine lv_bipush (v := nI 12) hx hb dX0_copyFrom_55 (by decide) ?_
  refine n_copy hx hb (by rw [hml]; exact hl.1.symm) hown (hts (.methodLink RX0 43 arraycopyName) (by decide +kernel)) (hts (.native arraycopyName) (by decide +kernel)) (hts (.static arraycopyName) (by decide +kernel)) (hts (.initialized "java/lang/System") (by decide +kernel)) hK.1 hP hD hS 12 3 0 0 rfl rfl rfl rfl (by omega) (Nat.le_of_ble_eq_true rfl) (Nat.le_of_ble_eq_true rfl) dX0_copyFrom_57 (fun H locs hP hD hS => ?_)
  have hP : va_P G.1 vwCl ([(ad 0, .inr (0, [.int (b2 0 0), .int (b2 0 1), .ref (ad 1), .ref (ad 2), .ref (ad 3), .ref (ad 4), .ref (ad 5), .ref (ad 6), .ref (ad 7), .ref (ad 8)])), (ad 1, .inl (G.2 0, 4, .inl (b2 1))), (ad 2, .inl (G.2 0, 12, .inl (b2 2))), (ad 3, .inl (G.2 0, 12, .inl (b2 3))), (ad 4, .inl (G.2 0, 12, .inl (b 4))), (ad 5, .inl (G.2 0, 12, .inl (b 5))), (ad 6, .inl (G.2 0, 12, .inl (b 6))), (ad 7, .inl (G.2 0, 12, .inl (b 7))), (ad 8, .inl (G.2 0, 288, .inl (b 8))), (ad2 0, .inr (0, [.int (b2 0 0), .int (b2 0 1), .ref (ad2 1), .ref (ad2 2), .ref (ad2 3), .ref (ad2 4), .ref (ad2 5), .ref (ad2 6), .ref (ad2 7), .ref (ad2 8)])), (ad2 1, .inl (G.2 0, 4, .inl (b2 1))), (ad2 2, .inl (G.2 0, 12, .inl (b2 2))), (ad2 3, .inl (G.2 0, 12, .inl (b2 3))), (ad2 4, .inl (G.2 0, 12, .inl (b2 4))), (ad2 5, .inl (G.2 0, 12, .inl (b2 5))), (ad2 6, .inl (G.2 0, 12, .inl (b2 6))), (ad2 7, .inl (G.2 0, 12, .inl (b2 7))), (ad2 8, .inl (G.2 0, 288, .inl (b2 8)))]) H := hP
  have hD : va_D A ([(ad 0, .inr (0, [.int (b2 0 0), .int (b2 0 1), .ref (ad 1), .ref (ad 2), .ref (ad 3), .ref (ad 4), .ref (ad 5), .ref (ad 6), .ref (ad 7), .ref (ad 8)])), (ad 1, .inl (G.2 0, 4, .inl (b2 1))), (ad 2, .inl (G.2 0, 12, .inl (b2 2))), (ad 3, .inl (G.2 0, 12, .inl (b2 3))), (ad 4, .inl (G.2 0, 12, .inl (b 4))), (ad 5, .inl (G.2 0, 12, .inl (b 5))), (ad 6, .inl (G.2 0, 12, .inl (b 6))), (ad 7, .inl (G.2 0, 12, .inl (b 7))), (ad 8, .inl (G.2 0, 288, .inl (b 8))), (ad2 0, .inr (0, [.int (b2 0 0), .int (b2 0 1), .ref (ad2 1), .ref (ad2 2), .ref (ad2 3), .ref (ad2 4), .ref (ad2 5), .ref (ad2 6), .ref (ad2 7), .ref (ad2 8)])), (ad2 1, .inl (G.2 0, 4, .inl (b2 1))), (ad2 2, .inl (G.2 0, 12, .inl (b2 2))), (ad2 3, .inl (G.2 0, 12, .inl (b2 3))), (ad2 4, .inl (G.2 0, 12, .inl (b2 4))), (ad2 5, .inl (G.2 0, 12, .inl (b2 5))), (ad2 6, .inl (G.2 0, 12, .inl (b2 6))), (ad2 7, .inl (G.2 0, 12, .inl (b2 7))), (ad2 8, .inl (G.2 0, 288, .inl (b2 8)))]) := hD
  refine lv_aload_n hx hb dX0_copyFrom_60 rfl (lv_at hl 1 rfl) ?_
  refine va_get (D := G.1) (ci := 0) (v := .ref (ad2 4)) (C := RX0) (T := TX0) (N := 10) hx hb hts (by decide +kernel) hown hK.1 hP 9 rfl rfl 5 (by decide) (hts (.fieldLink RX0 21 "PriceIndexCalculator$Basket" "seasons" "[I") (by decide +kernel)) (fun _ h9 => h9) rfl dX0_copyFrom_61 ?_
  refine lv_iconst (v := nI 0) hx hb dX0_copyFrom_64 (by decide) ?_
  refine lv_aload_n hx hb dX0_copyFrom_65 rfl (lv_at hl 0 rfl) ?_
  refine va_get (D := G.1) (ci := 0) (v := .ref (ad 4)) (C := RX0) (T := TX0) (N := 10) hx hb hts (by decide +kernel) hown hK.1 hP 0 rfl rfl 5 (by decide) (hts (.fieldLink RX0 21 "PriceIndexCalculator$Basket" "seasons" "[I") (by decide +kernel)) (fun _ h9 => h9) rfl dX0_copyFrom_66 ?_
  refine lv_iconst (v := nI 0) hx hb dX0_copyFrom_69 (by decide) ?_
  refine lv_bipush (v := nI 12) hx hb dX0_copyFrom_70 (by decide) ?_
  refine n_copy hx hb (by rw [hml]; exact hl.1.symm) hown (hts (.methodLink RX0 43 arraycopyName) (by decide +kernel)) (hts (.native arraycopyName) (by decide +kernel)) (hts (.static arraycopyName) (by decide +kernel)) (hts (.initialized "java/lang/System") (by decide +kernel)) hK.1 hP hD hS 13 4 0 0 rfl rfl rfl rfl (by omega) (Nat.le_of_ble_eq_true rfl) (Nat.le_of_ble_eq_true rfl) dX0_copyFrom_72 (fun H locs hP hD hS => ?_)
  have hP : va_P G.1 vwCl ([(ad 0, .inr (0, [.int (b2 0 0), .int (b2 0 1), .ref (ad 1), .ref (ad 2), .ref (ad 3), .ref (ad 4), .ref (ad 5), .ref (ad 6), .ref (ad 7), .ref (ad 8)])), (ad 1, .inl (G.2 0, 4, .inl (b2 1))), (ad 2, .inl (G.2 0, 12, .inl (b2 2))), (ad 3, .inl (G.2 0, 12, .inl (b2 3))), (ad 4, .inl (G.2 0, 12, .inl (b2 4))), (ad 5, .inl (G.2 0, 12, .inl (b 5))), (ad 6, .inl (G.2 0, 12, .inl (b 6))), (ad 7, .inl (G.2 0, 12, .inl (b 7))), (ad 8, .inl (G.2 0, 288, .inl (b 8))), (ad2 0, .inr (0, [.int (b2 0 0), .int (b2 0 1), .ref (ad2 1), .ref (ad2 2), .ref (ad2 3), .ref (ad2 4), .ref (ad2 5), .ref (ad2 6), .ref (ad2 7), .ref (ad2 8)])), (ad2 1, .inl (G.2 0, 4, .inl (b2 1))), (ad2 2, .inl (G.2 0, 12, .inl (b2 2))), (ad2 3, .inl (G.2 0, 12, .inl (b2 3))), (ad2 4, .inl (G.2 0, 12, .inl (b2 4))), (ad2 5, .inl (G.2 0, 12, .inl (b2 5))), (ad2 6, .inl (G.2 0, 12, .inl (b2 6))), (ad2 7, .inl (G.2 0, 12, .inl (b2 7))), (ad2 8, .inl (G.2 0, 288, .inl (b2 8)))]) H := hP
  have hD : va_D A ([(ad 0, .inr (0, [.int (b2 0 0), .int (b2 0 1), .ref (ad 1), .ref (ad 2), .ref (ad 3), .ref (ad 4), .ref (ad 5), .ref (ad 6), .ref (ad 7), .ref (ad 8)])), (ad 1, .inl (G.2 0, 4, .inl (b2 1))), (ad 2, .inl (G.2 0, 12, .inl (b2 2))), (ad 3, .inl (G.2 0, 12, .inl (b2 3))), (ad 4, .inl (G.2 0, 12, .inl (b2 4))), (ad 5, .inl (G.2 0, 12, .inl (b 5))), (ad 6, .inl (G.2 0, 12, .inl (b 6))), (ad 7, .inl (G.2 0, 12, .inl (b 7))), (ad 8, .inl (G.2 0, 288, .inl (b 8))), (ad2 0, .inr (0, [.int (b2 0 0), .int (b2 0 1), .ref (ad2 1), .ref (ad2 2), .ref (ad2 3), .ref (ad2 4), .ref (ad2 5), .ref (ad2 6), .ref (ad2 7), .ref (ad2 8)])), (ad2 1, .inl (G.2 0, 4, .inl (b2 1))), (ad2 2, .inl (G.2 0, 12, .inl (b2 2))), (ad2 3, .inl (G.2 0, 12, .inl (b2 3))), (ad2 4, .inl (G.2 0, 12, .inl (b2 4))), (ad2 5, .inl (G.2 0, 12, .inl (b2 5))), (ad2 6, .inl (G.2 0, 12, .inl (b2 6))), (ad2 7, .inl (G.2 0, 12, .inl (b2 7))), (ad2 8, .inl (G.2 0, 288, .inl (b2 8)))]) := hD
  refine lv_aload_n hx hb dX0_copyFrom_75 rfl (lv_at hl 1 rfl) ?_
  refine va_get (D := G.1) (ci := 0) (v := .ref (ad2 5)) (C := RX0) (T := TX0) (N := 10) hx hb hts (by decide +kernel) hown hK.1 hP 9 rfl rfl 6 (by decide) (hts (.fieldLink RX0 24 "PriceIndexCalculator$Basket" "newItemOf" "[I") (by decide +kernel)) (fun _ h9 => h9) rfl dX0_copyFrom_76 ?_
  refine lv_iconst (v := nI 0) hx hb dX0_copyFrom_79 (by decide) ?_
  refine lv_aload_n hx hb dX0_copyFrom_80 rfl (lv_at hl 0 rfl) ?_
  refine va_get (D := G.1) (ci := 0) (v := .ref (ad 5)) (C := RX0) (T := TX0) (N := 10) hx hb hts (by decide +kernel) hown hK.1 hP 0 rfl rfl 6 (by decide) (hts (.fieldLink RX0 24 "PriceIndexCalculator$Basket" "newItemOf" "[I") (by decide +kernel)) (fun _ h9 => h9) rfl dX0_copyFrom_81 ?_
  refine lv_iconst (v := nI 0) hx hb dX0_copyFrom_84 (by decide) ?_
  refine lv_bipush (v := nI 12) hx hb dX0_copyFrom_85 (by decide) ?_
  refine n_copy hx hb (by rw [hml]; exact hl.1.symm) hown (hts (.methodLink RX0 43 arraycopyName) (by decide +kernel)) (hts (.native arraycopyName) (by decide +kernel)) (hts (.static arraycopyName) (by decide +kernel)) (hts (.initialized "java/lang/System") (by decide +kernel)) hK.1 hP hD hS 14 5 0 0 rfl rfl rfl rfl (by omega) (Nat.le_of_ble_eq_true rfl) (Nat.le_of_ble_eq_true rfl) dX0_copyFrom_87 (fun H locs hP hD hS => ?_)
  have hP : va_P G.1 vwCl ([(ad 0, .inr (0, [.int (b2 0 0), .int (b2 0 1), .ref (ad 1), .ref (ad 2), .ref (ad 3), .ref (ad 4), .ref (ad 5), .ref (ad 6), .ref (ad 7), .ref (ad 8)])), (ad 1, .inl (G.2 0, 4, .inl (b2 1))), (ad 2, .inl (G.2 0, 12, .inl (b2 2))), (ad 3, .inl (G.2 0, 12, .inl (b2 3))), (ad 4, .inl (G.2 0, 12, .inl (b2 4))), (ad 5, .inl (G.2 0, 12, .inl (b2 5))), (ad 6, .inl (G.2 0, 12, .inl (b 6))), (ad 7, .inl (G.2 0, 12, .inl (b 7))), (ad 8, .inl (G.2 0, 288, .inl (b 8))), (ad2 0, .inr (0, [.int (b2 0 0), .int (b2 0 1), .ref (ad2 1), .ref (ad2 2), .ref (ad2 3), .ref (ad2 4), .ref (ad2 5), .ref (ad2 6), .ref (ad2 7), .ref (ad2 8)])), (ad2 1, .inl (G.2 0, 4, .inl (b2 1))), (ad2 2, .inl (G.2 0, 12, .inl (b2 2))), (ad2 3, .inl (G.2 0, 12, .inl (b2 3))), (ad2 4, .inl (G.2 0, 12, .inl (b2 4))), (ad2 5, .inl (G.2 0, 12, .inl (b2 5))), (ad2 6, .inl (G.2 0, 12, .inl (b2 6))), (ad2 7, .inl (G.2 0, 12, .inl (b2 7))), (ad2 8, .inl (G.2 0, 288, .inl (b2 8)))]) H := hP
  have hD : va_D A ([(ad 0, .inr (0, [.int (b2 0 0), .int (b2 0 1), .ref (ad 1), .ref (ad 2), .ref (ad 3), .ref (ad 4), .ref (ad 5), .ref (ad 6), .ref (ad 7), .ref (ad 8)])), (ad 1, .inl (G.2 0, 4, .inl (b2 1))), (ad 2, .inl (G.2 0, 12, .inl (b2 2))), (ad 3, .inl (G.2 0, 12, .inl (b2 3))), (ad 4, .inl (G.2 0, 12, .inl (b2 4))), (ad 5, .inl (G.2 0, 12, .inl (b2 5))), (ad 6, .inl (G.2 0, 12, .inl (b 6))), (ad 7, .inl (G.2 0, 12, .inl (b 7))), (ad 8, .inl (G.2 0, 288, .inl (b 8))), (ad2 0, .inr (0, [.int (b2 0 0), .int (b2 0 1), .ref (ad2 1), .ref (ad2 2), .ref (ad2 3), .ref (ad2 4), .ref (ad2 5), .ref (ad2 6), .ref (ad2 7), .ref (ad2 8)])), (ad2 1, .inl (G.2 0, 4, .inl (b2 1))), (ad2 2, .inl (G.2 0, 12, .inl (b2 2))), (ad2 3, .inl (G.2 0, 12, .inl (b2 3))), (ad2 4, .inl (G.2 0, 12, .inl (b2 4))), (ad2 5, .inl (G.2 0, 12, .inl (b2 5))), (ad2 6, .inl (G.2 0, 12, .inl (b2 6))), (ad2 7, .inl (G.2 0, 12, .inl (b2 7))), (ad2 8, .inl (G.2 0, 288, .inl (b2 8)))]) := hD
  refine lv_aload_n hx hb dX0_copyFrom_90 rfl (lv_at hl 1 rfl) ?_
  refine va_get (D := G.1) (ci := 0) (v := .ref (ad2 6)) (C := RX0) (T := TX0) (N := 10) hx hb hts (by decide +kernel) hown hK.1 hP 9 rfl rfl 7 (by decide) (hts (.fieldLink RX0 27 "PriceIndexCalculator$Basket" "oldItemOf" "[I") (by decide +kernel)) (fun _ h9 => h9) rfl dX0_copyFrom_91 ?_
  refine lv_iconst (v := nI 0) hx hb dX0_copyFrom_94 (by decide) ?_
  refine lv_aload_n hx hb dX0_copyFrom_95 rfl (lv_at hl 0 rfl) ?_
  refine va_get (D := G.1) (ci := 0) (v := .ref (ad 6)) (C := RX0) (T := TX0) (N := 10) hx hb hts (by decide +kernel) hown hK.1 hP 0 rfl rfl 7 (by decide) (hts (.fieldLink RX0 27 "PriceIndexCalculator$Basket" "oldItemOf" "[I") (by decide +kernel)) (fun _ h9 => h9) rfl dX0_copyFrom_96 ?_
  refine lv_iconst (v := nI 0) hx hb dX0_copyFrom_99 (by decide) ?_
  refine lv_bipush (v := nI 12) hx hb dX0_copyFrom_100 (by decide) ?_
  refine n_copy hx hb (by rw [hml]; exact hl.1.symm) hown (hts (.methodLink RX0 43 arraycopyName) (by decide +kernel)) (hts (.native arraycopyName) (by decide +kernel)) (hts (.static arraycopyName) (by decide +kernel)) (hts (.initialized "java/lang/System") (by decide +kernel)) hK.1 hP hD hS 15 6 0 0 rfl rfl rfl rfl (by omega) (Nat.le_of_ble_eq_true rfl) (Nat.le_of_ble_eq_true rfl) dX0_copyFrom_102 (fun H locs hP hD hS => ?_)
  have hP : va_P G.1 vwCl ([(ad 0, .inr (0, [.int (b2 0 0), .int (b2 0 1), .ref (ad 1), .ref (ad 2), .ref (ad 3), .ref (ad 4), .ref (ad 5), .ref (ad 6), .ref (ad 7), .ref (ad 8)])), (ad 1, .inl (G.2 0, 4, .inl (b2 1))), (ad 2, .inl (G.2 0, 12, .inl (b2 2))), (ad 3, .inl (G.2 0, 12, .inl (b2 3))), (ad 4, .inl (G.2 0, 12, .inl (b2 4))), (ad 5, .inl (G.2 0, 12, .inl (b2 5))), (ad 6, .inl (G.2 0, 12, .inl (b2 6))), (ad 7, .inl (G.2 0, 12, .inl (b 7))), (ad 8, .inl (G.2 0, 288, .inl (b 8))), (ad2 0, .inr (0, [.int (b2 0 0), .int (b2 0 1), .ref (ad2 1), .ref (ad2 2), .ref (ad2 3), .ref (ad2 4), .ref (ad2 5), .ref (ad2 6), .ref (ad2 7), .ref (ad2 8)])), (ad2 1, .inl (G.2 0, 4, .inl (b2 1))), (ad2 2, .inl (G.2 0, 12, .inl (b2 2))), (ad2 3, .inl (G.2 0, 12, .inl (b2 3))), (ad2 4, .inl (G.2 0, 12, .inl (b2 4))), (ad2 5, .inl (G.2 0, 12, .inl (b2 5))), (ad2 6, .inl (G.2 0, 12, .inl (b2 6))), (ad2 7, .inl (G.2 0, 12, .inl (b2 7))), (ad2 8, .inl (G.2 0, 288, .inl (b2 8)))]) H := hP
  have hD : va_D A ([(ad 0, .inr (0, [.int (b2 0 0), .int (b2 0 1), .ref (ad 1), .ref (ad 2), .ref (ad 3), .ref (ad 4), .ref (ad 5), .ref (ad 6), .ref (ad 7), .ref (ad 8)])), (ad 1, .inl (G.2 0, 4, .inl (b2 1))), (ad 2, .inl (G.2 0, 12, .inl (b2 2))), (ad 3, .inl (G.2 0, 12, .inl (b2 3))), (ad 4, .inl (G.2 0, 12, .inl (b2 4))), (ad 5, .inl (G.2 0, 12, .inl (b2 5))), (ad 6, .inl (G.2 0, 12, .inl (b2 6))), (ad 7, .inl (G.2 0, 12, .inl (b 7))), (ad 8, .inl (G.2 0, 288, .inl (b 8))), (ad2 0, .inr (0, [.int (b2 0 0), .int (b2 0 1), .ref (ad2 1), .ref (ad2 2), .ref (ad2 3), .ref (ad2 4), .ref (ad2 5), .ref (ad2 6), .ref (ad2 7), .ref (ad2 8)])), (ad2 1, .inl (G.2 0, 4, .inl (b2 1))), (ad2 2, .inl (G.2 0, 12, .inl (b2 2))), (ad2 3, .inl (G.2 0, 12, .inl (b2 3))), (ad2 4, .inl (G.2 0, 12, .inl (b2 4))), (ad2 5, .inl (G.2 0, 12, .inl (b2 5))), (ad2 6, .inl (G.2 0, 12, .inl (b2 6))), (ad2 7, .inl (G.2 0, 12, .inl (b2 7))), (ad2 8, .inl (G.2 0, 288, .inl (b2 8)))]) := hD
  refine lv_aload_n hx hb dX0_copyFrom_105 rfl (lv_at hl 1 rfl) ?_
  refine va_get (D := G.1) (ci := 0) (v := .ref (ad2 7)) (C := RX0) (T := TX0) (N := 10) hx hb hts (by decide +kernel) hown hK.1 hP 9 rfl rfl 8 (by decide) (hts (.fieldLink RX0 30 "PriceIndexCalculator$Basket" "overlap" "[I") (by decide +kernel)) (fun _ h9 => h9) rfl dX0_copyFrom_106 ?_
  refine lv_iconst (v := nI 0) hx hb dX0_copyFrom_109 (by decide) ?_
  refine lv_aload_n hx hb dX0_copyFrom_110 rfl (lv_at hl 0 rfl) ?_
  refine va_get (D := G.1) (ci := 0) (v := .ref (ad 7)) (C := RX0) (T := TX0) (N := 10) hx hb hts (by decide +kernel) hown hK.1 hP 0 rfl rfl 8 (by decide) (hts (.fieldLink RX0 30 "PriceIndexCalculator$Basket" "overlap" "[I") (by decide +kernel)) (fun _ h9 => h9) rfl dX0_copyFrom_111 ?_
  refine lv_iconst (v := nI 0) hx hb dX0_copyFrom_114 (by decide) ?_
  refine lv_bipush (v := nI 12) hx hb dX0_copyFrom_115 (by decide) ?_
  refine n_copy hx hb (by rw [hml]; exact hl.1.symm) hown (hts (.methodLink RX0 43 arraycopyName) (by decide +kernel)) (hts (.native arraycopyName) (by decide +kernel)) (hts (.static arraycopyName) (by decide +kernel)) (hts (.initialized "java/lang/System") (by decide +kernel)) hK.1 hP hD hS 16 7 0 0 rfl rfl rfl rfl (by omega) (Nat.le_of_ble_eq_true rfl) (Nat.le_of_ble_eq_true rfl) dX0_copyFrom_117 (fun H locs hP hD hS => ?_)
  have hP : va_P G.1 vwCl ([(ad 0, .inr (0, [.int (b2 0 0), .int (b2 0 1), .ref (ad 1), .ref (ad 2), .ref (ad 3), .ref (ad 4), .ref (ad 5), .ref (ad 6), .ref (ad 7), .ref (ad 8)])), (ad 1, .inl (G.2 0, 4, .inl (b2 1))), (ad 2, .inl (G.2 0, 12, .inl (b2 2))), (ad 3, .inl (G.2 0, 12, .inl (b2 3))), (ad 4, .inl (G.2 0, 12, .inl (b2 4))), (ad 5, .inl (G.2 0, 12, .inl (b2 5))), (ad 6, .inl (G.2 0, 12, .inl (b2 6))), (ad 7, .inl (G.2 0, 12, .inl (b2 7))), (ad 8, .inl (G.2 0, 288, .inl (b 8))), (ad2 0, .inr (0, [.int (b2 0 0), .int (b2 0 1), .ref (ad2 1), .ref (ad2 2), .ref (ad2 3), .ref (ad2 4), .ref (ad2 5), .ref (ad2 6), .ref (ad2 7), .ref (ad2 8)])), (ad2 1, .inl (G.2 0, 4, .inl (b2 1))), (ad2 2, .inl (G.2 0, 12, .inl (b2 2))), (ad2 3, .inl (G.2 0, 12, .inl (b2 3))), (ad2 4, .inl (G.2 0, 12, .inl (b2 4))), (ad2 5, .inl (G.2 0, 12, .inl (b2 5))), (ad2 6, .inl (G.2 0, 12, .inl (b2 6))), (ad2 7, .inl (G.2 0, 12, .inl (b2 7))), (ad2 8, .inl (G.2 0, 288, .inl (b2 8)))]) H := hP
  have hD : va_D A ([(ad 0, .inr (0, [.int (b2 0 0), .int (b2 0 1), .ref (ad 1), .ref (ad 2), .ref (ad 3), .ref (ad 4), .ref (ad 5), .ref (ad 6), .ref (ad 7), .ref (ad 8)])), (ad 1, .inl (G.2 0, 4, .inl (b2 1))), (ad 2, .inl (G.2 0, 12, .inl (b2 2))), (ad 3, .inl (G.2 0, 12, .inl (b2 3))), (ad 4, .inl (G.2 0, 12, .inl (b2 4))), (ad 5, .inl (G.2 0, 12, .inl (b2 5))), (ad 6, .inl (G.2 0, 12, .inl (b2 6))), (ad 7, .inl (G.2 0, 12, .inl (b2 7))), (ad 8, .inl (G.2 0, 288, .inl (b 8))), (ad2 0, .inr (0, [.int (b2 0 0), .int (b2 0 1), .ref (ad2 1), .ref (ad2 2), .ref (ad2 3), .ref (ad2 4), .ref (ad2 5), .ref (ad2 6), .ref (ad2 7), .ref (ad2 8)])), (ad2 1, .inl (G.2 0, 4, .inl (b2 1))), (ad2 2, .inl (G.2 0, 12, .inl (b2 2))), (ad2 3, .inl (G.2 0, 12, .inl (b2 3))), (ad2 4, .inl (G.2 0, 12, .inl (b2 4))), (ad2 5, .inl (G.2 0, 12, .inl (b2 5))), (ad2 6, .inl (G.2 0, 12, .inl (b2 6))), (ad2 7, .inl (G.2 0, 12, .inl (b2 7))), (ad2 8, .inl (G.2 0, 288, .inl (b2 8)))]) := hD
  refine lv_aload_n hx hb dX0_copyFrom_120 rfl (lv_at hl 1 rfl) ?_
  refine va_get (D := G.1) (ci := 0) (v := .ref (ad2 8)) (C := RX0) (T := TX0) (N := 10) hx hb hts (by decide +kernel) hown hK.1 hP 9 rfl rfl 9 (by decide) (hts (.fieldLink RX0 33 "PriceIndexCalculator$Basket" "quoted" "[I") (by decide +kernel)) (fun _ h9 => h9) rfl dX0_copyFrom_121 ?_
  refine lv_iconst (v := nI 0) hx hb dX0_copyFrom_124 (by decide) ?_
  refine lv_aload_n hx hb dX0_copyFrom_125 rfl (lv_at hl 0 rfl) ?_
  refine va_get (D := G.1) (ci := 0) (v := .ref (ad 8)) (C := RX0) (T := TX0) (N := 10) hx hb hts (by decide +kernel) hown hK.1 hP 0 rfl rfl 9 (by decide) (hts (.fieldLink RX0 33 "PriceIndexCalculator$Basket" "quoted" "[I") (by decide +kernel)) (fun _ h9 => h9) rfl dX0_copyFrom_126 ?_
  refine lv_iconst (v := nI 0) hx hb dX0_copyFrom_129 (by decide) ?_
  refine lv_sipush (v := nI 288) hx hb dX0_copyFrom_130 (by decide) ?_
  refine n_copy hx hb (by rw [hml]; exact hl.1.symm) hown (hts (.methodLink RX0 43 arraycopyName) (by decide +kernel)) (hts (.native arraycopyName) (by decide +kernel)) (hts (.static arraycopyName) (by decide +kernel)) (hts (.initialized "java/lang/System") (by decide +kernel)) hK.1 hP hD hS 17 8 0 0 rfl rfl rfl rfl (by omega) (Nat.le_of_ble_eq_true rfl) (Nat.le_of_ble_eq_true rfl) dX0_copyFrom_133 (fun H locs hP hD hS => ?_)
  have hP : va_P G.1 vwCl ([(ad 0, .inr (0, [.int (b2 0 0), .int (b2 0 1), .ref (ad 1), .ref (ad 2), .ref (ad 3), .ref (ad 4), .ref (ad 5), .ref (ad 6), .ref (ad 7), .ref (ad 8)])), (ad 1, .inl (G.2 0, 4, .inl (b2 1))), (ad 2, .inl (G.2 0, 12, .inl (b2 2))), (ad 3, .inl (G.2 0, 12, .inl (b2 3))), (ad 4, .inl (G.2 0, 12, .inl (b2 4))), (ad 5, .inl (G.2 0, 12, .inl (b2 5))), (ad 6, .inl (G.2 0, 12, .inl (b2 6))), (ad 7, .inl (G.2 0, 12, .inl (b2 7))), (ad 8, .inl (G.2 0, 288, .inl (b2 8))), (ad2 0, .inr (0, [.int (b2 0 0), .int (b2 0 1), .ref (ad2 1), .ref (ad2 2), .ref (ad2 3), .ref (ad2 4), .ref (ad2 5), .ref (ad2 6), .ref (ad2 7), .ref (ad2 8)])), (ad2 1, .inl (G.2 0, 4, .inl (b2 1))), (ad2 2, .inl (G.2 0, 12, .inl (b2 2))), (ad2 3, .inl (G.2 0, 12, .inl (b2 3))), (ad2 4, .inl (G.2 0, 12, .inl (b2 4))), (ad2 5, .inl (G.2 0, 12, .inl (b2 5))), (ad2 6, .inl (G.2 0, 12, .inl (b2 6))), (ad2 7, .inl (G.2 0, 12, .inl (b2 7))), (ad2 8, .inl (G.2 0, 288, .inl (b2 8)))]) H := hP
  have hD : va_D A ([(ad 0, .inr (0, [.int (b2 0 0), .int (b2 0 1), .ref (ad 1), .ref (ad 2), .ref (ad 3), .ref (ad 4), .ref (ad 5), .ref (ad 6), .ref (ad 7), .ref (ad 8)])), (ad 1, .inl (G.2 0, 4, .inl (b2 1))), (ad 2, .inl (G.2 0, 12, .inl (b2 2))), (ad 3, .inl (G.2 0, 12, .inl (b2 3))), (ad 4, .inl (G.2 0, 12, .inl (b2 4))), (ad 5, .inl (G.2 0, 12, .inl (b2 5))), (ad 6, .inl (G.2 0, 12, .inl (b2 6))), (ad 7, .inl (G.2 0, 12, .inl (b2 7))), (ad 8, .inl (G.2 0, 288, .inl (b2 8))), (ad2 0, .inr (0, [.int (b2 0 0), .int (b2 0 1), .ref (ad2 1), .ref (ad2 2), .ref (ad2 3), .ref (ad2 4), .ref (ad2 5), .ref (ad2 6), .ref (ad2 7), .ref (ad2 8)])), (ad2 1, .inl (G.2 0, 4, .inl (b2 1))), (ad2 2, .inl (G.2 0, 12, .inl (b2 2))), (ad2 3, .inl (G.2 0, 12, .inl (b2 3))), (ad2 4, .inl (G.2 0, 12, .inl (b2 4))), (ad2 5, .inl (G.2 0, 12, .inl (b2 5))), (ad2 6, .inl (G.2 0, 12, .inl (b2 6))), (ad2 7, .inl (G.2 0, 12, .inl (b2 7))), (ad2 8, .inl (G.2 0, 288, .inl (b2 8)))]) := hD
  have hP9 := hP
  exact W.vret hx hb hr (fun t ht hW => ⟨⟨(), rfl, trivial, bM_end ht hP9⟩, hS.F ht⟩) hS.2.2 dX0_copyFrom_136
