set_option maxHeartbeats 4000000 in
set_option maxRecDepth 100000 in
/-- PriceRows.has -/
theorem metX2_has (l : Launch) (G : GG) (ra : Nat → Nat) (h : Nat) (ex : Nat → Bool) (v : Nat → UInt32) (k mo : Nat) (hk : k < 12) (hm : mo < 24) : Met l yX2_has wsX2_has ({ frames := 1, cells := 0, slots := 0, locals := 30 }) (pR G (rcells G ra h ex v) [.ref (ra 0), .int (nI k), .int (nI mo)]) (vp_Si (fun r => r = bI (ex (k * 24 + mo)))) 0 0 (fun _ => False) := by
  refine Met.ofW (cc := cX2_has) (maxL := 3) (ret := (some .boolean)) (by decide) rfl ?_
  intro p e s m args below meth c s₁ B hml hv
  obtain ⟨rfl, hK, hP⟩ := hv
  have hx := B.exec
  have hb := B.bytes
  have hr := B.returns
  have hlocks := B.notSynchronized
  have hts := atoms_spec (ws := wsX2_has) B.pre
  have hown : s.vm.findClass RX2 = some m.cls := findClass_of_methodNamed B.named
  have hl := lv_entry ([.ref (ra 0), .int (nI k), .int (nI mo)]) (n := 3) (Nat.le_of_ble_eq_true rfl)
  rw [lg_entry_eq]
  generalize (lg_sl ([.ref (ra 0), .int (nI k), .int (nI mo)]) ++ List.replicate (3 - (lg_sl ([.ref (ra 0), .int (nI k), .int (nI mo)])).length) Slot.unset).toArray = ls at hl ⊢
  have hl : lv_has ls 3 [(0, .ref (ra 0)), (1, .int (nI k)), (2, .int (nI mo))] := hl
  refine lv_aload_n hx hb dX2_has_0 rfl (lv_at hl 0 rfl) ?_
  refine va_get (D := G.1) (ci := 2) (v := .ref (ra 1)) (C := RX2) (T := TX2) (N := 3) hx hb hts (by decide +kernel) hown hK.1 hP 0 rfl rfl 1 (by decide) (hts (.fieldLink RX2 9 "PriceIndexCalculator$PriceRows" "exists" "[Z") (by decide +kernel)) (fun _ h9 => h9) rfl dX2_has_1 ?_
  refine lv_iload_n hx hb dX2_has_4 rfl (lv_at hl 1 rfl) ?_
  refine lv_iload_n hx hb dX2_has_5 rfl (lv_at hl 2 rfl) ?_
  refine cr_i (va_runSN (As := [.int (nI k), .int (nI mo)]) (rest := [.ref (ra 1)]) ⟨hx, hb, hml, hown, hts⟩ (metX6_cell l G k mo) ⟨va_cnB 2 hts gX2_has_X6_cell_n23 rfl rfl rfl hK.2.2.1 (hts (.initialized RX6) (by decide +kernel)) (by decide +kernel) ⟨Nat.le_of_ble_eq_true rfl, Nat.le_of_ble_eq_true rfl⟩, (hts (.static yX6_cell) (by decide +kernel)), trivial⟩ (pR_S hK (va_P_nil _ _ _)) rfl rfl hl.1 rfl (lv_room (Nat.le_of_ble_eq_true rfl)) dX2_has_6 ⟨Nat.zero_le _, Nat.zero_le _⟩) (fun r_1 hr_2 => ?_)
  subst hr_2
  refine n_zald hx hb hK.1 hP 1 1 rfl rfl (j := k * 24 + mo) (by omega) (by omega) dX2_has_9 ?_
  exact W.zret (v := bI (ex (k * 24 + mo))) (ty := .boolean) hx hb hr (nar_bI _) (fun t ht hW => ⟨_, rfl, rfl, ht⟩) (fun q hq => absurd hq List.not_mem_nil) dX2_has_10
set_option maxHeartbeats 4000000 in
set_option maxRecDepth 100000 in
/-- PriceRows.get -/
theorem metX2_get (l : Launch) (G : GG) (ra : Nat → Nat) (h : Nat) (ex : Nat → Bool) (v : Nat → UInt32) (k mo : Nat) (hk : k < 12) (hm : mo < 24) : Met l yX2_get wsX2_get ({ frames := 1, cells := 0, slots := 0, locals := 30 }) (pR G (rcells G ra h ex v) [.ref (ra 0), .int (nI k), .int (nI mo)]) (vp_Sf (fun r => r = v (k * 24 + mo))) 0 0 (fun _ => False) := by
  refine Met.ofW (cc := cX2_get) (maxL := 3) (ret := (some .float)) (by decide) rfl ?_
  intro p e s m args below meth c s₁ B hml hv
  obtain ⟨rfl, hK, hP⟩ := hv
  have hx := B.exec
  have hb := B.bytes
  have hr := B.returns
  have hlocks := B.notSynchronized
  have hts := atoms_spec (ws := wsX2_get) B.pre
  have hown : s.vm.findClass RX2 = some m.cls := findClass_of_methodNamed B.named
  have hl := lv_entry ([.ref (ra 0), .int (nI k), .int (nI mo)]) (n := 3) (Nat.le_of_ble_eq_true rfl)
  rw [lg_entry_eq]
  generalize (lg_sl ([.ref (ra 0), .int (nI k), .int (nI mo)]) ++ List.replicate (3 - (lg_sl ([.ref (ra 0), .int (nI k), .int (nI mo)])).length) Slot.unset).toArray = ls at hl ⊢
  have hl : lv_has ls 3 [(0, .ref (ra 0)), (1, .int (nI k)), (2, .int (nI mo))] := hl
  refine lv_aload_n hx hb dX2_get_0 rfl (lv_at hl 0 rfl) ?_
  refine va_get (D := G.1) (ci := 2) (v := .ref (ra 2)) (C := RX2) (T := TX2) (N := 3) hx hb hts (by decide +kernel) hown hK.1 hP 0 rfl rfl 2 (by decide) (hts (.fieldLink RX2 15 "PriceIndexCalculator$PriceRows" "price" "[F") (by decide +kernel)) (fun _ h9 => h9) rfl dX2_get_1 ?_
  refine lv_iload_n hx hb dX2_get_4 rfl (lv_at hl 1 rfl) ?_
  refine lv_iload_n hx hb dX2_get_5 rfl (lv_at hl 2 rfl) ?_
  refine cr_i (va_runSN (As := [.int (nI k), .int (nI mo)]) (rest := [.ref (ra 2)]) ⟨hx, hb, hml, hown, hts⟩ (metX6_cell l G k mo) ⟨va_cnB 2 hts gX2_get_X6_cell_n23 rfl rfl rfl hK.2.2.1 (hts (.initialized RX6) (by decide +kernel)) (by decide +kernel) ⟨Nat.le_of_ble_eq_true rfl, Nat.le_of_ble_eq_true rfl⟩, (hts (.static yX6_cell) (by decide +kernel)), trivial⟩ (pR_S hK (va_P_nil _ _ _)) rfl rfl hl.1 rfl (lv_room (Nat.le_of_ble_eq_true rfl)) dX2_get_6 ⟨Nat.zero_le _, Nat.zero_le _⟩) (fun r_1 hr_2 => ?_)
  subst hr_2
  refine n_fald hx hb hK.1 hP 2 2 rfl rfl (j := k * 24 + mo) (by omega) (by omega) dX2_get_9 ?_
  exact W.fret (v := v (k * 24 + mo)) hx hb hr (fun t ht hW => ⟨_, rfl, rfl, ht⟩) (fun q hq => absurd hq List.not_mem_nil) dX2_get_10
set_option maxHeartbeats 4000000 in
set_option maxRecDepth 100000 in
/-- PriceRows.isMatched -/
theorem metX2_isMatched (l : Launch) (G : GG) (ra ad : Nat → Nat) (ex : Nat → Bool) (v : Nat → UInt32) (b : Nat → Nat → Int32) (k : Nat) (x : Int32) (fr tt : Nat) (hk : k < 12) (hfr : fr < 24) (htt : tt < 24) : Met l yX2_isMatched wsX2_isMatched ({ frames := 1, cells := 0, slots := 0, locals := 30 }) (pR G (rbcells G ra ad ex v b) [.ref (ra 0), .int (nI k), .int x, .int (nI fr), .int (nI tt)]) (vp_Si (fun r => r = bI (mat b ex x fr tt k))) 0 0 (fun _ => False) := by
  refine Met.ofW (cc := cX2_isMatched) (maxL := 5) (ret := (some .boolean)) (by decide) rfl ?_
  intro p e s m args below meth c s₁ B hml hv
  obtain ⟨rfl, hK, hP⟩ := hv
  have hx := B.exec
  have hb := B.bytes
  have hr := B.returns
  have hlocks := B.notSynchronized
  have hts := atoms_spec (ws := wsX2_isMatched) B.pre
  have hown : s.vm.findClass RX2 = some m.cls := findClass_of_methodNamed B.named
  have hl := lv_entry ([.ref (ra 0), .int (nI k), .int x, .int (nI fr), .int (nI tt)]) (n := 5) (Nat.le_of_ble_eq_true rfl)
  rw [lg_entry_eq]
  generalize (lg_sl ([.ref (ra 0), .int (nI k), .int x, .int (nI fr), .int (nI tt)]) ++ List.replicate (5 - (lg_sl ([.ref (ra 0), .int (nI k), .int x, .int (nI fr), .int (nI tt)])).length) Slot.unset).toArray = ls at hl ⊢
  have hl : lv_has ls 5 [(0, .ref (ra 0)), (1, .int (nI k)), (2, .int x), (3, .int (nI fr)), (4, .int (nI tt))] := hl
  refine lv_aload_n hx hb dX2_isMatched_0 rfl (lv_at hl 0 rfl) ?_
  refine va_get (D := G.1) (ci := 2) (v := .ref (ad 0)) (C := RX2) (T := TX2) (N := 3) hx hb hts (by decide +kernel) hown hK.1 hP 0 rfl rfl 0 (by decide) (hts (.fieldLink RX2 19 "PriceIndexCalculator$PriceRows" "basket" "LPriceIndexCalculator$Basket;") (by decide +kernel)) (fun _ h9 => h9) rfl dX2_isMatched_1 ?_
  refine va_get (D := G.1) (ci := 0) (v := .ref (ad 2)) (C := RX0) (T := TX0) (N := 10) hx hb hts (by decide +kernel) hown hK.1 hP 3 rfl rfl 3 (by decide) (hts (.fieldLink RX2 27 "PriceIndexCalculator$Basket" "stratum" "[I") (by decide +kernel)) (fun _ h9 => h9) rfl dX2_isMatched_4 ?_
  refine lv_iload_n hx hb dX2_isMatched_7 rfl (lv_at hl 1 rfl) ?_
  refine n_iald hx hb hK.1 hP 5 0 rfl rfl (j := k) (by omega) (by omega) dX2_isMatched_8 ?_
  refine lv_iload_n hx hb dX2_isMatched_9 rfl (lv_at hl 2 rfl) ?_
  refine lv_icmp_ne (tgt := 44) hx hb dX2_isMatched_10 (by decide) (fun c_1 => ?_) (fun c_1 => ?_)
  · refine lv_iconst (v := nI 0) hx hb dX2_isMatched_44 (by decide) ?_
    exact W.zret (v := nI 0) (ty := .boolean) hx hb hr (by rfl) (fun t ht hW => ⟨_, rfl, ((congrArg bI (by simp [mat, c_1] : mat b ex x fr tt k = false)).symm), ht⟩) (fun q hq => absurd hq List.not_mem_nil) dX2_isMatched_45
  · refine lv_aload_n hx hb dX2_isMatched_13 rfl (lv_at hl 0 rfl) ?_
    refine va_get (D := G.1) (ci := 2) (v := .ref (ra 1)) (C := RX2) (T := TX2) (N := 3) hx hb hts (by decide +kernel) hown hK.1 hP 0 rfl rfl 1 (by decide) (hts (.fieldLink RX2 9 "PriceIndexCalculator$PriceRows" "exists" "[Z") (by decide +kernel)) (fun _ h9 => h9) rfl dX2_isMatched_14 ?_
    refine lv_iload_n hx hb dX2_isMatched_17 rfl (lv_at hl 1 rfl) ?_
    refine lv_iload_n hx hb dX2_isMatched_18 rfl (lv_at hl 3 rfl) ?_
    refine cr_i (va_runSN (As := [.int (nI k), .int (nI fr)]) (rest := [.ref (ra 1)]) ⟨hx, hb, hml, hown, hts⟩ (metX6_cell l G k fr) ⟨va_cnB 2 hts gX2_isMatched_X6_cell_n23 rfl rfl rfl hK.2.2.1 (hts (.initialized RX6) (by decide +kernel)) (by decide +kernel) ⟨Nat.le_of_ble_eq_true rfl, Nat.le_of_ble_eq_true rfl⟩, (hts (.static yX6_cell) (by decide +kernel)), trivial⟩ (pR_S hK (va_P_nil _ _ _)) rfl rfl hl.1 rfl (lv_room (Nat.le_of_ble_eq_true rfl)) dX2_isMatched_19 ⟨Nat.zero_le _, Nat.zero_le _⟩) (fun r_2 hr_3 => ?_)
    subst hr_3
    refine n_zald hx hb hK.1 hP 1 1 rfl rfl (j := k * 24 + fr) (by omega) (by omega) dX2_isMatched_22 ?_
    refine nb_if_eq (B := ex (k * 24 + fr)) (tgt := 44) hx hb dX2_isMatched_23 (by decide) (fun c_4 => ?_) (fun c_4 => ?_)
    · refine lv_iconst (v := nI 0) hx hb dX2_isMatched_44 (by decide) ?_
      exact W.zret (v := nI 0) (ty := .boolean) hx hb hr (by rfl) (fun t ht hW => ⟨_, rfl, ((congrArg bI (by simp [mat, c_1, c_4] : mat b ex x fr tt k = false)).symm), ht⟩) (fun q hq => absurd hq List.not_mem_nil) dX2_isMatched_45
    · refine lv_aload_n hx hb dX2_isMatched_26 rfl (lv_at hl 0 rfl) ?_
      refine va_get (D := G.1) (ci := 2) (v := .ref (ra 1)) (C := RX2) (T := TX2) (N := 3) hx hb hts (by decide +kernel) hown hK.1 hP 0 rfl rfl 1 (by decide) (hts (.fieldLink RX2 9 "PriceIndexCalculator$PriceRows" "exists" "[Z") (by decide +kernel)) (fun _ h9 => h9) rfl dX2_isMatched_27 ?_
      refine lv_iload_n hx hb dX2_isMatched_30 rfl (lv_at hl 1 rfl) ?_
      refine lv_iload hx hb dX2_isMatched_31 (lv_at hl 4 rfl) ?_
      refine cr_i (va_runSN (As := [.int (nI k), .int (nI tt)]) (rest := [.ref (ra 1)]) ⟨hx, hb, hml, hown, hts⟩ (metX6_cell l G k tt) ⟨va_cnB 2 hts gX2_isMatched_X6_cell_n23 rfl rfl rfl hK.2.2.1 (hts (.initialized RX6) (by decide +kernel)) (by decide +kernel) ⟨Nat.le_of_ble_eq_true rfl, Nat.le_of_ble_eq_true rfl⟩, (hts (.static yX6_cell) (by decide +kernel)), trivial⟩ (pR_S hK (va_P_nil _ _ _)) rfl rfl hl.1 rfl (lv_room (Nat.le_of_ble_eq_true rfl)) dX2_isMatched_33 ⟨Nat.zero_le _, Nat.zero_le _⟩) (fun r_5 hr_6 => ?_)
      subst hr_6
      refine n_zald hx hb hK.1 hP 1 1 rfl rfl (j := k * 24 + tt) (by omega) (by omega) dX2_isMatched_36 ?_
      refine nb_if_eq (B := ex (k * 24 + tt)) (tgt := 44) hx hb dX2_isMatched_37 (by decide) (fun c_7 => ?_) (fun c_7 => ?_)
      · refine lv_iconst (v := nI 0) hx hb dX2_isMatched_44 (by decide) ?_
        exact W.zret (v := nI 0) (ty := .boolean) hx hb hr (by rfl) (fun t ht hW => ⟨_, rfl, ((congrArg bI (by simp [mat, c_1, c_4, c_7] : mat b ex x fr tt k = false)).symm), ht⟩) (fun q hq => absurd hq List.not_mem_nil) dX2_isMatched_45
      · refine lv_iconst (v := nI 1) hx hb dX2_isMatched_40 (by decide) ?_
        refine lv_goto (tgt := 45) hx hb dX2_isMatched_41 (by decide) ?_
        exact W.zret (v := nI 1) (ty := .boolean) hx hb hr (by rfl) (fun t ht hW => ⟨_, rfl, ((congrArg bI (by simp [mat, c_1, c_4, c_7] : mat b ex x fr tt k = true)).symm), ht⟩) (fun q hq => absurd hq List.not_mem_nil) dX2_isMatched_45
set_option maxHeartbeats 4000000 in
set_option maxRecDepth 100000 in
/-- PriceRows.countMatched -/
theorem metX2_countMatched (l : Launch) (G : GG) (ra ad : Nat → Nat) (ex : Nat → Bool) (v : Nat → UInt32) (b : Nat → Nat → Int32) (hB : bWF b) (x : Int32) (fr tt : Nat) (hfr : fr < 24) (htt : tt < 24) : Met l yX2_countMatched wsX2_countMatched ({ frames := 2, cells := 0, slots := 0, locals := 60 }) (pR G (rbcells G ra ad ex v b) [.ref (ra 0), .int x, .int (nI fr), .int (nI tt)]) (vp_Si (fun r => r = nI (cntM b ex x fr tt))) 0 0 (fun _ => False) := by
  refine Met.ofW (cc := cX2_countMatched) (maxL := 6) (ret := (some .int)) (by decide) rfl ?_
  intro p e s m args below meth c s₁ B hml hv
  obtain ⟨rfl, hK, hP⟩ := hv
  have hx := B.exec
  have hb := B.bytes
  have hr := B.returns
  have hlocks := B.notSynchronized
  have hts := atoms_spec (ws := wsX2_countMatched) B.pre
  have hown : s.vm.findClass RX2 = some m.cls := findClass_of_methodNamed B.named
  have hl := lv_entry ([.ref (ra 0), .int x, .int (nI fr), .int (nI tt)]) (n := 6) (Nat.le_of_ble_eq_true rfl)
  rw [lg_entry_eq]
  generalize (lg_sl ([.ref (ra 0), .int x, .int (nI fr), .int (nI tt)]) ++ List.replicate (6 - (lg_sl ([.ref (ra 0), .int x, .int (nI fr), .int (nI tt)])).length) Slot.unset).toArray = ls at hl ⊢
  have hl : lv_has ls 6 [(0, .ref (ra 0)), (1, .int x), (2, .int (nI fr)), (3, .int (nI tt))] := hl
  refine lv_iconst (v := nI 0) hx hb dX2_countMatched_0 (by decide) ?_
  refine lv_istore (lv' := [(4, .int (nI 0)), (0, .ref (ra 0)), (1, .int x), (2, .int (nI fr)), (3, .int (nI tt))]) hx hb dX2_countMatched_1 hl (by decide) rfl (fun ls hl => ?_)
  refine lv_iconst (v := nI 0) hx hb dX2_countMatched_3 (by decide) ?_
  refine lv_istore (lv' := [(5, .int (nI 0)), (4, .int (nI 0)), (0, .ref (ra 0)), (1, .int x), (2, .int (nI fr)), (3, .int (nI tt))]) hx hb dX2_countMatched_4 hl (by decide) rfl (fun ls hl => ?_)
  refine lpR (S := Nat) (itN b) (fun i u => u = cntP (mat b ex x fr tt) (i)) (fun i u => [(0, .ref (ra 0)), (1, .int x), (2, .int (nI fr)), (3, .int (nI tt)), (4, .int (nI u)), (5, .int (nI i))]) (fun u ls hI_2 hl => ?_) (fun i u ls hi_3 hI_2 hl ih_1 => ?_) (0) 0 (by omega) (rfl) (lv_sub hl [2, 3, 4, 5, 1, 0] rfl)
  · obtain ⟨n, rfl⟩ : ∃ z, z = u := ⟨_, rfl⟩
    have hl : lv_has ls 6 [(0, .ref (ra 0)), (1, .int x), (2, .int (nI fr)), (3, .int (nI tt)), (4, .int (nI n)), (5, .int (nI (itN b)))] := hl
    have hit := hB.1.2
    refine lv_iload hx hb dX2_countMatched_6 (lv_at hl 5 rfl) ?_
    refine lv_aload_n hx hb dX2_countMatched_8 rfl (lv_at hl 0 rfl) ?_
    refine va_get (D := G.1) (ci := 2) (v := .ref (ad 0)) (C := RX2) (T := TX2) (N := 3) hx hb hts (by decide +kernel) hown hK.1 hP 0 rfl rfl 0 (by decide) (hts (.fieldLink RX2 19 "PriceIndexCalculator$PriceRows" "basket" "LPriceIndexCalculator$Basket;") (by decide +kernel)) (fun _ h9 => h9) rfl dX2_countMatched_9 ?_
    refine va_get (D := G.1) (ci := 0) (v := .int (b 0 0)) (C := RX0) (T := TX0) (N := 10) hx hb hts (by decide +kernel) hown hK.1 hP 3 rfl rfl 0 (by decide) (hts (.fieldLink RX2 33 "PriceIndexCalculator$Basket" "items" "I") (by decide +kernel)) (fun _ h9 => h9) rfl dX2_countMatched_12 ?_
    refine eq_i (y := nI (itN b)) (hB.1.1) ?_
    refine n_icmp_ge (x := itN b) (y := itN b) (tgt := 39) hx hb (by omega) (by omega) dX2_countMatched_15 (by decide) (fun c_4 => ?_) (fun c_4 => ?_)
    · refine lv_iload hx hb dX2_countMatched_39 (lv_at hl 4 rfl) ?_
      exact W.iret (v := nI n) hx hb hr (fun t ht hW => ⟨_, rfl, (congrArg nI hI_2), ht⟩) (fun q hq => absurd hq List.not_mem_nil) dX2_countMatched_41
    · exact absurd c_4 (by omega)
  · obtain ⟨n, rfl⟩ : ∃ z, z = u := ⟨_, rfl⟩
    have hl : lv_has ls 6 [(0, .ref (ra 0)), (1, .int x), (2, .int (nI fr)), (3, .int (nI tt)), (4, .int (nI n)), (5, .int (nI i))] := hl
    have hit := hB.1.2
    refine lv_iload hx hb dX2_countMatched_6 (lv_at hl 5 rfl) ?_
    refine lv_aload_n hx hb dX2_countMatched_8 rfl (lv_at hl 0 rfl) ?_
    refine va_get (D := G.1) (ci := 2) (v := .ref (ad 0)) (C := RX2) (T := TX2) (N := 3) hx hb hts (by decide +kernel) hown hK.1 hP 0 rfl rfl 0 (by decide) (hts (.fieldLink RX2 19 "PriceIndexCalculator$PriceRows" "basket" "LPriceIndexCalculator$Basket;") (by decide +kernel)) (fun _ h9 => h9) rfl dX2_countMatched_9 ?_
    refine va_get (D := G.1) (ci := 0) (v := .int (b 0 0)) (C := RX0) (T := TX0) (N := 10) hx hb hts (by decide +kernel) hown hK.1 hP 3 rfl rfl 0 (by decide) (hts (.fieldLink RX2 33 "PriceIndexCalculator$Basket" "items" "I") (by decide +kernel)) (fun _ h9 => h9) rfl dX2_countMatched_12 ?_
    refine eq_i (y := nI (itN b)) (hB.1.1) ?_
    refine n_icmp_ge (x := i) (y := itN b) (tgt := 39) hx hb (by omega) (by omega) dX2_countMatched_15 (by decide) (fun c_5 => ?_) (fun c_5 => ?_)
    · exact absurd c_5 (by omega)
    · refine lv_aload_n hx hb dX2_countMatched_18 rfl (lv_at hl 0 rfl) ?_
      refine lv_iload hx hb dX2_countMatched_19 (lv_at hl 5 rfl) ?_
      refine lv_iload_n hx hb dX2_countMatched_21 rfl (lv_at hl 1 rfl) ?_
      refine lv_iload_n hx hb dX2_countMatched_22 rfl (lv_at hl 2 rfl) ?_
      refine lv_iload_n hx hb dX2_countMatched_23 rfl (lv_at hl 3 rfl) ?_
      refine cr_i (va_runV (As := [.int (nI i), .int x, .int (nI fr), .int (nI tt)]) (rest := []) ⟨hx, hb, hml, hown, hts⟩ (metX2_isMatched l G ra ad ex v b i x fr tt (by omega) (by omega) (by omega)) (cwV 4 hts gX2_countMatched_X2_isMatched rfl rfl rfl (by decide +kernel) ⟨Nat.le_of_ble_eq_true rfl, Nat.le_of_ble_eq_true rfl⟩) (pR_V (q0 := 0) hK hP rfl rfl) rfl rfl hl.1 rfl (lv_room (Nat.le_of_ble_eq_true rfl)) dX2_countMatched_24 ⟨Nat.zero_le _, Nat.zero_le _⟩) (fun r_6 hr_7 => ?_)
      subst hr_7
      refine nb_if_eq (B := mat b ex x fr tt i) (tgt := 33) hx hb dX2_countMatched_27 (by decide) (fun c_8 => ?_) (fun c_8 => ?_)
      · refine lv_iinc (v := nI (i + 1)) (lv' := [(5, .int (nI (i + 1))), (0, .ref (ra 0)), (1, .int x), (2, .int (nI fr)), (3, .int (nI tt)), (4, .int (nI n))]) hx hb dX2_countMatched_33 hl (k := 5) rfl (by exact nI_add _ _) (by decide) rfl (fun ls hl => ?_)
        refine lv_goto (tgt := 6) hx hb dX2_countMatched_36 (by decide) ?_
        exact ih_1 n _ (by rw [hI_2]; exact cntP_f c_8) (lv_sub hl [1, 2, 3, 4, 5, 0] rfl)
      · refine lv_iinc (v := nI (n + 1)) (lv' := [(4, .int (nI (n + 1))), (0, .ref (ra 0)), (1, .int x), (2, .int (nI fr)), (3, .int (nI tt)), (5, .int (nI i))]) hx hb dX2_countMatched_30 hl (k := 4) rfl (by exact nI_add _ _) (by decide) rfl (fun ls hl => ?_)
        refine lv_iinc (v := nI (i + 1)) (lv' := [(5, .int (nI (i + 1))), (4, .int (nI (n + 1))), (0, .ref (ra 0)), (1, .int x), (2, .int (nI fr)), (3, .int (nI tt))]) hx hb dX2_countMatched_33 hl (k := 5) rfl (by exact nI_add _ _) (by decide) rfl (fun ls hl => ?_)
        refine lv_goto (tgt := 6) hx hb dX2_countMatched_36 (by decide) ?_
        exact ih_1 (n + 1) _ (by rw [hI_2]; exact cntP_t c_8) (lv_sub hl [2, 3, 4, 5, 1, 0] rfl)
set_option maxHeartbeats 4000000 in
set_option maxRecDepth 100000 in
/-- PriceRows.sumOfPrices -/
theorem metX2_sumOfPrices (l : Launch) (G : GG) (ra ad : Nat → Nat) (ex : Nat → Bool) (v : Nat → UInt32) (b : Nat → Nat → Int32) (hB : bWF b) (ov : okV v) (x : Int32) (fr tt mo : Nat) (hfr : fr < 24) (htt : tt < 24) (hm : mo < 24) : Met l yX2_sumOfPrices wsX2_sumOfPrices ({ frames := 2, cells := 0, slots := 0, locals := 60 }) (pR G (rbcells G ra ad ex v b) [.ref (ra 0), .int x, .int (nI fr), .int (nI tt), .int (nI mo)]) (vp_Sf (fun r => r = sumP b ex v x fr tt mo (itN b))) 0 0 (fun _ => False) := by
  refine Met.ofW (cc := cX2_sumOfPrices) (maxL := 7) (ret := (some .float)) (by decide) rfl ?_
  intro p e s m args below meth c s₁ B hml hv
  obtain ⟨rfl, hK, hP⟩ := hv
  have hx := B.exec
  have hb := B.bytes
  have hr := B.returns
  have hlocks := B.notSynchronized
  have hts := atoms_spec (ws := wsX2_sumOfPrices) B.pre
  have hown : s.vm.findClass RX2 = some m.cls := findClass_of_methodNamed B.named
  have hl := lv_entry ([.ref (ra 0), .int x, .int (nI fr), .int (nI tt), .int (nI mo)]) (n := 7) (Nat.le_of_ble_eq_true rfl)
  rw [lg_entry_eq]
  generalize (lg_sl ([.ref (ra 0), .int x, .int (nI fr), .int (nI tt), .int (nI mo)]) ++ List.replicate (7 - (lg_sl ([.ref (ra 0), .int x, .int (nI fr), .int (nI tt), .int (nI mo)])).length) Slot.unset).toArray = ls at hl ⊢
  have hl : lv_has ls 7 [(0, .ref (ra 0)), (1, .int x), (2, .int (nI fr)), (3, .int (nI tt)), (4, .int (nI mo))] := hl
  refine lv_fconst0 hx hb dX2_sumOfPrices_0 ?_
  refine lv_fstore (lv' := [(5, .float FP.fconst0), (0, .ref (ra 0)), (1, .int x), (2, .int (nI fr)), (3, .int (nI tt)), (4, .int (nI mo))]) hx hb dX2_sumOfPrices_1 hl (by decide) rfl (fun ls hl => ?_)
  refine lv_iconst (v := nI 0) hx hb dX2_sumOfPrices_3 (by decide) ?_
  refine lv_istore (lv' := [(6, .int (nI 0)), (5, .float FP.fconst0), (0, .ref (ra 0)), (1, .int x), (2, .int (nI fr)), (3, .int (nI tt)), (4, .int (nI mo))]) hx hb dX2_sumOfPrices_4 hl (by decide) rfl (fun ls hl => ?_)
  refine lpR (S := UInt32) (itN b) (fun i u => u = sumP b ex v x fr tt mo (i)) (fun i u => [(0, .ref (ra 0)), (1, .int x), (2, .int (nI fr)), (3, .int (nI tt)), (4, .int (nI mo)), (5, .float u), (6, .int (nI i))]) (fun u ls hI_2 hl => ?_) (fun i u ls hi_3 hI_2 hl ih_1 => ?_) (0) FP.fconst0 (by omega) (rfl) (lv_sub hl [2, 3, 4, 5, 6, 1, 0] rfl)
  · obtain ⟨a, rfl⟩ : ∃ z, z = u := ⟨_, rfl⟩
    have hl : lv_has ls 7 [(0, .ref (ra 0)), (1, .int x), (2, .int (nI fr)), (3, .int (nI tt)), (4, .int (nI mo)), (5, .float a), (6, .int (nI (itN b)))] := hl
    have hit := hB.1.2
    have oa : okF a := by rw [hI_2]; exact ok_sumP ov hm (by omega)
    refine lv_iload hx hb dX2_sumOfPrices_6 (lv_at hl 6 rfl) ?_
    refine lv_aload_n hx hb dX2_sumOfPrices_8 rfl (lv_at hl 0 rfl) ?_
    refine va_get (D := G.1) (ci := 2) (v := .ref (ad 0)) (C := RX2) (T := TX2) (N := 3) hx hb hts (by decide +kernel) hown hK.1 hP 0 rfl rfl 0 (by decide) (hts (.fieldLink RX2 19 "PriceIndexCalculator$PriceRows" "basket" "LPriceIndexCalculator$Basket;") (by decide +kernel)) (fun _ h9 => h9) rfl dX2_sumOfPrices_9 ?_
    refine va_get (D := G.1) (ci := 0) (v := .int (b 0 0)) (C := RX0) (T := TX0) (N := 10) hx hb hts (by decide +kernel) hown hK.1 hP 3 rfl rfl 0 (by decide) (hts (.fieldLink RX2 33 "PriceIndexCalculator$Basket" "items" "I") (by decide +kernel)) (fun _ h9 => h9) rfl dX2_sumOfPrices_12 ?_
    refine eq_i (y := nI (itN b)) (hB.1.1) ?_
    refine n_icmp_ge (x := itN b) (y := itN b) (tgt := 51) hx hb (by omega) (by omega) dX2_sumOfPrices_15 (by decide) (fun c_4 => ?_) (fun c_4 => ?_)
    · refine lv_fload hx hb dX2_sumOfPrices_51 (lv_at hl 5 rfl) ?_
      exact W.fret (v := a) hx hb hr (fun t ht hW => ⟨_, rfl, hI_2, ht⟩) (fun q hq => absurd hq List.not_mem_nil) dX2_sumOfPrices_53
    · exact absurd c_4 (by omega)
  · obtain ⟨a, rfl⟩ : ∃ z, z = u := ⟨_, rfl⟩
    have hl : lv_has ls 7 [(0, .ref (ra 0)), (1, .int x), (2, .int (nI fr)), (3, .int (nI tt)), (4, .int (nI mo)), (5, .float a), (6, .int (nI i))] := hl
    have hit := hB.1.2
    have oa : okF a := by rw [hI_2]; exact ok_sumP ov hm (by omega)
    refine lv_iload hx hb dX2_sumOfPrices_6 (lv_at hl 6 rfl) ?_
    refine lv_aload_n hx hb dX2_sumOfPrices_8 rfl (lv_at hl 0 rfl) ?_
    refine va_get (D := G.1) (ci := 2) (v := .ref (ad 0)) (C := RX2) (T := TX2) (N := 3) hx hb hts (by decide +kernel) hown hK.1 hP 0 rfl rfl 0 (by decide) (hts (.fieldLink RX2 19 "PriceIndexCalculator$PriceRows" "basket" "LPriceIndexCalculator$Basket;") (by decide +kernel)) (fun _ h9 => h9) rfl dX2_sumOfPrices_9 ?_
    refine va_get (D := G.1) (ci := 0) (v := .int (b 0 0)) (C := RX0) (T := TX0) (N := 10) hx hb hts (by decide +kernel) hown hK.1 hP 3 rfl rfl 0 (by decide) (hts (.fieldLink RX2 33 "PriceIndexCalculator$Basket" "items" "I") (by decide +kernel)) (fun _ h9 => h9) rfl dX2_sumOfPrices_12 ?_
    refine eq_i (y := nI (itN b)) (hB.1.1) ?_
    refine n_icmp_ge (x := i) (y := itN b) (tgt := 51) hx hb (by omega) (by omega) dX2_sumOfPrices_15 (by decide) (fun c_5 => ?_) (fun c_5 => ?_)
    · exact absurd c_5 (by omega)
    · refine lv_aload_n hx hb dX2_sumOfPrices_18 rfl (lv_at hl 0 rfl) ?_
      refine lv_iload hx hb dX2_sumOfPrices_19 (lv_at hl 6 rfl) ?_
      refine lv_iload_n hx hb dX2_sumOfPrices_21 rfl (lv_at hl 1 rfl) ?_
      refine lv_iload_n hx hb dX2_sumOfPrices_22 rfl (lv_at hl 2 rfl) ?_
      refine lv_iload_n hx hb dX2_sumOfPrices_23 rfl (lv_at hl 3 rfl) ?_
      refine cr_i (va_runV (As := [.int (nI i), .int x, .int (nI fr), .int (nI tt)]) (rest := []) ⟨hx, hb, hml, hown, hts⟩ (metX2_isMatched l G ra ad ex v b i x fr tt (by omega) (by omega) (by omega)) (cwV 4 hts gX2_sumOfPrices_X2_isMatched rfl rfl rfl (by decide +kernel) ⟨Nat.le_of_ble_eq_true rfl, Nat.le_of_ble_eq_true rfl⟩) (pR_V (q0 := 0) hK hP rfl rfl) rfl rfl hl.1 rfl (lv_room (Nat.le_of_ble_eq_true rfl)) dX2_sumOfPrices_24 ⟨Nat.zero_le _, Nat.zero_le _⟩) (fun r_6 hr_7 => ?_)
      subst hr_7
      refine nb_if_eq (B := mat b ex x fr tt i) (tgt := 45) hx hb dX2_sumOfPrices_27 (by decide) (fun c_8 => ?_) (fun c_8 => ?_)
      · refine lv_iinc (v := nI (i + 1)) (lv' := [(6, .int (nI (i + 1))), (0, .ref (ra 0)), (1, .int x), (2, .int (nI fr)), (3, .int (nI tt)), (4, .int (nI mo)), (5, .float a)]) hx hb dX2_sumOfPrices_45 hl (k := 6) rfl (by exact nI_add _ _) (by decide) rfl (fun ls hl => ?_)
        refine lv_goto (tgt := 6) hx hb dX2_sumOfPrices_48 (by decide) ?_
        exact ih_1 a _ (by rw [hI_2]; simp [sumP, c_8]) (lv_sub hl [1, 2, 3, 4, 5, 6, 0] rfl)
      · refine lv_fload hx hb dX2_sumOfPrices_30 (lv_at hl 5 rfl) ?_
        refine lv_aload_n hx hb dX2_sumOfPrices_32 rfl (lv_at hl 0 rfl) ?_
        refine lv_iload hx hb dX2_sumOfPrices_33 (lv_at hl 6 rfl) ?_
        refine lv_iload hx hb dX2_sumOfPrices_35 (lv_at hl 4 rfl) ?_
        refine cr_f (va_runV (As := [.int (nI i), .int (nI mo)]) (rest := [.float a]) ⟨hx, hb, hml, hown, hts⟩ (metX2_get l G ra (ad 0) ex v i mo (by omega) (by omega)) (cwV 2 hts gX2_sumOfPrices_X2_get rfl rfl rfl (by decide +kernel) ⟨Nat.le_of_ble_eq_true rfl, Nat.le_of_ble_eq_true rfl⟩) (pR_V (q0 := 0) hK (hP.sub (ws' := rcells G ra (ad 0) ex v) [0, 1, 2] rfl) rfl rfl) rfl rfl hl.1 rfl (lv_room (Nat.le_of_ble_eq_true rfl)) dX2_sumOfPrices_37 ⟨Nat.zero_le _, Nat.zero_le _⟩) (fun r_9 hr_10 => ?_)
        subst hr_10
        refine cr_f (va_runS (As := [.float a, .float (v (i * 24 + mo))]) (rest := []) ⟨hx, hb, hml, hown, hts⟩ (metX5_plus l G a (v (i * 24 + mo)) oa (ov _ (by omega))) (va_cwS 2 hts gX2_sumOfPrices_X5_plus rfl rfl rfl (by decide +kernel) ⟨Nat.le_of_ble_eq_true rfl, Nat.le_of_ble_eq_true rfl⟩) (pR_S hK (va_P_nil _ _ _)) rfl rfl hl.1 rfl (lv_room (Nat.le_of_ble_eq_true rfl)) dX2_sumOfPrices_40 ⟨Nat.zero_le _, Nat.zero_le _⟩) (fun r_11 hr_12 => ?_)
        subst hr_12
        refine lv_fstore (lv' := [(5, .float (cPlus a (v (i * 24 + mo)))), (0, .ref (ra 0)), (1, .int x), (2, .int (nI fr)), (3, .int (nI tt)), (4, .int (nI mo)), (6, .int (nI i))]) hx hb dX2_sumOfPrices_43 hl (by decide) rfl (fun ls hl => ?_)
        refine lv_iinc (v := nI (i + 1)) (lv' := [(6, .int (nI (i + 1))), (5, .float (cPlus a (v (i * 24 + mo)))), (0, .ref (ra 0)), (1, .int x), (2, .int (nI fr)), (3, .int (nI tt)), (4, .int (nI mo))]) hx hb dX2_sumOfPrices_45 hl (k := 6) rfl (by exact nI_add _ _) (by decide) rfl (fun ls hl => ?_)
        refine lv_goto (tgt := 6) hx hb dX2_sumOfPrices_48 (by decide) ?_
        exact ih_1 (cPlus a (v (i * 24 + mo))) _ (by rw [hI_2]; simp [sumP, c_8]) (lv_sub hl [2, 3, 4, 5, 6, 1, 0] rfl)
set_option maxHeartbeats 4000000 in
set_option maxRecDepth 100000 in
/-- PriceRows.sumOfRatios -/
theorem metX2_sumOfRatios (l : Launch) (G : GG) (ra ad : Nat → Nat) (ex : Nat → Bool) (v : Nat → UInt32) (b : Nat → Nat → Int32) (hB : bWF b) (ov : okV v) (x : Int32) (fr tt : Nat) (hfr : fr < 24) (htt : tt < 24) : Met l yX2_sumOfRatios wsX2_sumOfRatios ({ frames := 2, cells := 0, slots := 0, locals := 60 }) (pR G (rbcells G ra ad ex v b) [.ref (ra 0), .int x, .int (nI fr), .int (nI tt)]) (vp_Sf (fun r => r = sumR b ex v x fr tt (itN b))) 0 0 (fun _ => False) := by
  refine Met.ofW (cc := cX2_sumOfRatios) (maxL := 6) (ret := (some .float)) (by decide) rfl ?_
  intro p e s m args below meth c s₁ B hml hv
  obtain ⟨rfl, hK, hP⟩ := hv
  have hx := B.exec
  have hb := B.bytes
  have hr := B.returns
  have hlocks := B.notSynchronized
  have hts := atoms_spec (ws := wsX2_sumOfRatios) B.pre
  have hown : s.vm.findClass RX2 = some m.cls := findClass_of_methodNamed B.named
  have hl := lv_entry ([.ref (ra 0), .int x, .int (nI fr), .int (nI tt)]) (n := 6) (Nat.le_of_ble_eq_true rfl)
  rw [lg_entry_eq]
  generalize (lg_sl ([.ref (ra 0), .int x, .int (nI fr), .int (nI tt)]) ++ List.replicate (6 - (lg_sl ([.ref (ra 0), .int x, .int (nI fr), .int (nI tt)])).length) Slot.unset).toArray = ls at hl ⊢
  have hl : lv_has ls 6 [(0, .ref (ra 0)), (1, .int x), (2, .int (nI fr)), (3, .int (nI tt))] := hl
  refine lv_fconst0 hx hb dX2_sumOfRatios_0 ?_
  refine lv_fstore (lv' := [(4, .float FP.fconst0), (0, .ref (ra 0)), (1, .int x), (2, .int (nI fr)), (3, .int (nI tt))]) hx hb dX2_sumOfRatios_1 hl (by decide) rfl (fun ls hl => ?_)
  refine lv_iconst (v := nI 0) hx hb dX2_sumOfRatios_3 (by decide) ?_
  refine lv_istore (lv' := [(5, .int (nI 0)), (4, .float FP.fconst0), (0, .ref (ra 0)), (1, .int x), (2, .int (nI fr)), (3, .int (nI tt))]) hx hb dX2_sumOfRatios_4 hl (by decide) rfl (fun ls hl => ?_)
  refine lpR (S := UInt32) (itN b) (fun i u => u = sumR b ex v x fr tt (i)) (fun i u => [(0, .ref (ra 0)), (1, .int x), (2, .int (nI fr)), (3, .int (nI tt)), (4, .float u), (5, .int (nI i))]) (fun u ls hI_2 hl => ?_) (fun i u ls hi_3 hI_2 hl ih_1 => ?_) (0) FP.fconst0 (by omega) (rfl) (lv_sub hl [2, 3, 4, 5, 1, 0] rfl)
  · obtain ⟨a, rfl⟩ : ∃ z, z = u := ⟨_, rfl⟩
    have hl : lv_has ls 6 [(0, .ref (ra 0)), (1, .int x), (2, .int (nI fr)), (3, .int (nI tt)), (4, .float a), (5, .int (nI (itN b)))] := hl
    have hit := hB.1.2
    have oa : okF a := by rw [hI_2]; exact ok_sumR ov hfr htt (by omega)
    refine lv_iload hx hb dX2_sumOfRatios_6 (lv_at hl 5 rfl) ?_
    refine lv_aload_n hx hb dX2_sumOfRatios_8 rfl (lv_at hl 0 rfl) ?_
    refine va_get (D := G.1) (ci := 2) (v := .ref (ad 0)) (C := RX2) (T := TX2) (N := 3) hx hb hts (by decide +kernel) hown hK.1 hP 0 rfl rfl 0 (by decide) (hts (.fieldLink RX2 19 "PriceIndexCalculator$PriceRows" "basket" "LPriceIndexCalculator$Basket;") (by decide +kernel)) (fun _ h9 => h9) rfl dX2_sumOfRatios_9 ?_
    refine va_get (D := G.1) (ci := 0) (v := .int (b 0 0)) (C := RX0) (T := TX0) (N := 10) hx hb hts (by decide +kernel) hown hK.1 hP 3 rfl rfl 0 (by decide) (hts (.fieldLink RX2 33 "PriceIndexCalculator$Basket" "items" "I") (by decide +kernel)) (fun _ h9 => h9) rfl dX2_sumOfRatios_12 ?_
    refine eq_i (y := nI (itN b)) (hB.1.1) ?_
    refine n_icmp_ge (x := itN b) (y := itN b) (tgt := 60) hx hb (by omega) (by omega) dX2_sumOfRatios_15 (by decide) (fun c_4 => ?_) (fun c_4 => ?_)
    · refine lv_fload hx hb dX2_sumOfRatios_60 (lv_at hl 4 rfl) ?_
      exact W.fret (v := a) hx hb hr (fun t ht hW => ⟨_, rfl, hI_2, ht⟩) (fun q hq => absurd hq List.not_mem_nil) dX2_sumOfRatios_62
    · exact absurd c_4 (by omega)
  · obtain ⟨a, rfl⟩ : ∃ z, z = u := ⟨_, rfl⟩
    have hl : lv_has ls 6 [(0, .ref (ra 0)), (1, .int x), (2, .int (nI fr)), (3, .int (nI tt)), (4, .float a), (5, .int (nI i))] := hl
    have hit := hB.1.2
    have oa : okF a := by rw [hI_2]; exact ok_sumR ov hfr htt (by omega)
    refine lv_iload hx hb dX2_sumOfRatios_6 (lv_at hl 5 rfl) ?_
    refine lv_aload_n hx hb dX2_sumOfRatios_8 rfl (lv_at hl 0 rfl) ?_
    refine va_get (D := G.1) (ci := 2) (v := .ref (ad 0)) (C := RX2) (T := TX2) (N := 3) hx hb hts (by decide +kernel) hown hK.1 hP 0 rfl rfl 0 (by decide) (hts (.fieldLink RX2 19 "PriceIndexCalculator$PriceRows" "basket" "LPriceIndexCalculator$Basket;") (by decide +kernel)) (fun _ h9 => h9) rfl dX2_sumOfRatios_9 ?_
    refine va_get (D := G.1) (ci := 0) (v := .int (b 0 0)) (C := RX0) (T := TX0) (N := 10) hx hb hts (by decide +kernel) hown hK.1 hP 3 rfl rfl 0 (by decide) (hts (.fieldLink RX2 33 "PriceIndexCalculator$Basket" "items" "I") (by decide +kernel)) (fun _ h9 => h9) rfl dX2_sumOfRatios_12 ?_
    refine eq_i (y := nI (itN b)) (hB.1.1) ?_
    refine n_icmp_ge (x := i) (y := itN b) (tgt := 60) hx hb (by omega) (by omega) dX2_sumOfRatios_15 (by decide) (fun c_5 => ?_) (fun c_5 => ?_)
    · exact absurd c_5 (by omega)
    · refine lv_aload_n hx hb dX2_sumOfRatios_18 rfl (lv_at hl 0 rfl) ?_
      refine lv_iload hx hb dX2_sumOfRatios_19 (lv_at hl 5 rfl) ?_
      refine lv_iload_n hx hb dX2_sumOfRatios_21 rfl (lv_at hl 1 rfl) ?_
      refine lv_iload_n hx hb dX2_sumOfRatios_22 rfl (lv_at hl 2 rfl) ?_
      refine lv_iload_n hx hb dX2_sumOfRatios_23 rfl (lv_at hl 3 rfl) ?_
      refine cr_i (va_runV (As := [.int (nI i), .int x, .int (nI fr), .int (nI tt)]) (rest := []) ⟨hx, hb, hml, hown, hts⟩ (metX2_isMatched l G ra ad ex v b i x fr tt (by omega) (by omega) (by omega)) (cwV 4 hts gX2_sumOfRatios_X2_isMatched rfl rfl rfl (by decide +kernel) ⟨Nat.le_of_ble_eq_true rfl, Nat.le_of_ble_eq_true rfl⟩) (pR_V (q0 := 0) hK hP rfl rfl) rfl rfl hl.1 rfl (lv_room (Nat.le_of_ble_eq_true rfl)) dX2_sumOfRatios_24 ⟨Nat.zero_le _, Nat.zero_le _⟩) (fun r_6 hr_7 => ?_)
      subst hr_7
      refine nb_if_eq (B := mat b ex x fr tt i) (tgt := 54) hx hb dX2_sumOfRatios_27 (by decide) (fun c_8 => ?_) (fun c_8 => ?_)
      · refine lv_iinc (v := nI (i + 1)) (lv' := [(5, .int (nI (i + 1))), (0, .ref (ra 0)), (1, .int x), (2, .int (nI fr)), (3, .int (nI tt)), (4, .float a)]) hx hb dX2_sumOfRatios_54 hl (k := 5) rfl (by exact nI_add _ _) (by decide) rfl (fun ls hl => ?_)
        refine lv_goto (tgt := 6) hx hb dX2_sumOfRatios_57 (by decide) ?_
        exact ih_1 a _ (by rw [hI_2]; simp [sumR, c_8]) (lv_sub hl [1, 2, 3, 4, 5, 0] rfl)
      · refine lv_fload hx hb dX2_sumOfRatios_30 (lv_at hl 4 rfl) ?_
        refine lv_aload_n hx hb dX2_sumOfRatios_32 rfl (lv_at hl 0 rfl) ?_
        refine lv_iload hx hb dX2_sumOfRatios_33 (lv_at hl 5 rfl) ?_
        refine lv_iload_n hx hb dX2_sumOfRatios_35 rfl (lv_at hl 3 rfl) ?_
        refine cr_f (va_runV (As := [.int (nI i), .int (nI tt)]) (rest := [.float a]) ⟨hx, hb, hml, hown, hts⟩ (metX2_get l G ra (ad 0) ex v i tt (by omega) (by omega)) (cwV 2 hts gX2_sumOfRatios_X2_get rfl rfl rfl (by decide +kernel) ⟨Nat.le_of_ble_eq_true rfl, Nat.le_of_ble_eq_true rfl⟩) (pR_V (q0 := 0) hK (hP.sub (ws' := rcells G ra (ad 0) ex v) [0, 1, 2] rfl) rfl rfl) rfl rfl hl.1 rfl (lv_room (Nat.le_of_ble_eq_true rfl)) dX2_sumOfRatios_36 ⟨Nat.zero_le _, Nat.zero_le _⟩) (fun r_9 hr_10 => ?_)
        subst hr_10
        refine lv_aload_n hx hb dX2_sumOfRatios_39 rfl (lv_at hl 0 rfl) ?_
        refine lv_iload hx hb dX2_sumOfRatios_40 (lv_at hl 5 rfl) ?_
        refine lv_iload_n hx hb dX2_sumOfRatios_42 rfl (lv_at hl 2 rfl) ?_
        refine cr_f (va_runV (As := [.int (nI i), .int (nI fr)]) (rest := [.float (v (i * 24 + tt)), .float a]) ⟨hx, hb, hml, hown, hts⟩ (metX2_get l G ra (ad 0) ex v i fr (by omega) (by omega)) (cwV 2 hts gX2_sumOfRatios_X2_get rfl rfl rfl (by decide +kernel) ⟨Nat.le_of_ble_eq_true rfl, Nat.le_of_ble_eq_true rfl⟩) (pR_V (q0 := 0) hK (hP.sub (ws' := rcells G ra (ad 0) ex v) [0, 1, 2] rfl) rfl rfl) rfl rfl hl.1 rfl (lv_room (Nat.le_of_ble_eq_true rfl)) dX2_sumOfRatios_43 ⟨Nat.zero_le _, Nat.zero_le _⟩) (fun r_11 hr_12 => ?_)
        subst hr_12
        refine cr_f (va_runS (As := [.float (v (i * 24 + tt)), .float (v (i * 24 + fr))]) (rest := [.float a]) ⟨hx, hb, hml, hown, hts⟩ (metX5_over l G (v (i * 24 + tt)) (v (i * 24 + fr)) (ov _ (by omega)) (ov _ (by omega))) (va_cwS 2 hts gX2_sumOfRatios_X5_over rfl rfl rfl (by decide +kernel) ⟨Nat.le_of_ble_eq_true rfl, Nat.le_of_ble_eq_true rfl⟩) (pR_S hK (va_P_nil _ _ _)) rfl rfl hl.1 rfl (lv_room (Nat.le_of_ble_eq_true rfl)) dX2_sumOfRatios_46 ⟨Nat.zero_le _, Nat.zero_le _⟩) (fun r_13 hr_14 => ?_)
        subst hr_14
        refine cr_f (va_runS (As := [.float a, .float (cOver (v (i * 24 + tt)) (v (i * 24 + fr)))]) (rest := []) ⟨hx, hb, hml, hown, hts⟩ (metX5_plus l G a (cOver (v (i * 24 + tt)) (v (i * 24 + fr))) oa (ok_over (ov _ (by omega)) (ov _ (by omega)))) (va_cwS 2 hts gX2_sumOfRatios_X5_plus rfl rfl rfl (by decide +kernel) ⟨Nat.le_of_ble_eq_true rfl, Nat.le_of_ble_eq_true rfl⟩) (pR_S hK (va_P_nil _ _ _)) rfl rfl hl.1 rfl (lv_room (Nat.le_of_ble_eq_true rfl)) dX2_sumOfRatios_49 ⟨Nat.zero_le _, Nat.zero_le _⟩) (fun r_15 hr_16 => ?_)
        subst hr_16
        refine lv_fstore (lv' := [(4, .float (cPlus a (cOver (v (i * 24 + tt)) (v (i * 24 + fr))))), (0, .ref (ra 0)), (1, .int x), (2, .int (nI fr)), (3, .int (nI tt)), (5, .int (nI i))]) hx hb dX2_sumOfRatios_52 hl (by decide) rfl (fun ls hl => ?_)
        refine lv_iinc (v := nI (i + 1)) (lv' := [(5, .int (nI (i + 1))), (4, .float (cPlus a (cOver (v (i * 24 + tt)) (v (i * 24 + fr))))), (0, .ref (ra 0)), (1, .int x), (2, .int (nI fr)), (3, .int (nI tt))]) hx hb dX2_sumOfRatios_54 hl (k := 5) rfl (by exact nI_add _ _) (by decide) rfl (fun ls hl => ?_)
        refine lv_goto (tgt := 6) hx hb dX2_sumOfRatios_57 (by decide) ?_
        exact ih_1 (cPlus a (cOver (v (i * 24 + tt)) (v (i * 24 + fr)))) _ (by rw [hI_2]; simp [sumR, c_8]) (lv_sub hl [2, 3, 4, 5, 1, 0] rfl)
set_option maxHeartbeats 4000000 in
set_option maxRecDepth 100000 in
/-- PriceRows.movement -/
theorem metX2_movement (l : Launch) (G : GG) (ra ad : Nat → Nat) (ex : Nat → Bool) (v : Nat → UInt32) (b : Nat → Nat → Int32) (hB : bWF b) (ov : okV v) (x : Int32) (fr tt : Nat) (hfr : fr < 24) (htt : tt < 24) : Met l yX2_movement wsX2_movement ({ frames := 3, cells := 0, slots := 0, locals := 90 }) (pR G (rbcells G ra ad ex v b) [.ref (ra 0), .int x, .int (nI fr), .int (nI tt)]) (vp_Sf (fun r => r = movC b ex v x fr tt)) 0 0 (fun _ => False) := by
  refine Met.ofW (cc := cX2_movement) (maxL := 5) (ret := (some .float)) (by decide) rfl ?_
  intro p e s m args below meth c s₁ B hml hv
  obtain ⟨rfl, hK, hP⟩ := hv
  have hx := B.exec
  have hb := B.bytes
  have hr := B.returns
  have hlocks := B.notSynchronized
  have hts := atoms_spec (ws := wsX2_movement) B.pre
  have hown : s.vm.findClass RX2 = some m.cls := findClass_of_methodNamed B.named
  have hl := lv_entry ([.ref (ra 0), .int x, .int (nI fr), .int (nI tt)]) (n := 5) (Nat.le_of_ble_eq_true rfl)
  rw [lg_entry_eq]
  generalize (lg_sl ([.ref (ra 0), .int x, .int (nI fr), .int (nI tt)]) ++ List.replicate (5 - (lg_sl ([.ref (ra 0), .int x, .int (nI fr), .int (nI tt)])).length) Slot.unset).toArray = ls at hl ⊢
  have hl : lv_has ls 5 [(0, .ref (ra 0)), (1, .int x), (2, .int (nI fr)), (3, .int (nI tt))] := hl
  have hit := hB.1.2
  have hcm := cntM_le b ex x fr tt
  refine lv_aload_n hx hb dX2_movement_0 rfl (lv_at hl 0 rfl) ?_
  refine lv_iload_n hx hb dX2_movement_1 rfl (lv_at hl 1 rfl) ?_
  refine lv_iload_n hx hb dX2_movement_2 rfl (lv_at hl 2 rfl) ?_
  refine lv_iload_n hx hb dX2_movement_3 rfl (lv_at hl 3 rfl) ?_
  refine cr_i (va_runV (As := [.int x, .int (nI fr), .int (nI tt)]) (rest := []) ⟨hx, hb, hml, hown, hts⟩ (metX2_countMatched l G ra ad ex v b hB x fr tt (by omega) (by omega)) (cwV 3 hts gX2_movement_X2_countMatched rfl rfl rfl (by decide +kernel) ⟨Nat.le_of_ble_eq_true rfl, Nat.le_of_ble_eq_true rfl⟩) (pR_V (q0 := 0) hK hP rfl rfl) rfl rfl hl.1 rfl (lv_room (Nat.le_of_ble_eq_true rfl)) dX2_movement_4 ⟨Nat.zero_le _, Nat.zero_le _⟩) (fun r_1 hr_2 => ?_)
  subst hr_2
  refine lv_istore (lv' := [(4, .int (nI (cntM b ex x fr tt))), (0, .ref (ra 0)), (1, .int x), (2, .int (nI fr)), (3, .int (nI tt))]) hx hb dX2_movement_7 hl (by decide) rfl (fun ls hl => ?_)
  refine lv_iload hx hb dX2_movement_9 (lv_at hl 0 rfl) ?_
  refine n_if_ne (x := cntM b ex x fr tt) (tgt := 16) hx hb (by omega) dX2_movement_11 (by decide) (fun c_3 => ?_) (fun c_3 => ?_)
  · refine lv_aload_n hx hb dX2_movement_16 rfl (lv_at hl 1 rfl) ?_
    refine va_get (D := G.1) (ci := 2) (v := .ref (ad 0)) (C := RX2) (T := TX2) (N := 3) hx hb hts (by decide +kernel) hown hK.1 hP 0 rfl rfl 0 (by decide) (hts (.fieldLink RX2 19 "PriceIndexCalculator$PriceRows" "basket" "LPriceIndexCalculator$Basket;") (by decide +kernel)) (fun _ h9 => h9) rfl dX2_movement_17 ?_
    refine va_get (D := G.1) (ci := 0) (v := .int (b 0 1)) (C := RX0) (T := TX0) (N := 10) hx hb hts (by decide +kernel) hown hK.1 hP 3 rfl rfl 1 (by decide) (hts (.fieldLink RX2 45 "PriceIndexCalculator$Basket" "formula" "I") (by decide +kernel)) (fun _ h9 => h9) rfl dX2_movement_20 ?_
    refine lv_if_ne (tgt := 46) hx hb dX2_movement_23 (by decide) (fun c_4 => ?_) (fun c_4 => ?_)
    · refine lv_aload_n hx hb dX2_movement_46 rfl (lv_at hl 1 rfl) ?_
      refine va_get (D := G.1) (ci := 2) (v := .ref (ad 0)) (C := RX2) (T := TX2) (N := 3) hx hb hts (by decide +kernel) hown hK.1 hP 0 rfl rfl 0 (by decide) (hts (.fieldLink RX2 19 "PriceIndexCalculator$PriceRows" "basket" "LPriceIndexCalculator$Basket;") (by decide +kernel)) (fun _ h9 => h9) rfl dX2_movement_47 ?_
      refine va_get (D := G.1) (ci := 0) (v := .int (b 0 1)) (C := RX0) (T := TX0) (N := 10) hx hb hts (by decide +kernel) hown hK.1 hP 3 rfl rfl 1 (by decide) (hts (.fieldLink RX2 45 "PriceIndexCalculator$Basket" "formula" "I") (by decide +kernel)) (fun _ h9 => h9) rfl dX2_movement_50 ?_
      refine lv_iconst (v := nI 1) hx hb dX2_movement_53 (by decide) ?_
      refine lv_icmp_ne (tgt := 71) hx hb dX2_movement_54 (by decide) (fun c_5 => ?_) (fun c_5 => ?_)
      · refine lv_iload hx hb dX2_movement_71 (lv_at hl 0 rfl) ?_
        refine lv_i2f hx hb dX2_movement_73 ?_
        refine lv_aload_n hx hb dX2_movement_74 rfl (lv_at hl 1 rfl) ?_
        refine lv_iload_n hx hb dX2_movement_75 rfl (lv_at hl 2 rfl) ?_
        refine lv_iload_n hx hb dX2_movement_76 rfl (lv_at hl 4 rfl) ?_
        refine lv_iload_n hx hb dX2_movement_77 rfl (lv_at hl 3 rfl) ?_
        refine cr_f (va_runV (As := [.int x, .int (nI tt), .int (nI fr)]) (rest := [.float (FP.i2f (nI (cntM b ex x fr tt)))]) ⟨hx, hb, hml, hown, hts⟩ (metX2_sumOfRatios l G ra ad ex v b hB ov x tt fr (by omega) (by omega)) (cwV 3 hts gX2_movement_X2_sumOfRatios rfl rfl rfl (by decide +kernel) ⟨Nat.le_of_ble_eq_true rfl, Nat.le_of_ble_eq_true rfl⟩) (pR_V (q0 := 0) hK hP rfl rfl) rfl rfl hl.1 rfl (lv_room (Nat.le_of_ble_eq_true rfl)) dX2_movement_78 ⟨Nat.zero_le _, Nat.zero_le _⟩) (fun r_6 hr_7 => ?_)
        subst hr_7
        refine cr_f (va_runS (As := [.float (FP.i2f (nI (cntM b ex x fr tt))), .float (sumR b ex v x tt fr (itN b))]) (rest := []) ⟨hx, hb, hml, hown, hts⟩ (metX5_over l G (FP.i2f (nI (cntM b ex x fr tt))) (sumR b ex v x tt fr (itN b)) (ok_i2f_nI (by omega)) (ok_sumR ov (by omega) (by omega) hB.1.2)) (va_cwS 2 hts gX2_movement_X5_over rfl rfl rfl (by decide +kernel) ⟨Nat.le_of_ble_eq_true rfl, Nat.le_of_ble_eq_true rfl⟩) (pR_S hK (va_P_nil _ _ _)) rfl rfl hl.1 rfl (lv_room (Nat.le_of_ble_eq_true rfl)) dX2_movement_81 ⟨Nat.zero_le _, Nat.zero_le _⟩) (fun r_8 hr_9 => ?_)
        subst hr_9
        exact W.fret (v := cOver (FP.i2f (nI (cntM b ex x fr tt))) (sumR b ex v x tt fr (itN b))) hx hb hr (fun t ht hW => ⟨_, rfl, (by unfold movC; rw [if_neg (by omega), if_neg c_4, if_neg c_5]), ht⟩) (fun q hq => absurd hq List.not_mem_nil) dX2_movement_84
      · refine lv_aload_n hx hb dX2_movement_57 rfl (lv_at hl 1 rfl) ?_
        refine lv_iload_n hx hb dX2_movement_58 rfl (lv_at hl 2 rfl) ?_
        refine lv_iload_n hx hb dX2_movement_59 rfl (lv_at hl 3 rfl) ?_
        refine lv_iload_n hx hb dX2_movement_60 rfl (lv_at hl 4 rfl) ?_
        refine cr_f (va_runV (As := [.int x, .int (nI fr), .int (nI tt)]) (rest := []) ⟨hx, hb, hml, hown, hts⟩ (metX2_sumOfRatios l G ra ad ex v b hB ov x fr tt (by omega) (by omega)) (cwV 3 hts gX2_movement_X2_sumOfRatios rfl rfl rfl (by decide +kernel) ⟨Nat.le_of_ble_eq_true rfl, Nat.le_of_ble_eq_true rfl⟩) (pR_V (q0 := 0) hK hP rfl rfl) rfl rfl hl.1 rfl (lv_room (Nat.le_of_ble_eq_true rfl)) dX2_movement_61 ⟨Nat.zero_le _, Nat.zero_le _⟩) (fun r_10 hr_11 => ?_)
        subst hr_11
        refine lv_iload hx hb dX2_movement_64 (lv_at hl 0 rfl) ?_
        refine lv_i2f hx hb dX2_movement_66 ?_
        refine cr_f (va_runS (As := [.float (sumR b ex v x fr tt (itN b)), .float (FP.i2f (nI (cntM b ex x fr tt)))]) (rest := []) ⟨hx, hb, hml, hown, hts⟩ (metX5_over l G (sumR b ex v x fr tt (itN b)) (FP.i2f (nI (cntM b ex x fr tt))) (ok_sumR ov (by omega) (by omega) hB.1.2) (ok_i2f_nI (by omega))) (va_cwS 2 hts gX2_movement_X5_over rfl rfl rfl (by decide +kernel) ⟨Nat.le_of_ble_eq_true rfl, Nat.le_of_ble_eq_true rfl⟩) (pR_S hK (va_P_nil _ _ _)) rfl rfl hl.1 rfl (lv_room (Nat.le_of_ble_eq_true rfl)) dX2_movement_67 ⟨Nat.zero_le _, Nat.zero_le _⟩) (fun r_12 hr_13 => ?_)
        subst hr_13
        exact W.fret (v := cOver (sumR b ex v x fr tt (itN b)) (FP.i2f (nI (cntM b ex x fr tt)))) hx hb hr (fun t ht hW => ⟨_, rfl, (by unfold movC; rw [if_neg (by omega), if_neg c_4, if_pos c_5]), ht⟩) (fun q hq => absurd hq List.not_mem_nil) dX2_movement_70
    · refine lv_aload_n hx hb dX2_movement_26 rfl (lv_at hl 1 rfl) ?_
      refine lv_iload_n hx hb dX2_movement_27 rfl (lv_at hl 2 rfl) ?_
      refine lv_iload_n hx hb dX2_movement_28 rfl (lv_at hl 3 rfl) ?_
      refine lv_iload_n hx hb dX2_movement_29 rfl (lv_at hl 4 rfl) ?_
      refine lv_iload_n hx hb dX2_movement_30 rfl (lv_at hl 4 rfl) ?_
      refine cr_f (va_runV (As := [.int x, .int (nI fr), .int (nI tt), .int (nI tt)]) (rest := []) ⟨hx, hb, hml, hown, hts⟩ (metX2_sumOfPrices l G ra ad ex v b hB ov x fr tt tt (by omega) (by omega) (by omega)) (cwV 4 hts gX2_movement_X2_sumOfPrices rfl rfl rfl (by decide +kernel) ⟨Nat.le_of_ble_eq_true rfl, Nat.le_of_ble_eq_true rfl⟩) (pR_V (q0 := 0) hK hP rfl rfl) rfl rfl hl.1 rfl (lv_room (Nat.le_of_ble_eq_true rfl)) dX2_movement_31 ⟨Nat.zero_le _, Nat.zero_le _⟩) (fun r_14 hr_15 => ?_)
      subst hr_15
      refine lv_aload_n hx hb dX2_movement_34 rfl (lv_at hl 1 rfl) ?_
      refine lv_iload_n hx hb dX2_movement_35 rfl (lv_at hl 2 rfl) ?_
      refine lv_iload_n hx hb dX2_movement_36 rfl (lv_at hl 3 rfl) ?_
      refine lv_iload_n hx hb dX2_movement_37 rfl (lv_at hl 4 rfl) ?_
      refine lv_iload_n hx hb dX2_movement_38 rfl (lv_at hl 3 rfl) ?_
      refine cr_f (va_runV (As := [.int x, .int (nI fr), .int (nI tt), .int (nI fr)]) (rest := [.float (sumP b ex v x fr tt tt (itN b))]) ⟨hx, hb, hml, hown, hts⟩ (metX2_sumOfPrices l G ra ad ex v b hB ov x fr tt fr (by omega) (by omega) (by omega)) (cwV 4 hts gX2_movement_X2_sumOfPrices rfl rfl rfl (by decide +kernel) ⟨Nat.le_of_ble_eq_true rfl, Nat.le_of_ble_eq_true rfl⟩) (pR_V (q0 := 0) hK hP rfl rfl) rfl rfl hl.1 rfl (lv_room (Nat.le_of_ble_eq_true rfl)) dX2_movement_39 ⟨Nat.zero_le _, Nat.zero_le _⟩) (fun r_16 hr_17 => ?_)
      subst hr_17
      refine cr_f (va_runS (As := [.float (sumP b ex v x fr tt tt (itN b)), .float (sumP b ex v x fr tt fr (itN b))]) (rest := []) ⟨hx, hb, hml, hown, hts⟩ (metX5_over l G (sumP b ex v x fr tt tt (itN b)) (sumP b ex v x fr tt fr (itN b)) (ok_sumP ov (by omega) hB.1.2) (ok_sumP ov (by omega) hB.1.2)) (va_cwS 2 hts gX2_movement_X5_over rfl rfl rfl (by decide +kernel) ⟨Nat.le_of_ble_eq_true rfl, Nat.le_of_ble_eq_true rfl⟩) (pR_S hK (va_P_nil _ _ _)) rfl rfl hl.1 rfl (lv_room (Nat.le_of_ble_eq_true rfl)) dX2_movement_42 ⟨Nat.zero_le _, Nat.zero_le _⟩) (fun r_18 hr_19 => ?_)
      subst hr_19
      exact W.fret (v := cOver (sumP b ex v x fr tt tt (itN b)) (sumP b ex v x fr tt fr (itN b))) hx hb hr (fun t ht hW => ⟨_, rfl, (by unfold movC; rw [if_neg (by omega), if_pos c_4]), ht⟩) (fun q hq => absurd hq List.not_mem_nil) dX2_movement_45
  · refine lv_fconst1 hx hb dX2_movement_14 ?_
    exact W.fret (v := FP.fconst1) hx hb hr (fun t ht hW => ⟨_, rfl, (by unfold movC; rw [if_pos c_3]), ht⟩) (fun q hq => absurd hq List.not_mem_nil) dX2_movement_15
set_option maxHeartbeats 4000000 in
set_option maxRecDepth 100000 in
/-- PriceRows.steepest -/
theorem metX2_steepest (l : Launch) (G : GG) (ra ad : Nat → Nat) (ex : Nat → Bool) (v : Nat → UInt32) (b : Nat → Nat → Int32) (hB : bWF b) (ov : okV v) (x : Int32) (fr tt : Nat) (hfr : fr < 24) (htt : tt < 24) : Met l yX2_steepest wsX2_steepest ({ frames := 2, cells := 0, slots := 0, locals := 60 }) (pR G (rbcells G ra ad ex v b) [.ref (ra 0), .int x, .int (nI fr), .int (nI tt)]) (vp_Si (fun r => r = (stpC b ex v x fr tt (itN b)).1)) 0 0 (fun _ => False) := by
  refine Met.ofW (cc := cX2_steepest) (maxL := 8) (ret := (some .int)) (by decide) rfl ?_
  intro p e s m args below meth c s₁ B hml hv
  obtain ⟨rfl, hK, hP⟩ := hv
  have hx := B.exec
  have hb := B.bytes
  have hr := B.returns
  have hlocks := B.notSynchronized
  have hts := atoms_spec (ws := wsX2_steepest) B.pre
  have hown : s.vm.findClass RX2 = some m.cls := findClass_of_methodNamed B.named
  have hl := lv_entry ([.ref (ra 0), .int x, .int (nI fr), .int (nI tt)]) (n := 8) (Nat.le_of_ble_eq_true rfl)
  rw [lg_entry_eq]
  generalize (lg_sl ([.ref (ra 0), .int x, .int (nI fr), .int (nI tt)]) ++ List.replicate (8 - (lg_sl ([.ref (ra 0), .int x, .int (nI fr), .int (nI tt)])).length) Slot.unset).toArray = ls at hl ⊢
  have hl : lv_has ls 8 [(0, .ref (ra 0)), (1, .int x), (2, .int (nI fr)), (3, .int (nI tt))] := hl
  refine lv_iconst (v := (-1)) hx hb dX2_steepest_0 (by decide) ?_
  refine lv_istore (lv' := [(4, .int (-1)), (0, .ref (ra 0)), (1, .int x), (2, .int (nI fr)), (3, .int (nI tt))]) hx hb dX2_steepest_1 hl (by decide) rfl (fun ls hl => ?_)
  refine lv_fconst0 hx hb dX2_steepest_3 ?_
  refine lv_fstore (lv' := [(5, .float FP.fconst0), (4, .int (-1)), (0, .ref (ra 0)), (1, .int x), (2, .int (nI fr)), (3, .int (nI tt))]) hx hb dX2_steepest_4 hl (by decide) rfl (fun ls hl => ?_)
  refine lv_iconst (v := nI 0) hx hb dX2_steepest_6 (by decide) ?_
  refine lv_istore (lv' := [(6, .int (nI 0)), (5, .float FP.fconst0), (4, .int (-1)), (0, .ref (ra 0)), (1, .int x), (2, .int (nI fr)), (3, .int (nI tt))]) hx hb dX2_steepest_7 hl (by decide) rfl (fun ls hl => ?_)
  refine lpR (S := Int32 × UInt32) (itN b) (fun i u => (u.1, u.2) = stpC b ex v x fr tt (i)) (fun i u => [(0, .ref (ra 0)), (1, .int x), (2, .int (nI fr)), (3, .int (nI tt)), (4, .int u.1), (5, .float u.2), (6, .int (nI i))]) (fun u ls hI_2 hl => ?_) (fun i u ls hi_3 hI_2 hl ih_1 => ?_) (0) ((-1), FP.fconst0) (by omega) (rfl) (lv_sub hl [3, 4, 5, 6, 2, 1, 0] rfl)
  · obtain ⟨bs, rt⟩ := u
    have hl : lv_has ls 8 [(0, .ref (ra 0)), (1, .int x), (2, .int (nI fr)), (3, .int (nI tt)), (4, .int bs), (5, .float rt), (6, .int (nI (itN b)))] := hl
    have hit := hB.1.2
    refine lv_iload hx hb dX2_steepest_9 (lv_at hl 6 rfl) ?_
    refine lv_aload_n hx hb dX2_steepest_11 rfl (lv_at hl 0 rfl) ?_
    refine va_get (D := G.1) (ci := 2) (v := .ref (ad 0)) (C := RX2) (T := TX2) (N := 3) hx hb hts (by decide +kernel) hown hK.1 hP 0 rfl rfl 0 (by decide) (hts (.fieldLink RX2 19 "PriceIndexCalculator$PriceRows" "basket" "LPriceIndexCalculator$Basket;") (by decide +kernel)) (fun _ h9 => h9) rfl dX2_steepest_12 ?_
    refine va_get (D := G.1) (ci := 0) (v := .int (b 0 0)) (C := RX0) (T := TX0) (N := 10) hx hb hts (by decide +kernel) hown hK.1 hP 3 rfl rfl 0 (by decide) (hts (.fieldLink RX2 33 "PriceIndexCalculator$Basket" "items" "I") (by decide +kernel)) (fun _ h9 => h9) rfl dX2_steepest_15 ?_
    refine eq_i (y := nI (itN b)) (hB.1.1) ?_
    refine n_icmp_ge (x := itN b) (y := itN b) (tgt := 80) hx hb (by omega) (by omega) dX2_steepest_18 (by decide) (fun c_4 => ?_) (fun c_4 => ?_)
    · refine lv_iload hx hb dX2_steepest_80 (lv_at hl 4 rfl) ?_
      exact W.iret (v := bs) hx hb hr (fun t ht hW => ⟨_, rfl, (congrArg Prod.fst hI_2), ht⟩) (fun q hq => absurd hq List.not_mem_nil) dX2_steepest_82
    · exact absurd c_4 (by omega)
  · obtain ⟨bs, rt⟩ := u
    have hl : lv_has ls 8 [(0, .ref (ra 0)), (1, .int x), (2, .int (nI fr)), (3, .int (nI tt)), (4, .int bs), (5, .float rt), (6, .int (nI i))] := hl
    have hit := hB.1.2
    refine lv_iload hx hb dX2_steepest_9 (lv_at hl 6 rfl) ?_
    refine lv_aload_n hx hb dX2_steepest_11 rfl (lv_at hl 0 rfl) ?_
    refine va_get (D := G.1) (ci := 2) (v := .ref (ad 0)) (C := RX2) (T := TX2) (N := 3) hx hb hts (by decide +kernel) hown hK.1 hP 0 rfl rfl 0 (by decide) (hts (.fieldLink RX2 19 "PriceIndexCalculator$PriceRows" "basket" "LPriceIndexCalculator$Basket;") (by decide +kernel)) (fun _ h9 => h9) rfl dX2_steepest_12 ?_
    refine va_get (D := G.1) (ci := 0) (v := .int (b 0 0)) (C := RX0) (T := TX0) (N := 10) hx hb hts (by decide +kernel) hown hK.1 hP 3 rfl rfl 0 (by decide) (hts (.fieldLink RX2 33 "PriceIndexCalculator$Basket" "items" "I") (by decide +kernel)) (fun _ h9 => h9) rfl dX2_steepest_15 ?_
    refine eq_i (y := nI (itN b)) (hB.1.1) ?_
    refine n_icmp_ge (x := i) (y := itN b) (tgt := 80) hx hb (by omega) (by omega) dX2_steepest_18 (by decide) (fun c_5 => ?_) (fun c_5 => ?_)
    · exact absurd c_5 (by omega)
    · refine lv_aload_n hx hb dX2_steepest_21 rfl (lv_at hl 0 rfl) ?_
      refine lv_iload hx hb dX2_steepest_22 (lv_at hl 6 rfl) ?_
      refine lv_iload_n hx hb dX2_steepest_24 rfl (lv_at hl 1 rfl) ?_
      refine lv_iload_n hx hb dX2_steepest_25 rfl (lv_at hl 2 rfl) ?_
      refine lv_iload_n hx hb dX2_steepest_26 rfl (lv_at hl 3 rfl) ?_
      refine cr_i (va_runV (As := [.int (nI i), .int x, .int (nI fr), .int (nI tt)]) (rest := []) ⟨hx, hb, hml, hown, hts⟩ (metX2_isMatched l G ra ad ex v b i x fr tt (by omega) (by omega) (by omega)) (cwV 4 hts gX2_steepest_X2_isMatched rfl rfl rfl (by decide +kernel) ⟨Nat.le_of_ble_eq_true rfl, Nat.le_of_ble_eq_true rfl⟩) (pR_V (q0 := 0) hK hP rfl rfl) rfl rfl hl.1 rfl (lv_room (Nat.le_of_ble_eq_true rfl)) dX2_steepest_27 ⟨Nat.zero_le _, Nat.zero_le _⟩) (fun r_6 hr_7 => ?_)
      subst hr_7
      refine nb_if_eq (B := mat b ex x fr tt i) (tgt := 74) hx hb dX2_steepest_30 (by decide) (fun c_8 => ?_) (fun c_8 => ?_)
      · refine lv_iinc (v := nI (i + 1)) (lv' := [(6, .int (nI (i + 1))), (0, .ref (ra 0)), (1, .int x), (2, .int (nI fr)), (3, .int (nI tt)), (4, .int bs), (5, .float rt)]) hx hb dX2_steepest_74 hl (k := 6) rfl (by exact nI_add _ _) (by decide) rfl (fun ls hl => ?_)
        refine lv_goto (tgt := 9) hx hb dX2_steepest_77 (by decide) ?_
        exact ih_1 (bs, rt) _ (by rw [stpC, ← hI_2]; simp [c_5, c_8]) (lv_sub hl [1, 2, 3, 4, 5, 6, 0] rfl)
      · refine lv_aload_n hx hb dX2_steepest_33 rfl (lv_at hl 0 rfl) ?_
        refine lv_iload hx hb dX2_steepest_34 (lv_at hl 6 rfl) ?_
        refine lv_iload_n hx hb dX2_steepest_36 rfl (lv_at hl 3 rfl) ?_
        refine cr_f (va_runV (As := [.int (nI i), .int (nI tt)]) (rest := []) ⟨hx, hb, hml, hown, hts⟩ (metX2_get l G ra (ad 0) ex v i tt (by omega) (by omega)) (cwV 2 hts gX2_steepest_X2_get rfl rfl rfl (by decide +kernel) ⟨Nat.le_of_ble_eq_true rfl, Nat.le_of_ble_eq_true rfl⟩) (pR_V (q0 := 0) hK (hP.sub (ws' := rcells G ra (ad 0) ex v) [0, 1, 2] rfl) rfl rfl) rfl rfl hl.1 rfl (lv_room (Nat.le_of_ble_eq_true rfl)) dX2_steepest_37 ⟨Nat.zero_le _, Nat.zero_le _⟩) (fun r_9 hr_10 => ?_)
        subst hr_10
        refine lv_aload_n hx hb dX2_steepest_40 rfl (lv_at hl 0 rfl) ?_
        refine lv_iload hx hb dX2_steepest_41 (lv_at hl 6 rfl) ?_
        refine lv_iload_n hx hb dX2_steepest_43 rfl (lv_at hl 2 rfl) ?_
        refine cr_f (va_runV (As := [.int (nI i), .int (nI fr)]) (rest := [.float (v (i * 24 + tt))]) ⟨hx, hb, hml, hown, hts⟩ (metX2_get l G ra (ad 0) ex v i fr (by omega) (by omega)) (cwV 2 hts gX2_steepest_X2_get rfl rfl rfl (by decide +kernel) ⟨Nat.le_of_ble_eq_true rfl, Nat.le_of_ble_eq_true rfl⟩) (pR_V (q0 := 0) hK (hP.sub (ws' := rcells G ra (ad 0) ex v) [0, 1, 2] rfl) rfl rfl) rfl rfl hl.1 rfl (lv_room (Nat.le_of_ble_eq_true rfl)) dX2_steepest_44 ⟨Nat.zero_le _, Nat.zero_le _⟩) (fun r_11 hr_12 => ?_)
        subst hr_12
        refine cr_f (va_runS (As := [.float (v (i * 24 + tt)), .float (v (i * 24 + fr))]) (rest := []) ⟨hx, hb, hml, hown, hts⟩ (metX5_over l G (v (i * 24 + tt)) (v (i * 24 + fr)) (ov _ (by omega)) (ov _ (by omega))) (va_cwS 2 hts gX2_steepest_X5_over rfl rfl rfl (by decide +kernel) ⟨Nat.le_of_ble_eq_true rfl, Nat.le_of_ble_eq_true rfl⟩) (pR_S hK (va_P_nil _ _ _)) rfl rfl hl.1 rfl (lv_room (Nat.le_of_ble_eq_true rfl)) dX2_steepest_47 ⟨Nat.zero_le _, Nat.zero_le _⟩) (fun r_13 hr_14 => ?_)
        subst hr_14
        refine lv_fstore (lv' := [(7, .float (cOver (v (i * 24 + tt)) (v (i * 24 + fr)))), (0, .ref (ra 0)), (1, .int x), (2, .int (nI fr)), (3, .int (nI tt)), (4, .int bs), (5, .float rt), (6, .int (nI i))]) hx hb dX2_steepest_50 hl (by decide) rfl (fun ls hl => ?_)
        refine lv_iload hx hb dX2_steepest_52 (lv_at hl 5 rfl) ?_
        refine lv_iconst (v := (-1)) hx hb dX2_steepest_54 (by decide) ?_
        refine lv_icmp_eq (tgt := 66) hx hb dX2_steepest_55 (by decide) (fun c_15 => ?_) (fun c_15 => ?_)
        · refine lv_iload hx hb dX2_steepest_66 (lv_at hl 7 rfl) ?_
          refine lv_istore (lv' := [(4, .int (nI i)), (7, .float (cOver (v (i * 24 + tt)) (v (i * 24 + fr)))), (0, .ref (ra 0)), (1, .int x), (2, .int (nI fr)), (3, .int (nI tt)), (5, .float rt), (6, .int (nI i))]) hx hb dX2_steepest_68 hl (by decide) rfl (fun ls hl => ?_)
          refine lv_fload hx hb dX2_steepest_70 (lv_at hl 1 rfl) ?_
          refine lv_fstore (lv' := [(5, .float (cOver (v (i * 24 + tt)) (v (i * 24 + fr)))), (4, .int (nI i)), (7, .float (cOver (v (i * 24 + tt)) (v (i * 24 + fr)))), (0, .ref (ra 0)), (1, .int x), (2, .int (nI fr)), (3, .int (nI tt)), (6, .int (nI i))]) hx hb dX2_steepest_72 hl (by decide) rfl (fun ls hl => ?_)
          refine lv_iinc (v := nI (i + 1)) (lv' := [(6, .int (nI (i + 1))), (5, .float (cOver (v (i * 24 + tt)) (v (i * 24 + fr)))), (4, .int (nI i)), (7, .float (cOver (v (i * 24 + tt)) (v (i * 24 + fr)))), (0, .ref (ra 0)), (1, .int x), (2, .int (nI fr)), (3, .int (nI tt))]) hx hb dX2_steepest_74 hl (k := 7) rfl (by exact nI_add _ _) (by decide) rfl (fun ls hl => ?_)
          refine lv_goto (tgt := 9) hx hb dX2_steepest_77 (by decide) ?_
          exact ih_1 (nI i, cOver (v (i * 24 + tt)) (v (i * 24 + fr))) _ (by rw [stpC, ← hI_2]; simp [c_5, c_8, c_15]) (lv_sub hl [4, 5, 6, 7, 2, 1, 0] rfl)
        · refine lv_fload hx hb dX2_steepest_58 (lv_at hl 0 rfl) ?_
          refine lv_fload hx hb dX2_steepest_60 (lv_at hl 6 rfl) ?_
          refine lv_fcmp hx hb dX2_steepest_62 ?_
          refine nf_l_le (tgt := 74) hx hb dX2_steepest_63 (by decide) (fun c_16 => ?_) (fun c_16 => ?_)
          · refine lv_iinc (v := nI (i + 1)) (lv' := [(6, .int (nI (i + 1))), (7, .float (cOver (v (i * 24 + tt)) (v (i * 24 + fr)))), (0, .ref (ra 0)), (1, .int x), (2, .int (nI fr)), (3, .int (nI tt)), (4, .int bs), (5, .float rt)]) hx hb dX2_steepest_74 hl (k := 7) rfl (by exact nI_add _ _) (by decide) rfl (fun ls hl => ?_)
            refine lv_goto (tgt := 9) hx hb dX2_steepest_77 (by decide) ?_
            exact ih_1 (bs, rt) _ (by rw [stpC, ← hI_2]; simp [c_5, c_8, c_15, c_16]) (lv_sub hl [2, 3, 4, 5, 6, 7, 0] rfl)
          · refine lv_iload hx hb dX2_steepest_66 (lv_at hl 7 rfl) ?_
            refine lv_istore (lv' := [(4, .int (nI i)), (7, .float (cOver (v (i * 24 + tt)) (v (i * 24 + fr)))), (0, .ref (ra 0)), (1, .int x), (2, .int (nI fr)), (3, .int (nI tt)), (5, .float rt), (6, .int (nI i))]) hx hb dX2_steepest_68 hl (by decide) rfl (fun ls hl => ?_)
            refine lv_fload hx hb dX2_steepest_70 (lv_at hl 1 rfl) ?_
            refine lv_fstore (lv' := [(5, .float (cOver (v (i * 24 + tt)) (v (i * 24 + fr)))), (4, .int (nI i)), (7, .float (cOver (v (i * 24 + tt)) (v (i * 24 + fr)))), (0, .ref (ra 0)), (1, .int x), (2, .int (nI fr)), (3, .int (nI tt)), (6, .int (nI i))]) hx hb dX2_steepest_72 hl (by decide) rfl (fun ls hl => ?_)
            refine lv_iinc (v := nI (i + 1)) (lv' := [(6, .int (nI (i + 1))), (5, .float (cOver (v (i * 24 + tt)) (v (i * 24 + fr)))), (4, .int (nI i)), (7, .float (cOver (v (i * 24 + tt)) (v (i * 24 + fr)))), (0, .ref (ra 0)), (1, .int x), (2, .int (nI fr)), (3, .int (nI tt))]) hx hb dX2_steepest_74 hl (k := 7) rfl (by exact nI_add _ _) (by decide) rfl (fun ls hl => ?_)
            refine lv_goto (tgt := 9) hx hb dX2_steepest_77 (by decide) ?_
            exact ih_1 (nI i, cOver (v (i * 24 + tt)) (v (i * 24 + fr))) _ (by rw [stpC, ← hI_2]; simp [c_5, c_8, c_15, c_16]) (lv_sub hl [4, 5, 6, 7, 2, 1, 0] rfl)
set_option maxHeartbeats 4000000 in
set_option maxRecDepth 100000 in
/-- PriceRows.put -/
theorem metX2_put (l : Launch) (G : GG) (ra : Nat → Nat) (h : Nat) (ex : Nat → Bool) (v : Nat → UInt32) (k mo : Nat) (y : UInt32) (hk : k < 12) (hm : mo < 24) : Met l yX2_put wsX2_put ({ frames := 1, cells := 0, slots := 0, locals := 30 }) (pM G (rcells G ra h ex v) [.ref (ra 0), .int (nI k), .int (nI mo), .float y]) (va_Qv (fun (_ : Unit) => True) (bM G (fun _ : Unit => rcells G ra h (va_up ex (k * 24 + mo) true) (vf_upd v (k * 24 + mo) y))) (adr (rcells G ra h ex v))) 0 0 (adr (rcells G ra h ex v)) := by
  refine Met.ofW (cc := cX2_put) (maxL := 4) (ret := none) (by decide) rfl ?_
  intro p e s m args below meth c s₁ B hml hv
  obtain ⟨rfl, hK, hP, hD0⟩ := hv
  have hx := B.exec
  have hb := B.bytes
  have hr := B.returns
  have hlocks := B.notSynchronized
  have hts := atoms_spec (ws := wsX2_put) B.pre
  have hown : s.vm.findClass RX2 = some m.cls := findClass_of_methodNamed B.named
  have hD := hD0.own
  generalize hAe : adr (rcells G ra h ex v) = A at hD ⊢
  have hS : va_S A s.heap s.heap [] := va_S.rf
  have hl := lv_entry ([.ref (ra 0), .int (nI k), .int (nI mo), .float y]) (n := 4) (Nat.le_of_ble_eq_true rfl)
  rw [lg_entry_eq]
  generalize (lg_sl ([.ref (ra 0), .int (nI k), .int (nI mo), .float y]) ++ List.replicate (4 - (lg_sl ([.ref (ra 0), .int (nI k), .int (nI mo), .float y])).length) Slot.unset).toArray = ls at hl ⊢
  have hl : lv_has ls 4 [(0, .ref (ra 0)), (1, .int (nI k)), (2, .int (nI mo)), (3, .float y)] := hl
  have hP : va_P G.1 vwCl ([(ra 0, .inr (2, [.ref h, .ref (ra 1), .ref (ra 2)])), (ra 1, .inl (G.2 1, 288, .inl (fun j => bI (ex j)))), (ra 2, .inl (G.2 2, 288, .inr (.inr (.inl v))))]) s.heap := hP
  have hD : va_D A ([(ra 0, .inr (2, [.ref h, .ref (ra 1), .ref (ra 2)])), (ra 1, .inl (G.2 1, 288, .inl (fun j => bI (ex j)))), (ra 2, .inl (G.2 2, 288, .inr (.inr (.inl v))))]) := hD
  refine lv_aload_n hx hb dX2_put_0 rfl (lv_at hl 0 rfl) ?_
  refine va_get (D := G.1) (ci := 2) (v := .ref (ra 1)) (C := RX2) (T := TX2) (N := 3) hx hb hts (by decide +kernel) hown hK.1 hP 0 rfl rfl 1 (by decide) (hts (.fieldLink RX2 9 "PriceIndexCalculator$PriceRows" "exists" "[Z") (by decide +kernel)) (fun _ h9 => h9) rfl dX2_put_1 ?_
  refine lv_iload_n hx hb dX2_put_4 rfl (lv_at hl 1 rfl) ?_
  refine lv_iload_n hx hb dX2_put_5 rfl (lv_at hl 2 rfl) ?_
  refine cr_i (va_runSN (As := [.int (nI k), .int (nI mo)]) (rest := [.ref (ra 1)]) ⟨hx, hb, hml, hown, hts⟩ (metX6_cell l G k mo) ⟨va_cnB 2 hts gX2_put_X6_cell_n23 rfl rfl rfl hK.2.2.1 (hts (.initialized RX6) (by decide +kernel)) (by decide +kernel) ⟨Nat.le_of_ble_eq_true rfl, Nat.le_of_ble_eq_true rfl⟩, (hts (.static yX6_cell) (by decide +kernel)), trivial⟩ (pR_S hK (va_P_nil _ _ _)) rfl rfl hl.1 rfl (lv_room (Nat.le_of_ble_eq_true rfl)) dX2_put_6 ⟨Nat.zero_le _, Nat.zero_le _⟩) (fun r_1 hr_2 => ?_)
  subst hr_2
  refine lv_iconst (v := nI 1) hx hb dX2_put_9 (by decide) ?_
  refine n_zast hx hb hK.1 hP hD hS 1 1 rfl rfl (j := k * 24 + mo) (by first | exact Or.inl rfl | exact Or.inr rfl) (by omega) (by omega) dX2_put_10 (fun H locs hP hD hS => ?_)
  have hP : va_P G.1 vwCl ([(ra 0, .inr (2, [.ref h, .ref (ra 1), .ref (ra 2)])), (ra 1, .inl (G.2 1, 288, .inl (upd (fun j => bI (ex j)) (k * 24 + mo) (nI 1)))), (ra 2, .inl (G.2 2, 288, .inr (.inr (.inl v))))]) H := hP
  have hD : va_D A ([(ra 0, .inr (2, [.ref h, .ref (ra 1), .ref (ra 2)])), (ra 1, .inl (G.2 1, 288, .inl (upd (fun j => bI (ex j)) (k * 24 + mo) (nI 1)))), (ra 2, .inl (G.2 2, 288, .inr (.inr (.inl v))))]) := hD
  refine lv_aload_n hx hb dX2_put_11 rfl (lv_at hl 0 rfl) ?_
  refine va_get (D := G.1) (ci := 2) (v := .ref (ra 2)) (C := RX2) (T := TX2) (N := 3) hx hb hts (by decide +kernel) hown hK.1 hP 0 rfl rfl 2 (by decide) (hts (.fieldLink RX2 15 "PriceIndexCalculator$PriceRows" "price" "[F") (by decide +kernel)) (fun _ h9 => h9) rfl dX2_put_12 ?_
  refine lv_iload_n hx hb dX2_put_15 rfl (lv_at hl 1 rfl) ?_
  refine lv_iload_n hx hb dX2_put_16 rfl (lv_at hl 2 rfl) ?_
  refine cr_i (va_runSN (As := [.int (nI k), .int (nI mo)]) (rest := [.ref (ra 2)]) ⟨hx, hb, hml, hown, hts⟩ (metX6_cell l G k mo) ⟨va_cnB 2 hts gX2_put_X6_cell_n23 rfl rfl rfl hK.2.2.1 (hts (.initialized RX6) (by decide +kernel)) (by decide +kernel) ⟨Nat.le_of_ble_eq_true rfl, Nat.le_of_ble_eq_true rfl⟩, (hts (.static yX6_cell) (by decide +kernel)), trivial⟩ (pR_S hK (va_P_nil _ _ _)) rfl rfl hl.1 rfl (lv_room (Nat.le_of_ble_eq_true rfl)) dX2_put_17 ⟨Nat.zero_le _, Nat.zero_le _⟩) (fun r_3 hr_4 => ?_)
  subst hr_4
  refine lv_fload_n hx hb dX2_put_20 rfl (lv_at hl 3 rfl) ?_
  refine n_fast hx hb hK.1 hP hD hS 2 2 rfl rfl (j := k * 24 + mo) (by omega) (by omega) dX2_put_21 (fun H locs hP hD hS => ?_)
  have hP : va_P G.1 vwCl ([(ra 0, .inr (2, [.ref h, .ref (ra 1), .ref (ra 2)])), (ra 1, .inl (G.2 1, 288, .inl (upd (fun j => bI (ex j)) (k * 24 + mo) (nI 1)))), (ra 2, .inl (G.2 2, 288, .inr (.inr (.inl (vf_upd v (k * 24 + mo) y)))))]) H := hP
  have hD : va_D A ([(ra 0, .inr (2, [.ref h, .ref (ra 1), .ref (ra 2)])), (ra 1, .inl (G.2 1, 288, .inl (upd (fun j => bI (ex j)) (k * 24 + mo) (nI 1)))), (ra 2, .inl (G.2 2, 288, .inr (.inr (.inl (vf_upd v (k * 24 + mo) y)))))]) := hD
  have hP9 : va_P G.1 vwCl (rcells G ra h (va_up ex (k * 24 + mo) true) (vf_upd v (k * 24 + mo) y)) H := P_int hP 1 rfl (g := fun j => bI ((va_up ex (k * 24 + mo) true) j)) (fun j _ => by simp only [upd, va_up]; split <;> rfl)
  exact W.vret hx hb hr (fun t ht hW => ⟨⟨(), rfl, trivial, bM_end ht hP9⟩, hS.F ht⟩) hS.2.2 dX2_put_22
set_option maxHeartbeats 4000000 in
set_option maxRecDepth 100000 in
/-- PriceRows.remove -/
theorem metX2_remove (l : Launch) (G : GG) (ra : Nat → Nat) (h : Nat) (ex : Nat → Bool) (v : Nat → UInt32) (k mo : Nat) (hk : k < 12) (hm : mo < 24) : Met l yX2_remove wsX2_remove ({ frames := 1, cells := 0, slots := 0, locals := 30 }) (pM G (rcells G ra h ex v) [.ref (ra 0), .int (nI k), .int (nI mo)]) (va_Qv (fun (_ : Unit) => True) (bM G (fun _ : Unit => rcells G ra h (va_up ex (k * 24 + mo) false) (v))) (adr (rcells G ra h ex v))) 0 0 (adr (rcells G ra h ex v)) := by
  refine Met.ofW (cc := cX2_remove) (maxL := 3) (ret := none) (by decide) rfl ?_
  intro p e s m args below meth c s₁ B hml hv
  obtain ⟨rfl, hK, hP, hD0⟩ := hv
  have hx := B.exec
  have hb := B.bytes
  have hr := B.returns
  have hlocks := B.notSynchronized
  have hts := atoms_spec (ws := wsX2_remove) B.pre
  have hown : s.vm.findClass RX2 = some m.cls := findClass_of_methodNamed B.named
  have hD := hD0.own
  generalize hAe : adr (rcells G ra h ex v) = A at hD ⊢
  have hS : va_S A s.heap s.heap [] := va_S.rf
  have hl := lv_entry ([.ref (ra 0), .int (nI k), .int (nI mo)]) (n := 3) (Nat.le_of_ble_eq_true rfl)
  rw [lg_entry_eq]
  generalize (lg_sl ([.ref (ra 0), .int (nI k), .int (nI mo)]) ++ List.replicate (3 - (lg_sl ([.ref (ra 0), .int (nI k), .int (nI mo)])).length) Slot.unset).toArray = ls at hl ⊢
  have hl : lv_has ls 3 [(0, .ref (ra 0)), (1, .int (nI k)), (2, .int (nI mo))] := hl
  have hP : va_P G.1 vwCl ([(ra 0, .inr (2, [.ref h, .ref (ra 1), .ref (ra 2)])), (ra 1, .inl (G.2 1, 288, .inl (fun j => bI (ex j)))), (ra 2, .inl (G.2 2, 288, .inr (.inr (.inl v))))]) s.heap := hP
  have hD : va_D A ([(ra 0, .inr (2, [.ref h, .ref (ra 1), .ref (ra 2)])), (ra 1, .inl (G.2 1, 288, .inl (fun j => bI (ex j)))), (ra 2, .inl (G.2 2, 288, .inr (.inr (.inl v))))]) := hD
  refine lv_aload_n hx hb dX2_remove_0 rfl (lv_at hl 0 rfl) ?_
  refine va_get (D := G.1) (ci := 2) (v := .ref (ra 1)) (C := RX2) (T := TX2) (N := 3) hx hb hts (by decide +kernel) hown hK.1 hP 0 rfl rfl 1 (by decide) (hts (.fieldLink RX2 9 "PriceIndexCalculator$PriceRows" "exists" "[Z") (by decide +kernel)) (fun _ h9 => h9) rfl dX2_remove_1 ?_
  refine lv_iload_n hx hb dX2_remove_4 rfl (lv_at hl 1 rfl) ?_
  refine lv_iload_n hx hb dX2_remove_5 rfl (lv_at hl 2 rfl) ?_
  refine cr_i (va_runSN (As := [.int (nI k), .int (nI mo)]) (rest := [.ref (ra 1)]) ⟨hx, hb, hml, hown, hts⟩ (metX6_cell l G k mo) ⟨va_cnB 2 hts gX2_remove_X6_cell_n23 rfl rfl rfl hK.2.2.1 (hts (.initialized RX6) (by decide +kernel)) (by decide +kernel) ⟨Nat.le_of_ble_eq_true rfl, Nat.le_of_ble_eq_true rfl⟩, (hts (.static yX6_cell) (by decide +kernel)), trivial⟩ (pR_S hK (va_P_nil _ _ _)) rfl rfl hl.1 rfl (lv_room (Nat.le_of_ble_eq_true rfl)) dX2_remove_6 ⟨Nat.zero_le _, Nat.zero_le _⟩) (fun r_1 hr_2 => ?_)
  subst hr_2
  refine lv_iconst (v := nI 0) hx hb dX2_remove_9 (by decide) ?_
  refine n_zast hx hb hK.1 hP hD hS 1 1 rfl rfl (j := k * 24 + mo) (by first | exact Or.inl rfl | exact Or.inr rfl) (by omega) (by omega) dX2_remove_10 (fun H locs hP hD hS => ?_)
  have hP : va_P G.1 vwCl ([(ra 0, .inr (2, [.ref h, .ref (ra 1), .ref (ra 2)])), (ra 1, .inl (G.2 1, 288, .inl (upd (fun j => bI (ex j)) (k * 24 + mo) (nI 0)))), (ra 2, .inl (G.2 2, 288, .inr (.inr (.inl v))))]) H := hP
  have hD : va_D A ([(ra 0, .inr (2, [.ref h, .ref (ra 1), .ref (ra 2)])), (ra 1, .inl (G.2 1, 288, .inl (upd (fun j => bI (ex j)) (k * 24 + mo) (nI 0)))), (ra 2, .inl (G.2 2, 288, .inr (.inr (.inl v))))]) := hD
  have hP9 : va_P G.1 vwCl (rcells G ra h (va_up ex (k * 24 + mo) false) (v)) H := P_int hP 1 rfl (g := fun j => bI ((va_up ex (k * 24 + mo) false) j)) (fun j _ => by simp only [upd, va_up]; split <;> rfl)
  exact W.vret hx hb hr (fun t ht hW => ⟨⟨(), rfl, trivial, bM_end ht hP9⟩, hS.F ht⟩) hS.2.2 dX2_remove_11
