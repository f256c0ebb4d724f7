set_option maxHeartbeats 4000000 in
set_option maxRecDepth 100000 in
theorem metX7_in (l : Launch) (G : GG) (y1 y2 y3 : Int32) : Met l yX7_in wsX7_in ({ frames := 0, cells := 0, slots := 0, locals := 0 }) (pR G ([]) [.int y1, .int y2, .int y3]) (vp_Si (fun r => r = bI (inR y1 y2 y3))) 0 0 (fun _ => False) := by
  refine Met.ofW (cc := cX7_in) (maxL := 3) (ret := (some .boolean)) (by decide) rfl ?_
  intro p e s m args below meth c s₁ B hml hv
  obtain ⟨rfl, hK, hP⟩ := hv
  have hx := B.exec
  have hb := B.bytes
  have hr := B.returns
  have hlocks := B.notSynchronized
  have hts := atoms_spec (ws := wsX7_in) B.pre
  have hown : s.vm.findClass RX7 = some m.cls := findClass_of_methodNamed B.named
  have hl := lv_entry ([.int y1, .int y2, .int y3]) (n := 3) (Nat.le_of_ble_eq_true rfl)
  rw [lg_entry_eq]
  generalize (lg_sl ([.int y1, .int y2, .int y3]) ++ List.replicate (3 - (lg_sl ([.int y1, .int y2, .int y3])).length) Slot.unset).toArray = ls at hl ⊢
  have hl : lv_has ls 3 [(0, .int y1), (1, .int y2), (2, .int y3)] := hl
  refine lv_iload_n hx hb dX7_in_0 rfl (lv_at hl 0 rfl) ?_
  refine lv_iload_n hx hb dX7_in_1 rfl (lv_at hl 1 rfl) ?_
  refine lv_icmp_lt (tgt := 14) hx hb dX7_in_2 (by decide) (fun c_1 => ?_) (fun c_1 => ?_)
  · refine lv_iconst (v := nI 0) hx hb dX7_in_14 (by decide) ?_
    exact W.zret (v := nI 0) (ty := .boolean) hx hb hr (by rfl) (fun t ht hW => ⟨_, rfl, ((congrArg bI (by simp [inR, c_1] : inR y1 y2 y3 = false)).symm), ht⟩) (fun q hq => absurd hq List.not_mem_nil) dX7_in_15
  · refine lv_iload_n hx hb dX7_in_5 rfl (lv_at hl 0 rfl) ?_
    refine lv_iload_n hx hb dX7_in_6 rfl (lv_at hl 2 rfl) ?_
    refine lv_icmp_gt (tgt := 14) hx hb dX7_in_7 (by decide) (fun c_2 => ?_) (fun c_2 => ?_)
    · refine lv_iconst (v := nI 0) hx hb dX7_in_14 (by decide) ?_
      exact W.zret (v := nI 0) (ty := .boolean) hx hb hr (by rfl) (fun t ht hW => ⟨_, rfl, ((congrArg bI (by simp [inR, c_1, c_2] : inR y1 y2 y3 = false)).symm), ht⟩) (fun q hq => absurd hq List.not_mem_nil) dX7_in_15
    · refine lv_iconst (v := nI 1) hx hb dX7_in_10 (by decide) ?_
      refine lv_goto (tgt := 15) hx hb dX7_in_11 (by decide) ?_
      exact W.zret (v := nI 1) (ty := .boolean) hx hb hr (by rfl) (fun t ht hW => ⟨_, rfl, ((congrArg bI (by simp [inR, c_1, c_2] : inR y1 y2 y3 = true)).symm), ht⟩) (fun q hq => absurd hq List.not_mem_nil) dX7_in_15
set_option maxHeartbeats 4000000 in
set_option maxRecDepth 100000 in
theorem metX7_isMonth (l : Launch) (G : GG) (y1 : Int32) : Met l yX7_isMonth wsX7_isMonth ({ frames := 1, cells := 0, slots := 0, locals := 30 }) (pR G ([]) [.int y1]) (vp_Si (fun r => r = bI (isMonM y1))) 0 0 (fun _ => False) := by
  refine Met.ofW (cc := cX7_isMonth) (maxL := 1) (ret := (some .boolean)) (by decide) rfl ?_
  intro p e s m args below meth c s₁ B hml hv
  obtain ⟨rfl, hK, hP⟩ := hv
  have hx := B.exec
  have hb := B.bytes
  have hr := B.returns
  have hlocks := B.notSynchronized
  have hts := atoms_spec (ws := wsX7_isMonth) B.pre
  have hown : s.vm.findClass RX7 = some m.cls := findClass_of_methodNamed B.named
  have hl := lv_entry ([.int y1]) (n := 1) (Nat.le_of_ble_eq_true rfl)
  rw [lg_entry_eq]
  generalize (lg_sl ([.int y1]) ++ List.replicate (1 - (lg_sl ([.int y1])).length) Slot.unset).toArray = ls at hl ⊢
  have hl : lv_has ls 1 [(0, .int y1)] := hl
  refine lv_iload_n hx hb dX7_isMonth_0 rfl (lv_at hl 0 rfl) ?_
  refine lv_iconst (v := nI 0) hx hb dX7_isMonth_1 (by decide) ?_
  refine lv_bipush (v := nI 23) hx hb dX7_isMonth_2 (by decide) ?_
  refine cr_i (va_runS (As := [.int y1, .int (nI 0), .int (nI 23)]) (rest := []) ⟨hx, hb, hml, hown, hts⟩ (metX7_in l G y1 (nI 0) (nI 23)) (cwS 3 hts gX7_isMonth_X7_in rfl rfl rfl (by decide +kernel) ⟨Nat.le_of_ble_eq_true rfl, Nat.le_of_ble_eq_true rfl⟩) (pR_S hK (va_P_nil _ _ _)) rfl rfl hl.1 rfl (lv_room (Nat.le_of_ble_eq_true rfl)) dX7_isMonth_4 ⟨Nat.zero_le _, Nat.zero_le _⟩) (fun r_1 hr_2 => ?_)
  subst hr_2
  exact W.zret (v := bI (inR y1 (nI 0) (nI 23))) (ty := .boolean) hx hb hr (nar_bI _) (fun t ht hW => ⟨_, rfl, rfl, ht⟩) (fun q hq => absurd hq List.not_mem_nil) dX7_isMonth_7
set_option maxHeartbeats 4000000 in
set_option maxRecDepth 100000 in
theorem metX7_isStratum (l : Launch) (G : GG) (y1 : Int32) : Met l yX7_isStratum wsX7_isStratum ({ frames := 1, cells := 0, slots := 0, locals := 30 }) (pR G ([]) [.int y1]) (vp_Si (fun r => r = bI (isStrM y1))) 0 0 (fun _ => False) := by
  refine Met.ofW (cc := cX7_isStratum) (maxL := 1) (ret := (some .boolean)) (by decide) rfl ?_
  intro p e s m args below meth c s₁ B hml hv
  obtain ⟨rfl, hK, hP⟩ := hv
  have hx := B.exec
  have hb := B.bytes
  have hr := B.returns
  have hlocks := B.notSynchronized
  have hts := atoms_spec (ws := wsX7_isStratum) B.pre
  have hown : s.vm.findClass RX7 = some m.cls := findClass_of_methodNamed B.named
  have hl := lv_entry ([.int y1]) (n := 1) (Nat.le_of_ble_eq_true rfl)
  rw [lg_entry_eq]
  generalize (lg_sl ([.int y1]) ++ List.replicate (1 - (lg_sl ([.int y1])).length) Slot.unset).toArray = ls at hl ⊢
  have hl : lv_has ls 1 [(0, .int y1)] := hl
  refine lv_iload_n hx hb dX7_isStratum_0 rfl (lv_at hl 0 rfl) ?_
  refine lv_iconst (v := nI 0) hx hb dX7_isStratum_1 (by decide) ?_
  refine lv_iconst (v := nI 3) hx hb dX7_isStratum_2 (by decide) ?_
  refine cr_i (va_runS (As := [.int y1, .int (nI 0), .int (nI 3)]) (rest := []) ⟨hx, hb, hml, hown, hts⟩ (metX7_in l G y1 (nI 0) (nI 3)) (cwS 3 hts gX7_isStratum_X7_in rfl rfl rfl (by decide +kernel) ⟨Nat.le_of_ble_eq_true rfl, Nat.le_of_ble_eq_true rfl⟩) (pR_S hK (va_P_nil _ _ _)) rfl rfl hl.1 rfl (lv_room (Nat.le_of_ble_eq_true rfl)) dX7_isStratum_3 ⟨Nat.zero_le _, Nat.zero_le _⟩) (fun r_1 hr_2 => ?_)
  subst hr_2
  exact W.zret (v := bI (inR y1 (nI 0) (nI 3))) (ty := .boolean) hx hb hr (nar_bI _) (fun t ht hW => ⟨_, rfl, rfl, ht⟩) (fun q hq => absurd hq List.not_mem_nil) dX7_isStratum_6
set_option maxHeartbeats 4000000 in
set_option maxRecDepth 100000 in
theorem metX7_areThere (l : Launch) (G : GG) (y1 y2 y3 : Int32) : Met l yX7_areThere wsX7_areThere ({ frames := 2, cells := 0, slots := 0, locals := 60 }) (pR G ([]) [.int y1, .int y2, .int y3]) (vp_Si (fun r => r = bI (smmM y1 y2 y3))) 0 0 (fun _ => False) := by
  refine Met.ofW (cc := cX7_areThere) (maxL := 3) (ret := (some .boolean)) (by decide) rfl ?_
  intro p e s m args below meth c s₁ B hml hv
  obtain ⟨rfl, hK, hP⟩ := hv
  have hx := B.exec
  have hb := B.bytes
  have hr := B.returns
  have hlocks := B.notSynchronized
  have hts := atoms_spec (ws := wsX7_areThere) B.pre
  have hown : s.vm.findClass RX7 = some m.cls := findClass_of_methodNamed B.named
  have hl := lv_entry ([.int y1, .int y2, .int y3]) (n := 3) (Nat.le_of_ble_eq_true rfl)
  rw [lg_entry_eq]
  generalize (lg_sl ([.int y1, .int y2, .int y3]) ++ List.replicate (3 - (lg_sl ([.int y1, .int y2, .int y3])).length) Slot.unset).toArray = ls at hl ⊢
  have hl : lv_has ls 3 [(0, .int y1), (1, .int y2), (2, .int y3)] := hl
  refine lv_iload_n hx hb dX7_areThere_0 rfl (lv_at hl 0 rfl) ?_
  refine cr_i (va_runS (As := [.int y1]) (rest := []) ⟨hx, hb, hml, hown, hts⟩ (metX7_isStratum l G y1) (cwS 1 hts gX7_areThere_X7_isStratum rfl rfl rfl (by decide +kernel) ⟨Nat.le_of_ble_eq_true rfl, Nat.le_of_ble_eq_true rfl⟩) (pR_S hK (va_P_nil _ _ _)) rfl rfl hl.1 rfl (lv_room (Nat.le_of_ble_eq_true rfl)) dX7_areThere_1 ⟨Nat.zero_le _, Nat.zero_le _⟩) (fun r_1 hr_2 => ?_)
  subst hr_2
  refine nb_if_eq (B := isStrM y1) (tgt := 25) hx hb dX7_areThere_4 (by decide) (fun c_3 => ?_) (fun c_3 => ?_)
  · refine lv_iconst (v := nI 0) hx hb dX7_areThere_25 (by decide) ?_
    exact W.zret (v := nI 0) (ty := .boolean) hx hb hr (by rfl) (fun t ht hW => ⟨_, rfl, ((congrArg bI (by simp [smmM, c_3] : smmM y1 y2 y3 = false)).symm), ht⟩) (fun q hq => absurd hq List.not_mem_nil) dX7_areThere_26
  · refine lv_iload_n hx hb dX7_areThere_7 rfl (lv_at hl 1 rfl) ?_
    refine cr_i (va_runS (As := [.int y2]) (rest := []) ⟨hx, hb, hml, hown, hts⟩ (metX7_isMonth l G y2) (cwS 1 hts gX7_areThere_X7_isMonth rfl rfl rfl (by decide +kernel) ⟨Nat.le_of_ble_eq_true rfl, Nat.le_of_ble_eq_true rfl⟩) (pR_S hK (va_P_nil _ _ _)) rfl rfl hl.1 rfl (lv_room (Nat.le_of_ble_eq_true rfl)) dX7_areThere_8 ⟨Nat.zero_le _, Nat.zero_le _⟩) (fun r_4 hr_5 => ?_)
    subst hr_5
    refine nb_if_eq (B := isMonM y2) (tgt := 25) hx hb dX7_areThere_11 (by decide) (fun c_6 => ?_) (fun c_6 => ?_)
    · refine lv_iconst (v := nI 0) hx hb dX7_areThere_25 (by decide) ?_
      exact W.zret (v := nI 0) (ty := .boolean) hx hb hr (by rfl) (fun t ht hW => ⟨_, rfl, ((congrArg bI (by simp [smmM, c_3, c_6] : smmM y1 y2 y3 = false)).symm), ht⟩) (fun q hq => absurd hq List.not_mem_nil) dX7_areThere_26
    · refine lv_iload_n hx hb dX7_areThere_14 rfl (lv_at hl 2 rfl) ?_
      refine cr_i (va_runS (As := [.int y3]) (rest := []) ⟨hx, hb, hml, hown, hts⟩ (metX7_isMonth l G y3) (cwS 1 hts gX7_areThere_X7_isMonth rfl rfl rfl (by decide +kernel) ⟨Nat.le_of_ble_eq_true rfl, Nat.le_of_ble_eq_true rfl⟩) (pR_S hK (va_P_nil _ _ _)) rfl rfl hl.1 rfl (lv_room (Nat.le_of_ble_eq_true rfl)) dX7_areThere_15 ⟨Nat.zero_le _, Nat.zero_le _⟩) (fun r_7 hr_8 => ?_)
      subst hr_8
      refine nb_if_eq (B := isMonM y3) (tgt := 25) hx hb dX7_areThere_18 (by decide) (fun c_9 => ?_) (fun c_9 => ?_)
      · refine lv_iconst (v := nI 0) hx hb dX7_areThere_25 (by decide) ?_
        exact W.zret (v := nI 0) (ty := .boolean) hx hb hr (by rfl) (fun t ht hW => ⟨_, rfl, ((congrArg bI (by simp [smmM, c_3, c_6, c_9] : smmM y1 y2 y3 = false)).symm), ht⟩) (fun q hq => absurd hq List.not_mem_nil) dX7_areThere_26
      · refine lv_iconst (v := nI 1) hx hb dX7_areThere_21 (by decide) ?_
        refine lv_goto (tgt := 26) hx hb dX7_areThere_22 (by decide) ?_
        exact W.zret (v := nI 1) (ty := .boolean) hx hb hr (by rfl) (fun t ht hW => ⟨_, rfl, ((congrArg bI (by simp [smmM, c_3, c_6, c_9] : smmM y1 y2 y3 = true)).symm), ht⟩) (fun q hq => absurd hq List.not_mem_nil) dX7_areThere_26
set_option maxHeartbeats 4000000 in
set_option maxRecDepth 100000 in
/-- Model.isItem -/
theorem metX7_isItem (l : Launch) (G : GG) (md : Nat → Nat) (fl : List Value) (a : Nat → Int32) (hC : mC a) (y1 : Int32) : Met l yX7_isItem wsX7_isItem ({ frames := 1, cells := 0, slots := 0, locals := 30 }) (pR G (scells G md fl a) [.ref (md 0), .int y1]) (vp_Si (fun r => r = bI (isItM a y1))) 0 0 (fun _ => False) := by
  refine Met.ofW (cc := cX7_isItem) (maxL := 2) (ret := (some .boolean)) (by decide) rfl ?_
  intro p e s m args below meth c s₁ B hml hv
  obtain ⟨rfl, hK, hP⟩ := hv
  have hx := B.exec
  have hb := B.bytes
  have hr := B.returns
  have hlocks := B.notSynchronized
  have hts := atoms_spec (ws := wsX7_isItem) B.pre
  have hown : s.vm.findClass RX7 = some m.cls := findClass_of_methodNamed B.named
  have hl := lv_entry ([.ref (md 0), .int y1]) (n := 2) (Nat.le_of_ble_eq_true rfl)
  rw [lg_entry_eq]
  generalize (lg_sl ([.ref (md 0), .int y1]) ++ List.replicate (2 - (lg_sl ([.ref (md 0), .int y1])).length) Slot.unset).toArray = ls at hl ⊢
  have hl : lv_has ls 2 [(0, .ref (md 0)), (1, .int y1)] := hl
  refine lv_iload_n hx hb dX7_isItem_0 rfl (lv_at hl 1 rfl) ?_
  refine lv_iconst (v := nI 0) hx hb dX7_isItem_1 (by decide) ?_
  refine lv_aload_n hx hb dX7_isItem_2 rfl (lv_at hl 0 rfl) ?_
  refine va_get (D := G.1) (ci := 6) (v := .ref (md 1)) (C := RX7) (T := TX7) (N := 15) hx hb hts (by decide +kernel) hown hK.1 hP 0 rfl rfl 0 (by decide) (hts (.fieldLink RX7 7 "PriceIndexCalculatorModel" "s" "[I") (by decide +kernel)) (fun _ h9 => h9) rfl dX7_isItem_3 ?_
  refine lv_iconst (v := nI 5) hx hb dX7_isItem_6 (by decide) ?_
  refine n_iald hx hb hK.1 hP 1 0 rfl rfl (j := 5) (by omega) (by omega) dX7_isItem_7 ?_
  refine eq_i (y := nI (mN a)) (hC.1) ?_
  refine lv_iconst (v := nI 1) hx hb dX7_isItem_8 (by decide) ?_
  refine lv_isub hx hb dX7_isItem_9 ?_
  refine cr_i (va_runS (As := [.int y1, .int (nI 0), .int ((nI (mN a)) - (nI 1))]) (rest := []) ⟨hx, hb, hml, hown, hts⟩ (metX7_in l G y1 (nI 0) ((nI (mN a)) - (nI 1))) (cwS 3 hts gX7_isItem_X7_in rfl rfl rfl (by decide +kernel) ⟨Nat.le_of_ble_eq_true rfl, Nat.le_of_ble_eq_true rfl⟩) (pR_S hK (va_P_nil _ _ _)) rfl rfl hl.1 rfl (lv_room (Nat.le_of_ble_eq_true rfl)) dX7_isItem_10 ⟨Nat.zero_le _, Nat.zero_le _⟩) (fun r_1 hr_2 => ?_)
  subst hr_2
  exact W.zret (v := bI (inR y1 (nI 0) ((nI (mN a)) - (nI 1)))) (ty := .boolean) hx hb hr (nar_bI _) (fun t ht hW => ⟨_, rfl, rfl, ht⟩) (fun q hq => absurd hq List.not_mem_nil) dX7_isItem_13
set_option maxHeartbeats 4000000 in
set_option maxRecDepth 100000 in
/-- Model.itemCount -/
theorem metX7_itemCount (l : Launch) (G : GG) (md : Nat → Nat) (fl : List Value) (a : Nat → Int32) (hC : mC a)  : Met l yX7_itemCount wsX7_itemCount ({ frames := 0, cells := 0, slots := 0, locals := 0 }) (pR G (scells G md fl a) [.ref (md 0)]) (vp_Si (fun r => r = nI (mN a))) 0 0 (fun _ => False) := by
  refine Met.ofW (cc := cX7_itemCount) (maxL := 1) (ret := (some .int)) (by decide) rfl ?_
  intro p e s m args below meth c s₁ B hml hv
  obtain ⟨rfl, hK, hP⟩ := hv
  have hx := B.exec
  have hb := B.bytes
  have hr := B.returns
  have hlocks := B.notSynchronized
  have hts := atoms_spec (ws := wsX7_itemCount) B.pre
  have hown : s.vm.findClass RX7 = some m.cls := findClass_of_methodNamed B.named
  have hl := lv_entry ([.ref (md 0)]) (n := 1) (Nat.le_of_ble_eq_true rfl)
  rw [lg_entry_eq]
  generalize (lg_sl ([.ref (md 0)]) ++ List.replicate (1 - (lg_sl ([.ref (md 0)])).length) Slot.unset).toArray = ls at hl ⊢
  have hl : lv_has ls 1 [(0, .ref (md 0))] := hl
  refine lv_aload_n hx hb dX7_itemCount_0 rfl (lv_at hl 0 rfl) ?_
  refine va_get (D := G.1) (ci := 6) (v := .ref (md 1)) (C := RX7) (T := TX7) (N := 15) hx hb hts (by decide +kernel) hown hK.1 hP 0 rfl rfl 0 (by decide) (hts (.fieldLink RX7 7 "PriceIndexCalculatorModel" "s" "[I") (by decide +kernel)) (fun _ h9 => h9) rfl dX7_itemCount_1 ?_
  refine lv_iconst (v := nI 5) hx hb dX7_itemCount_4 (by decide) ?_
  refine n_iald hx hb hK.1 hP 1 0 rfl rfl (j := 5) (by omega) (by omega) dX7_itemCount_5 ?_
  refine eq_i (y := nI (mN a)) (hC.1) ?_
  exact W.iret (v := nI (mN a)) hx hb hr (fun t ht hW => ⟨_, rfl, rfl, ht⟩) (fun q hq => absurd hq List.not_mem_nil) dX7_itemCount_6
set_option maxHeartbeats 4000000 in
set_option maxRecDepth 100000 in
/-- Model.oldOf -/
theorem metX7_oldOf (l : Launch) (G : GG) (md : Nat → Nat) (fl : List Value) (a : Nat → Int32) (hC : mC a) (k : Nat) (hk : k < 2 ^ 31) : Met l yX7_oldOf wsX7_oldOf ({ frames := 0, cells := 0, slots := 0, locals := 0 }) (pR G (scells G md fl a) [.ref (md 0), .int (nI k)]) (vp_Si (fun r => r = olI a (nI k))) 0 0 (fun _ => False) := by
  refine Met.ofW (cc := cX7_oldOf) (maxL := 3) (ret := (some .int)) (by decide) rfl ?_
  intro p e s m args below meth c s₁ B hml hv
  obtain ⟨rfl, hK, hP⟩ := hv
  have hx := B.exec
  have hb := B.bytes
  have hr := B.returns
  have hlocks := B.notSynchronized
  have hts := atoms_spec (ws := wsX7_oldOf) B.pre
  have hown : s.vm.findClass RX7 = some m.cls := findClass_of_methodNamed B.named
  have hl := lv_entry ([.ref (md 0), .int (nI k)]) (n := 3) (Nat.le_of_ble_eq_true rfl)
  rw [lg_entry_eq]
  generalize (lg_sl ([.ref (md 0), .int (nI k)]) ++ List.replicate (3 - (lg_sl ([.ref (md 0), .int (nI k)])).length) Slot.unset).toArray = ls at hl ⊢
  have hl : lv_has ls 3 [(0, .ref (md 0)), (1, .int (nI k))] := hl
  have hit := hC.2
  refine lv_iconst (v := nI 0) hx hb dX7_oldOf_0 (by decide) ?_
  refine lv_istore_n (lv' := [(2, .int (nI 0)), (0, .ref (md 0)), (1, .int (nI k))]) hx hb dX7_oldOf_1 rfl hl (by decide) rfl (fun ls hl => ?_)
  refine lpR (S := Unit) (mN a) (fun i u => olN a (nI k) (i) = none) (fun i u => [(0, .ref (md 0)), (1, .int (nI k)), (2, .int (nI i))]) (fun u ls hI_2 hl => ?_) (fun i u ls hi_3 hI_2 hl ih_1 => ?_) (0) () (by omega) (rfl) (lv_sub hl [1, 2, 0] rfl)
  · have hl : lv_has ls 3 [(0, .ref (md 0)), (1, .int (nI k)), (2, .int (nI (mN a)))] := hl
    refine lv_iload_n hx hb dX7_oldOf_2 rfl (lv_at hl 2 rfl) ?_
    refine lv_aload_n hx hb dX7_oldOf_3 rfl (lv_at hl 0 rfl) ?_
    refine va_get (D := G.1) (ci := 6) (v := .ref (md 1)) (C := RX7) (T := TX7) (N := 15) hx hb hts (by decide +kernel) hown hK.1 hP 0 rfl rfl 0 (by decide) (hts (.fieldLink RX7 7 "PriceIndexCalculatorModel" "s" "[I") (by decide +kernel)) (fun _ h9 => h9) rfl dX7_oldOf_4 ?_
    refine lv_iconst (v := nI 5) hx hb dX7_oldOf_7 (by decide) ?_
    refine n_iald hx hb hK.1 hP 1 0 rfl rfl (j := 5) (by omega) (by omega) dX7_oldOf_8 ?_
    refine eq_i (y := nI (mN a)) (hC.1) ?_
    refine n_icmp_ge (x := mN a) (y := mN a) (tgt := 33) hx hb (by omega) (by omega) dX7_oldOf_9 (by decide) (fun c_4 => ?_) (fun c_4 => ?_)
    · refine lv_bipush (v := (-9)) hx hb dX7_oldOf_33 (by decide) ?_
      exact W.iret (v := (-9)) hx hb hr (fun t ht hW => ⟨_, rfl, (olI_none hI_2), ht⟩) (fun q hq => absurd hq List.not_mem_nil) dX7_oldOf_35
    · exact absurd c_4 (by omega)
  · have hl : lv_has ls 3 [(0, .ref (md 0)), (1, .int (nI k)), (2, .int (nI i))] := hl
    refine lv_iload_n hx hb dX7_oldOf_2 rfl (lv_at hl 2 rfl) ?_
    refine lv_aload_n hx hb dX7_oldOf_3 rfl (lv_at hl 0 rfl) ?_
    refine va_get (D := G.1) (ci := 6) (v := .ref (md 1)) (C := RX7) (T := TX7) (N := 15) hx hb hts (by decide +kernel) hown hK.1 hP 0 rfl rfl 0 (by decide) (hts (.fieldLink RX7 7 "PriceIndexCalculatorModel" "s" "[I") (by decide +kernel)) (fun _ h9 => h9) rfl dX7_oldOf_4 ?_
    refine lv_iconst (v := nI 5) hx hb dX7_oldOf_7 (by decide) ?_
    refine n_iald hx hb hK.1 hP 1 0 rfl rfl (j := 5) (by omega) (by omega) dX7_oldOf_8 ?_
    refine eq_i (y := nI (mN a)) (hC.1) ?_
    refine n_icmp_ge (x := i) (y := mN a) (tgt := 33) hx hb (by omega) (by omega) dX7_oldOf_9 (by decide) (fun c_5 => ?_) (fun c_5 => ?_)
    · exact absurd c_5 (by omega)
    · refine lv_aload_n hx hb dX7_oldOf_12 rfl (lv_at hl 0 rfl) ?_
      refine va_get (D := G.1) (ci := 6) (v := .ref (md 1)) (C := RX7) (T := TX7) (N := 15) hx hb hts (by decide +kernel) hown hK.1 hP 0 rfl rfl 0 (by decide) (hts (.fieldLink RX7 7 "PriceIndexCalculatorModel" "s" "[I") (by decide +kernel)) (fun _ h9 => h9) rfl dX7_oldOf_13 ?_
      refine lv_bipush (v := nI 42) hx hb dX7_oldOf_16 (by decide) ?_
      refine lv_iload_n hx hb dX7_oldOf_18 rfl (lv_at hl 2 rfl) ?_
      refine n_add hx hb dX7_oldOf_19 ?_
      refine n_iald hx hb hK.1 hP 1 0 rfl rfl (j := 42 + i) (by omega) (by omega) dX7_oldOf_20 ?_
      refine lv_iload_n hx hb dX7_oldOf_21 rfl (lv_at hl 1 rfl) ?_
      refine lv_icmp_ne (tgt := 27) hx hb dX7_oldOf_22 (by decide) (fun c_6 => ?_) (fun c_6 => ?_)
      · refine lv_iinc (v := nI (i + 1)) (lv' := [(2, .int (nI (i + 1))), (0, .ref (md 0)), (1, .int (nI k))]) hx hb dX7_oldOf_27 hl (k := 2) rfl (by exact nI_add _ _) (by decide) rfl (fun ls hl => ?_)
        refine lv_goto (tgt := 2) hx hb dX7_oldOf_30 (by decide) ?_
        exact ih_1 () _ (by rw [olN, hI_2]; simp [c_6]) (lv_sub hl [1, 2, 0] rfl)
      · refine lv_iload_n hx hb dX7_oldOf_25 rfl (lv_at hl 2 rfl) ?_
        exact W.iret (v := nI i) hx hb hr (fun t ht hW => ⟨_, rfl, (olI_found hI_2 (by omega) c_6), ht⟩) (fun q hq => absurd hq List.not_mem_nil) dX7_oldOf_26
set_option maxHeartbeats 4000000 in
set_option maxRecDepth 100000 in
/-- Model.takesPart -/
theorem metX7_takesPart (l : Launch) (G : GG) (md : Nat → Nat) (fl : List Value) (a : Nat → Int32) (hC : mC a) (k : Nat) (hk : k < 12) : Met l yX7_takesPart wsX7_takesPart ({ frames := 1, cells := 0, slots := 0, locals := 30 }) (pR G (scells G md fl a) [.ref (md 0), .int (nI k)]) (vp_Si (fun r => r = bI (tkP a k))) 0 0 (fun _ => False) := by
  refine Met.ofW (cc := cX7_takesPart) (maxL := 2) (ret := (some .boolean)) (by decide) rfl ?_
  intro p e s m args below meth c s₁ B hml hv
  obtain ⟨rfl, hK, hP⟩ := hv
  have hx := B.exec
  have hb := B.bytes
  have hr := B.returns
  have hlocks := B.notSynchronized
  have hts := atoms_spec (ws := wsX7_takesPart) B.pre
  have hown : s.vm.findClass RX7 = some m.cls := findClass_of_methodNamed B.named
  have hl := lv_entry ([.ref (md 0), .int (nI k)]) (n := 2) (Nat.le_of_ble_eq_true rfl)
  rw [lg_entry_eq]
  generalize (lg_sl ([.ref (md 0), .int (nI k)]) ++ List.replicate (2 - (lg_sl ([.ref (md 0), .int (nI k)])).length) Slot.unset).toArray = ls at hl ⊢
  have hl : lv_has ls 2 [(0, .ref (md 0)), (1, .int (nI k))] := hl
  refine lv_aload_n hx hb dX7_takesPart_0 rfl (lv_at hl 0 rfl) ?_
  refine va_get (D := G.1) (ci := 6) (v := .ref (md 1)) (C := RX7) (T := TX7) (N := 15) hx hb hts (by decide +kernel) hown hK.1 hP 0 rfl rfl 0 (by decide) (hts (.fieldLink RX7 7 "PriceIndexCalculatorModel" "s" "[I") (by decide +kernel)) (fun _ h9 => h9) rfl dX7_takesPart_1 ?_
  refine lv_bipush (v := nI 42) hx hb dX7_takesPart_4 (by decide) ?_
  refine lv_iload_n hx hb dX7_takesPart_6 rfl (lv_at hl 1 rfl) ?_
  refine n_add hx hb dX7_takesPart_7 ?_
  refine n_iald hx hb hK.1 hP 1 0 rfl rfl (j := 42 + k) (by omega) (by omega) dX7_takesPart_8 ?_
  refine lv_bipush (v := (-9)) hx hb dX7_takesPart_9 (by decide) ?_
  refine lv_icmp_ne (tgt := 24) hx hb dX7_takesPart_11 (by decide) (fun c_1 => ?_) (fun c_1 => ?_)
  · refine lv_iconst (v := nI 1) hx hb dX7_takesPart_24 (by decide) ?_
    refine lv_goto (tgt := 29) hx hb dX7_takesPart_25 (by decide) ?_
    exact W.zret (v := nI 1) (ty := .boolean) hx hb hr (by rfl) (fun t ht hW => ⟨_, rfl, ((congrArg bI (by simp [tkP, c_1] : tkP a k = true)).symm), ht⟩) (fun q hq => absurd hq List.not_mem_nil) dX7_takesPart_29
  · refine lv_aload_n hx hb dX7_takesPart_14 rfl (lv_at hl 0 rfl) ?_
    refine lv_iload_n hx hb dX7_takesPart_15 rfl (lv_at hl 1 rfl) ?_
    refine cr_i (va_runV (As := [.int (nI k)]) (rest := []) ⟨hx, hb, hml, hown, hts⟩ (metX7_oldOf l G md fl a hC k (by omega)) (cwV 1 hts gX7_takesPart_X7_oldOf rfl rfl rfl (by decide +kernel) ⟨Nat.le_of_ble_eq_true rfl, Nat.le_of_ble_eq_true rfl⟩) (pR_V (q0 := 0) hK (hP.sub (ws' := scells G md fl a) [0, 1] rfl) rfl rfl) rfl rfl hl.1 rfl (lv_room (Nat.le_of_ble_eq_true rfl)) dX7_takesPart_16 ⟨Nat.zero_le _, Nat.zero_le _⟩) (fun r_2 hr_3 => ?_)
    subst hr_3
    refine lv_bipush (v := (-9)) hx hb dX7_takesPart_19 (by decide) ?_
    refine lv_icmp_eq (tgt := 28) hx hb dX7_takesPart_21 (by decide) (fun c_4 => ?_) (fun c_4 => ?_)
    · refine lv_iconst (v := nI 0) hx hb dX7_takesPart_28 (by decide) ?_
      exact W.zret (v := nI 0) (ty := .boolean) hx hb hr (by rfl) (fun t ht hW => ⟨_, rfl, ((congrArg bI (by simp [tkP, c_1, c_4] : tkP a k = false)).symm), ht⟩) (fun q hq => absurd hq List.not_mem_nil) dX7_takesPart_29
    · refine lv_iconst (v := nI 1) hx hb dX7_takesPart_24 (by decide) ?_
      refine lv_goto (tgt := 29) hx hb dX7_takesPart_25 (by decide) ?_
      exact W.zret (v := nI 1) (ty := .boolean) hx hb hr (by rfl) (fun t ht hW => ⟨_, rfl, ((congrArg bI (by simp [tkP, c_1, c_4] : tkP a k = true)).symm), ht⟩) (fun q hq => absurd hq List.not_mem_nil) dX7_takesPart_29
set_option maxHeartbeats 4000000 in
set_option maxRecDepth 100000 in
/-- Model.replacements -/
theorem metX7_replacements (l : Launch) (G : GG) (md : Nat → Nat) (fl : List Value) (a : Nat → Int32) (hC : mC a)  : Met l yX7_replacements wsX7_replacements ({ frames := 0, cells := 0, slots := 0, locals := 0 }) (pR G (scells G md fl a) [.ref (md 0)]) (vp_Si (fun r => r = nI (rplN a))) 0 0 (fun _ => False) := by
  refine Met.ofW (cc := cX7_replacements) (maxL := 3) (ret := (some .int)) (by decide) rfl ?_
  intro p e s m args below meth c s₁ B hml hv
  obtain ⟨rfl, hK, hP⟩ := hv
  have hx := B.exec
  have hb := B.bytes
  have hr := B.returns
  have hlocks := B.notSynchronized
  have hts := atoms_spec (ws := wsX7_replacements) B.pre
  have hown : s.vm.findClass RX7 = some m.cls := findClass_of_methodNamed B.named
  have hl := lv_entry ([.ref (md 0)]) (n := 3) (Nat.le_of_ble_eq_true rfl)
  rw [lg_entry_eq]
  generalize (lg_sl ([.ref (md 0)]) ++ List.replicate (3 - (lg_sl ([.ref (md 0)])).length) Slot.unset).toArray = ls at hl ⊢
  have hl : lv_has ls 3 [(0, .ref (md 0))] := hl
  have hit := hC.2
  refine lv_iconst (v := nI 0) hx hb dX7_replacements_0 (by decide) ?_
  refine lv_istore_n (lv' := [(1, .int (nI 0)), (0, .ref (md 0))]) hx hb dX7_replacements_1 rfl hl (by decide) rfl (fun ls hl => ?_)
  refine lv_iconst (v := nI 0) hx hb dX7_replacements_2 (by decide) ?_
  refine lv_istore_n (lv' := [(2, .int (nI 0)), (1, .int (nI 0)), (0, .ref (md 0))]) hx hb dX7_replacements_3 rfl hl (by decide) rfl (fun ls hl => ?_)
  refine lpR (S := Nat) (mN a) (fun i u => u = cntP (fun j => !decide (a (42 + j) = -9)) (i)) (fun i u => [(0, .ref (md 0)), (1, .int (nI u)), (2, .int (nI i))]) (fun u ls hI_2 hl => ?_) (fun i u ls hi_3 hI_2 hl ih_1 => ?_) (0) 0 (by omega) (rfl) (lv_sub hl [2, 1, 0] rfl)
  · obtain ⟨c9, rfl⟩ : ∃ z, z = u := ⟨_, rfl⟩
    have hl : lv_has ls 3 [(0, .ref (md 0)), (1, .int (nI c9)), (2, .int (nI (mN a)))] := hl
    refine lv_iload_n hx hb dX7_replacements_4 rfl (lv_at hl 2 rfl) ?_
    refine lv_aload_n hx hb dX7_replacements_5 rfl (lv_at hl 0 rfl) ?_
    refine va_get (D := G.1) (ci := 6) (v := .ref (md 1)) (C := RX7) (T := TX7) (N := 15) hx hb hts (by decide +kernel) hown hK.1 hP 0 rfl rfl 0 (by decide) (hts (.fieldLink RX7 7 "PriceIndexCalculatorModel" "s" "[I") (by decide +kernel)) (fun _ h9 => h9) rfl dX7_replacements_6 ?_
    refine lv_iconst (v := nI 5) hx hb dX7_replacements_9 (by decide) ?_
    refine n_iald hx hb hK.1 hP 1 0 rfl rfl (j := 5) (by omega) (by omega) dX7_replacements_10 ?_
    refine eq_i (y := nI (mN a)) (hC.1) ?_
    refine n_icmp_ge (x := mN a) (y := mN a) (tgt := 42) hx hb (by omega) (by omega) dX7_replacements_11 (by decide) (fun c_4 => ?_) (fun c_4 => ?_)
    · refine lv_iload_n hx hb dX7_replacements_42 rfl (lv_at hl 1 rfl) ?_
      exact W.iret (v := nI c9) hx hb hr (fun t ht hW => ⟨_, rfl, (congrArg nI hI_2), ht⟩) (fun q hq => absurd hq List.not_mem_nil) dX7_replacements_43
    · exact absurd c_4 (by omega)
  · obtain ⟨c9, rfl⟩ : ∃ z, z = u := ⟨_, rfl⟩
    have hl : lv_has ls 3 [(0, .ref (md 0)), (1, .int (nI c9)), (2, .int (nI i))] := hl
    refine lv_iload_n hx hb dX7_replacements_4 rfl (lv_at hl 2 rfl) ?_
    refine lv_aload_n hx hb dX7_replacements_5 rfl (lv_at hl 0 rfl) ?_
    refine va_get (D := G.1) (ci := 6) (v := .ref (md 1)) (C := RX7) (T := TX7) (N := 15) hx hb hts (by decide +kernel) hown hK.1 hP 0 rfl rfl 0 (by decide) (hts (.fieldLink RX7 7 "PriceIndexCalculatorModel" "s" "[I") (by decide +kernel)) (fun _ h9 => h9) rfl dX7_replacements_6 ?_
    refine lv_iconst (v := nI 5) hx hb dX7_replacements_9 (by decide) ?_
    refine n_iald hx hb hK.1 hP 1 0 rfl rfl (j := 5) (by omega) (by omega) dX7_replacements_10 ?_
    refine eq_i (y := nI (mN a)) (hC.1) ?_
    refine n_icmp_ge (x := i) (y := mN a) (tgt := 42) hx hb (by omega) (by omega) dX7_replacements_11 (by decide) (fun c_5 => ?_) (fun c_5 => ?_)
    · exact absurd c_5 (by omega)
    · refine lv_iload_n hx hb dX7_replacements_14 rfl (lv_at hl 1 rfl) ?_
      refine lv_aload_n hx hb dX7_replacements_15 rfl (lv_at hl 0 rfl) ?_
      refine va_get (D := G.1) (ci := 6) (v := .ref (md 1)) (C := RX7) (T := TX7) (N := 15) hx hb hts (by decide +kernel) hown hK.1 hP 0 rfl rfl 0 (by decide) (hts (.fieldLink RX7 7 "PriceIndexCalculatorModel" "s" "[I") (by decide +kernel)) (fun _ h9 => h9) rfl dX7_replacements_16 ?_
      refine lv_bipush (v := nI 42) hx hb dX7_replacements_19 (by decide) ?_
      refine lv_iload_n hx hb dX7_replacements_21 rfl (lv_at hl 2 rfl) ?_
      refine n_add hx hb dX7_replacements_22 ?_
      refine n_iald hx hb hK.1 hP 1 0 rfl rfl (j := 42 + i) (by omega) (by omega) dX7_replacements_23 ?_
      refine lv_bipush (v := (-9)) hx hb dX7_replacements_24 (by decide) ?_
      refine lv_icmp_ne (tgt := 33) hx hb dX7_replacements_26 (by decide) (fun c_6 => ?_) (fun c_6 => ?_)
      · refine lv_iconst (v := nI 1) hx hb dX7_replacements_33 (by decide) ?_
        refine n_add hx hb dX7_replacements_34 ?_
        refine lv_istore_n (lv' := [(1, .int (nI (c9 + 1))), (0, .ref (md 0)), (2, .int (nI i))]) hx hb dX7_replacements_35 rfl hl (by decide) rfl (fun ls hl => ?_)
        refine lv_iinc (v := nI (i + 1)) (lv' := [(2, .int (nI (i + 1))), (1, .int (nI (c9 + 1))), (0, .ref (md 0))]) hx hb dX7_replacements_36 hl (k := 2) rfl (by exact nI_add _ _) (by decide) rfl (fun ls hl => ?_)
        refine lv_goto (tgt := 4) hx hb dX7_replacements_39 (by decide) ?_
        exact ih_1 (c9 + 1) _ (by rw [hI_2]; simp [cntP, c_6]) (lv_sub hl [2, 1, 0] rfl)
      · refine lv_iconst (v := nI 0) hx hb dX7_replacements_29 (by decide) ?_
        refine lv_goto (tgt := 34) hx hb dX7_replacements_30 (by decide) ?_
        refine n_add hx hb dX7_replacements_34 ?_
        refine lv_istore_n (lv' := [(1, .int (nI (c9 + 0))), (0, .ref (md 0)), (2, .int (nI i))]) hx hb dX7_replacements_35 rfl hl (by decide) rfl (fun ls hl => ?_)
        refine lv_iinc (v := nI (i + 1)) (lv' := [(2, .int (nI (i + 1))), (1, .int (nI (c9 + 0))), (0, .ref (md 0))]) hx hb dX7_replacements_36 hl (k := 2) rfl (by exact nI_add _ _) (by decide) rfl (fun ls hl => ?_)
        refine lv_goto (tgt := 4) hx hb dX7_replacements_39 (by decide) ?_
        exact ih_1 (c9 + 0) _ (by rw [hI_2]; simp [cntP, c_6]) (lv_sub hl [2, 1, 0] rfl)
set_option maxHeartbeats 4000000 in
set_option maxRecDepth 100000 in
/-- Model.isObserved -/
theorem metX7_isObserved (l : Launch) (G : GG) (md : Nat → Nat) (fl : List Value) (a : Nat → Int32) (k mo : Nat) (hk : k < 12) (hm : mo < 24) : Met l yX7_isObserved wsX7_isObserved ({ frames := 0, cells := 0, slots := 0, locals := 0 }) (pR G (scells G md fl a) [.ref (md 0), .int (nI k), .int (nI mo)]) (vp_Si (fun r => r = bI (obM a k mo))) 0 0 (fun _ => False) := by
  refine Met.ofW (cc := cX7_isObserved) (maxL := 3) (ret := (some .boolean)) (by decide) rfl ?_
  intro p e s m args below meth c s₁ B hml hv
  obtain ⟨rfl, hK, hP⟩ := hv
  have hx := B.exec
  have hb := B.bytes
  have hr := B.returns
  have hlocks := B.notSynchronized
  have hts := atoms_spec (ws := wsX7_isObserved) B.pre
  have hown : s.vm.findClass RX7 = some m.cls := findClass_of_methodNamed B.named
  have hl := lv_entry ([.ref (md 0), .int (nI k), .int (nI mo)]) (n := 3) (Nat.le_of_ble_eq_true rfl)
  rw [lg_entry_eq]
  generalize (lg_sl ([.ref (md 0), .int (nI k), .int (nI mo)]) ++ List.replicate (3 - (lg_sl ([.ref (md 0), .int (nI k), .int (nI mo)])).length) Slot.unset).toArray = ls at hl ⊢
  have hl : lv_has ls 3 [(0, .ref (md 0)), (1, .int (nI k)), (2, .int (nI mo))] := hl
  refine lv_aload_n hx hb dX7_isObserved_0 rfl (lv_at hl 0 rfl) ?_
  refine va_get (D := G.1) (ci := 6) (v := .ref (md 1)) (C := RX7) (T := TX7) (N := 15) hx hb hts (by decide +kernel) hown hK.1 hP 0 rfl rfl 0 (by decide) (hts (.fieldLink RX7 7 "PriceIndexCalculatorModel" "s" "[I") (by decide +kernel)) (fun _ h9 => h9) rfl dX7_isObserved_1 ?_
  refine lv_bipush (v := nI 66) hx hb dX7_isObserved_4 (by decide) ?_
  refine lv_bipush (v := nI 24) hx hb dX7_isObserved_6 (by decide) ?_
  refine lv_iload_n hx hb dX7_isObserved_8 rfl (lv_at hl 1 rfl) ?_
  refine n_mul hx hb dX7_isObserved_9 ?_
  refine n_add hx hb dX7_isObserved_10 ?_
  refine lv_iload_n hx hb dX7_isObserved_11 rfl (lv_at hl 2 rfl) ?_
  refine n_add hx hb dX7_isObserved_12 ?_
  refine n_iald hx hb hK.1 hP 1 0 rfl rfl (j := (66 + (24 * k)) + mo) (by omega) (by omega) dX7_isObserved_13 ?_
  refine lv_if_le (tgt := 41) hx hb dX7_isObserved_14 (by decide) (fun c_1 => ?_) (fun c_1 => ?_)
  · refine lv_iconst (v := nI 0) hx hb dX7_isObserved_41 (by decide) ?_
    exact W.zret (v := nI 0) (ty := .boolean) hx hb hr (by rfl) (fun t ht hW => ⟨_, rfl, ((congrArg bI (by simp [obM, c_1] : obM a k mo = false)).symm), ht⟩) (fun q hq => absurd hq List.not_mem_nil) dX7_isObserved_42
  · refine lv_aload_n hx hb dX7_isObserved_17 rfl (lv_at hl 0 rfl) ?_
    refine va_get (D := G.1) (ci := 6) (v := .ref (md 1)) (C := RX7) (T := TX7) (N := 15) hx hb hts (by decide +kernel) hown hK.1 hP 0 rfl rfl 0 (by decide) (hts (.fieldLink RX7 7 "PriceIndexCalculatorModel" "s" "[I") (by decide +kernel)) (fun _ h9 => h9) rfl dX7_isObserved_18 ?_
    refine lv_bipush (v := nI 30) hx hb dX7_isObserved_21 (by decide) ?_
    refine lv_iload_n hx hb dX7_isObserved_23 rfl (lv_at hl 1 rfl) ?_
    refine n_add hx hb dX7_isObserved_24 ?_
    refine n_iald hx hb hK.1 hP 1 0 rfl rfl (j := 30 + k) (by omega) (by omega) dX7_isObserved_25 ?_
    refine lv_iload_n hx hb dX7_isObserved_26 rfl (lv_at hl 2 rfl) ?_
    refine lv_bipush (v := nI 12) hx hb dX7_isObserved_27 (by decide) ?_
    refine lv_irem hx hb dX7_isObserved_29 (by decide) ?_
    refine eq_i (pk_rem (a := mo) (d := 12) (by omega) (by omega) (by omega)) ?_
    refine lv_ishr hx hb dX7_isObserved_30 ?_
    refine lv_iconst (v := nI 1) hx hb dX7_isObserved_31 (by decide) ?_
    refine lv_iand hx hb dX7_isObserved_32 ?_
    refine lv_iconst (v := nI 1) hx hb dX7_isObserved_33 (by decide) ?_
    refine lv_icmp_ne (tgt := 41) hx hb dX7_isObserved_34 (by decide) (fun c_2 => ?_) (fun c_2 => ?_)
    · refine lv_iconst (v := nI 0) hx hb dX7_isObserved_41 (by decide) ?_
      exact W.zret (v := nI 0) (ty := .boolean) hx hb hr (by rfl) (fun t ht hW => ⟨_, rfl, ((congrArg bI (by simp [obM, c_1, c_2] : obM a k mo = false)).symm), ht⟩) (fun q hq => absurd hq List.not_mem_nil) dX7_isObserved_42
    · refine lv_iconst (v := nI 1) hx hb dX7_isObserved_37 (by decide) ?_
      refine lv_goto (tgt := 42) hx hb dX7_isObserved_38 (by decide) ?_
      exact W.zret (v := nI 1) (ty := .boolean) hx hb hr (by rfl) (fun t ht hW => ⟨_, rfl, ((congrArg bI (by simp [obM, c_1, c_2] : obM a k mo = true)).symm), ht⟩) (fun q hq => absurd hq List.not_mem_nil) dX7_isObserved_42
set_option maxHeartbeats 4000000 in
set_option maxRecDepth 100000 in
/-- Model.isEffective -/
theorem metX7_isEffective (l : Launch) (G : GG) (md : Nat → Nat) (fl : List Value) (a : Nat → Int32) (hA : mWF a) (k mo : Nat) (hk : k < 12) (hm : mo < 24) : Met l yX7_isEffective wsX7_isEffective ({ frames := 2, cells := 0, slots := 0, locals := 60 }) (pR G (scells G md fl a) [.ref (md 0), .int (nI k), .int (nI mo)]) (vp_Si (fun r => r = bI (efM a k mo))) 0 0 (fun _ => False) := by
  refine Met.ofW (cc := cX7_isEffective) (maxL := 4) (ret := (some .boolean)) (by decide) rfl ?_
  intro p e s m args below meth c s₁ B hml hv
  obtain ⟨rfl, hK, hP⟩ := hv
  have hx := B.exec
  have hb := B.bytes
  have hr := B.returns
  have hlocks := B.notSynchronized
  have hts := atoms_spec (ws := wsX7_isEffective) B.pre
  have hown : s.vm.findClass RX7 = some m.cls := findClass_of_methodNamed B.named
  have hl := lv_entry ([.ref (md 0), .int (nI k), .int (nI mo)]) (n := 4) (Nat.le_of_ble_eq_true rfl)
  rw [lg_entry_eq]
  generalize (lg_sl ([.ref (md 0), .int (nI k), .int (nI mo)]) ++ List.replicate (4 - (lg_sl ([.ref (md 0), .int (nI k), .int (nI mo)])).length) Slot.unset).toArray = ls at hl ⊢
  have hl : lv_has ls 4 [(0, .ref (md 0)), (1, .int (nI k)), (2, .int (nI mo))] := hl
  refine lv_aload_n hx hb dX7_isEffective_0 rfl (lv_at hl 0 rfl) ?_
  refine lv_iload_n hx hb dX7_isEffective_1 rfl (lv_at hl 1 rfl) ?_
  refine cr_i (va_runV (As := [.int (nI k)]) (rest := []) ⟨hx, hb, hml, hown, hts⟩ (metX7_oldOf l G md fl a hA.1 k (by omega)) (cwV 1 hts gX7_isEffective_X7_oldOf rfl rfl rfl (by decide +kernel) ⟨Nat.le_of_ble_eq_true rfl, Nat.le_of_ble_eq_true rfl⟩) (pR_V (q0 := 0) hK (hP.sub (ws' := scells G md fl a) [0, 1] rfl) rfl rfl) rfl rfl hl.1 rfl (lv_room (Nat.le_of_ble_eq_true rfl)) dX7_isEffective_2 ⟨Nat.zero_le _, Nat.zero_le _⟩) (fun r_1 hr_2 => ?_)
  subst hr_2
  refine lv_bipush (v := (-9)) hx hb dX7_isEffective_5 (by decide) ?_
  refine lv_icmp_eq (tgt := 12) hx hb dX7_isEffective_7 (by decide) (fun c_3 => ?_) (fun c_3 => ?_)
  · refine lv_aload_n hx hb dX7_isEffective_12 rfl (lv_at hl 0 rfl) ?_
    refine va_get (D := G.1) (ci := 6) (v := .ref (md 1)) (C := RX7) (T := TX7) (N := 15) hx hb hts (by decide +kernel) hown hK.1 hP 0 rfl rfl 0 (by decide) (hts (.fieldLink RX7 7 "PriceIndexCalculatorModel" "s" "[I") (by decide +kernel)) (fun _ h9 => h9) rfl dX7_isEffective_13 ?_
    refine lv_bipush (v := nI 42) hx hb dX7_isEffective_16 (by decide) ?_
    refine lv_iload_n hx hb dX7_isEffective_18 rfl (lv_at hl 1 rfl) ?_
    refine n_add hx hb dX7_isEffective_19 ?_
    refine n_iald hx hb hK.1 hP 1 0 rfl rfl (j := 42 + k) (by omega) (by omega) dX7_isEffective_20 ?_
    refine lv_istore_n (lv' := [(3, .int (a (42 + k))), (0, .ref (md 0)), (1, .int (nI k)), (2, .int (nI mo))]) hx hb dX7_isEffective_21 rfl hl (by decide) rfl (fun ls hl => ?_)
    refine lv_iload_n hx hb dX7_isEffective_22 rfl (lv_at hl 0 rfl) ?_
    refine lv_bipush (v := (-9)) hx hb dX7_isEffective_23 (by decide) ?_
    refine lv_icmp_eq (tgt := 41) hx hb dX7_isEffective_25 (by decide) (fun c_4 => ?_) (fun c_4 => ?_)
    · refine lv_aload_n hx hb dX7_isEffective_41 rfl (lv_at hl 1 rfl) ?_
      refine lv_iload_n hx hb dX7_isEffective_42 rfl (lv_at hl 2 rfl) ?_
      refine lv_iload_n hx hb dX7_isEffective_43 rfl (lv_at hl 3 rfl) ?_
      refine cr_i (va_runV (As := [.int (nI k), .int (nI mo)]) (rest := []) ⟨hx, hb, hml, hown, hts⟩ (metX7_isObserved l G md fl a  k mo (by omega) (by omega)) (cwV 2 hts gX7_isEffective_X7_isObserved rfl rfl rfl (by decide +kernel) ⟨Nat.le_of_ble_eq_true rfl, Nat.le_of_ble_eq_true rfl⟩) (pR_V (q0 := 0) hK (hP.sub (ws' := scells G md fl a) [0, 1] rfl) rfl rfl) rfl rfl hl.1 rfl (lv_room (Nat.le_of_ble_eq_true rfl)) dX7_isEffective_44 ⟨Nat.zero_le _, Nat.zero_le _⟩) (fun r_5 hr_6 => ?_)
      subst hr_6
      exact W.zret (v := bI (obM a k mo)) (ty := .boolean) hx hb hr (nar_bI _) (fun t ht hW => ⟨_, rfl, (congrArg bI (by simp [efM, c_3, c_4] : obM a k mo = efM a k mo)), ht⟩) (fun q hq => absurd hq List.not_mem_nil) dX7_isEffective_47
    · refine lv_iload_n hx hb dX7_isEffective_28 rfl (lv_at hl 3 rfl) ?_
      refine lv_aload_n hx hb dX7_isEffective_29 rfl (lv_at hl 1 rfl) ?_
      refine va_get (D := G.1) (ci := 6) (v := .ref (md 1)) (C := RX7) (T := TX7) (N := 15) hx hb hts (by decide +kernel) hown hK.1 hP 0 rfl rfl 0 (by decide) (hts (.fieldLink RX7 7 "PriceIndexCalculatorModel" "s" "[I") (by decide +kernel)) (fun _ h9 => h9) rfl dX7_isEffective_30 ?_
      refine lv_bipush (v := nI 54) hx hb dX7_isEffective_33 (by decide) ?_
      refine lv_iload_n hx hb dX7_isEffective_35 rfl (lv_at hl 2 rfl) ?_
      refine n_add hx hb dX7_isEffective_36 ?_
      refine n_iald hx hb hK.1 hP 1 0 rfl rfl (j := 54 + k) (by omega) (by omega) dX7_isEffective_37 ?_
      refine lv_icmp_gt (tgt := 48) hx hb dX7_isEffective_38 (by decide) (fun c_7 => ?_) (fun c_7 => ?_)
      · obtain ⟨e5, h5, e7, h7⟩ := hA.2 k hk c_4
        refine lv_aload_n hx hb dX7_isEffective_48 rfl (lv_at hl 1 rfl) ?_
        refine lv_iload_n hx hb dX7_isEffective_49 rfl (lv_at hl 2 rfl) ?_
        refine lv_aload_n hx hb dX7_isEffective_50 rfl (lv_at hl 1 rfl) ?_
        refine va_get (D := G.1) (ci := 6) (v := .ref (md 1)) (C := RX7) (T := TX7) (N := 15) hx hb hts (by decide +kernel) hown hK.1 hP 0 rfl rfl 0 (by decide) (hts (.fieldLink RX7 7 "PriceIndexCalculatorModel" "s" "[I") (by decide +kernel)) (fun _ h9 => h9) rfl dX7_isEffective_51 ?_
        refine lv_bipush (v := nI 54) hx hb dX7_isEffective_54 (by decide) ?_
        refine lv_iload_n hx hb dX7_isEffective_56 rfl (lv_at hl 2 rfl) ?_
        refine n_add hx hb dX7_isEffective_57 ?_
        refine n_iald hx hb hK.1 hP 1 0 rfl rfl (j := 54 + k) (by omega) (by omega) dX7_isEffective_58 ?_
        refine eq_i (y := nI (ovM a k)) (e7) ?_
        refine cr_i (va_runV (As := [.int (nI k), .int (nI (ovM a k))]) (rest := []) ⟨hx, hb, hml, hown, hts⟩ (metX7_isObserved l G md fl a  k (ovM a k) (by omega) (by omega)) (cwV 2 hts gX7_isEffective_X7_isObserved rfl rfl rfl (by decide +kernel) ⟨Nat.le_of_ble_eq_true rfl, Nat.le_of_ble_eq_true rfl⟩) (pR_V (q0 := 0) hK (hP.sub (ws' := scells G md fl a) [0, 1] rfl) rfl rfl) rfl rfl hl.1 rfl (lv_room (Nat.le_of_ble_eq_true rfl)) dX7_isEffective_59 ⟨Nat.zero_le _, Nat.zero_le _⟩) (fun r_8 hr_9 => ?_)
        subst hr_9
        refine nb_if_eq (B := obM a k (ovM a k)) (tgt := 95) hx hb dX7_isEffective_62 (by decide) (fun c_10 => ?_) (fun c_10 => ?_)
        · refine lv_iconst (v := nI 0) hx hb dX7_isEffective_95 (by decide) ?_
          exact W.zret (v := nI 0) (ty := .boolean) hx hb hr (by rfl) (fun t ht hW => ⟨_, rfl, ((congrArg bI (by simp [efM, c_3, c_4, c_7, c_10] : efM a k mo = false)).symm), ht⟩) (fun q hq => absurd hq List.not_mem_nil) dX7_isEffective_96
        · refine lv_aload_n hx hb dX7_isEffective_65 rfl (lv_at hl 1 rfl) ?_
          refine lv_iload_n hx hb dX7_isEffective_66 rfl (lv_at hl 0 rfl) ?_
          refine eq_i (y := nI (nwM a k)) (e5) ?_
          refine lv_aload_n hx hb dX7_isEffective_67 rfl (lv_at hl 1 rfl) ?_
          refine va_get (D := G.1) (ci := 6) (v := .ref (md 1)) (C := RX7) (T := TX7) (N := 15) hx hb hts (by decide +kernel) hown hK.1 hP 0 rfl rfl 0 (by decide) (hts (.fieldLink RX7 7 "PriceIndexCalculatorModel" "s" "[I") (by decide +kernel)) (fun _ h9 => h9) rfl dX7_isEffective_68 ?_
          refine lv_bipush (v := nI 54) hx hb dX7_isEffective_71 (by decide) ?_
          refine lv_iload_n hx hb dX7_isEffective_73 rfl (lv_at hl 2 rfl) ?_
          refine n_add hx hb dX7_isEffective_74 ?_
          refine n_iald hx hb hK.1 hP 1 0 rfl rfl (j := 54 + k) (by omega) (by omega) dX7_isEffective_75 ?_
          refine eq_i (y := nI (ovM a k)) (e7) ?_
          refine cr_i (va_runV (As := [.int (nI (nwM a k)), .int (nI (ovM a k))]) (rest := []) ⟨hx, hb, hml, hown, hts⟩ (metX7_isObserved l G md fl a  (nwM a k) (ovM a k) (by omega) (by omega)) (cwV 2 hts gX7_isEffective_X7_isObserved rfl rfl rfl (by decide +kernel) ⟨Nat.le_of_ble_eq_true rfl, Nat.le_of_ble_eq_true rfl⟩) (pR_V (q0 := 0) hK (hP.sub (ws' := scells G md fl a) [0, 1] rfl) rfl rfl) rfl rfl hl.1 rfl (lv_room (Nat.le_of_ble_eq_true rfl)) dX7_isEffective_76 ⟨Nat.zero_le _, Nat.zero_le _⟩) (fun r_11 hr_12 => ?_)
          subst hr_12
          refine nb_if_eq (B := obM a (nwM a k) (ovM a k)) (tgt := 95) hx hb dX7_isEffective_79 (by decide) (fun c_13 => ?_) (fun c_13 => ?_)
          · refine lv_iconst (v := nI 0) hx hb dX7_isEffective_95 (by decide) ?_
            exact W.zret (v := nI 0) (ty := .boolean) hx hb hr (by rfl) (fun t ht hW => ⟨_, rfl, ((congrArg bI (by simp [efM, c_3, c_4, c_7, c_10, c_13] : efM a k mo = false)).symm), ht⟩) (fun q hq => absurd hq List.not_mem_nil) dX7_isEffective_96
          · refine lv_aload_n hx hb dX7_isEffective_82 rfl (lv_at hl 1 rfl) ?_
            refine lv_iload_n hx hb dX7_isEffective_83 rfl (lv_at hl 0 rfl) ?_
            refine eq_i (y := nI (nwM a k)) (e5) ?_
            refine lv_iload_n hx hb dX7_isEffective_84 rfl (lv_at hl 3 rfl) ?_
            refine cr_i (va_runV (As := [.int (nI (nwM a k)), .int (nI mo)]) (rest := []) ⟨hx, hb, hml, hown, hts⟩ (metX7_isObserved l G md fl a  (nwM a k) mo (by omega) (by omega)) (cwV 2 hts gX7_isEffective_X7_isObserved rfl rfl rfl (by decide +kernel) ⟨Nat.le_of_ble_eq_true rfl, Nat.le_of_ble_eq_true rfl⟩) (pR_V (q0 := 0) hK (hP.sub (ws' := scells G md fl a) [0, 1] rfl) rfl rfl) rfl rfl hl.1 rfl (lv_room (Nat.le_of_ble_eq_true rfl)) dX7_isEffective_85 ⟨Nat.zero_le _, Nat.zero_le _⟩) (fun r_14 hr_15 => ?_)
            subst hr_15
            refine nb_if_eq (B := obM a (nwM a k) mo) (tgt := 95) hx hb dX7_isEffective_88 (by decide) (fun c_16 => ?_) (fun c_16 => ?_)
            · refine lv_iconst (v := nI 0) hx hb dX7_isEffective_95 (by decide) ?_
              exact W.zret (v := nI 0) (ty := .boolean) hx hb hr (by rfl) (fun t ht hW => ⟨_, rfl, ((congrArg bI (by simp [efM, c_3, c_4, c_7, c_10, c_13, c_16] : efM a k mo = false)).symm), ht⟩) (fun q hq => absurd hq List.not_mem_nil) dX7_isEffective_96
            · refine lv_iconst (v := nI 1) hx hb dX7_isEffective_91 (by decide) ?_
              refine lv_goto (tgt := 96) hx hb dX7_isEffective_92 (by decide) ?_
              exact W.zret (v := nI 1) (ty := .boolean) hx hb hr (by rfl) (fun t ht hW => ⟨_, rfl, ((congrArg bI (by simp [efM, c_3, c_4, c_7, c_10, c_13, c_16] : efM a k mo = true)).symm), ht⟩) (fun q hq => absurd hq List.not_mem_nil) dX7_isEffective_96
      · refine lv_aload_n hx hb dX7_isEffective_41 rfl (lv_at hl 1 rfl) ?_
        refine lv_iload_n hx hb dX7_isEffective_42 rfl (lv_at hl 2 rfl) ?_
        refine lv_iload_n hx hb dX7_isEffective_43 rfl (lv_at hl 3 rfl) ?_
        refine cr_i (va_runV (As := [.int (nI k), .int (nI mo)]) (rest := []) ⟨hx, hb, hml, hown, hts⟩ (metX7_isObserved l G md fl a  k mo (by omega) (by omega)) (cwV 2 hts gX7_isEffective_X7_isObserved rfl rfl rfl (by decide +kernel) ⟨Nat.le_of_ble_eq_true rfl, Nat.le_of_ble_eq_true rfl⟩) (pR_V (q0 := 0) hK (hP.sub (ws' := scells G md fl a) [0, 1] rfl) rfl rfl) rfl rfl hl.1 rfl (lv_room (Nat.le_of_ble_eq_true rfl)) dX7_isEffective_44 ⟨Nat.zero_le _, Nat.zero_le _⟩) (fun r_17 hr_18 => ?_)
        subst hr_18
        exact W.zret (v := bI (obM a k mo)) (ty := .boolean) hx hb hr (nar_bI _) (fun t ht hW => ⟨_, rfl, (congrArg bI (by simp [efM, c_3, c_4, c_7] : obM a k mo = efM a k mo)), ht⟩) (fun q hq => absurd hq List.not_mem_nil) dX7_isEffective_47
  · refine lv_iconst (v := nI 0) hx hb dX7_isEffective_10 (by decide) ?_
    exact W.zret (v := nI 0) (ty := .boolean) hx hb hr (by rfl) (fun t ht hW => ⟨_, rfl, ((congrArg bI (by simp [efM, c_3] : efM a k mo = false)).symm), ht⟩) (fun q hq => absurd hq List.not_mem_nil) dX7_isEffective_11
set_option maxHeartbeats 4000000 in
set_option maxRecDepth 100000 in
/-- Model.isMatched -/
theorem metX7_isMatched (l : Launch) (G : GG) (md : Nat → Nat) (fl : List Value) (a : Nat → Int32) (hA : mWF a) (k : Nat) (x : Int32) (fr tt : Nat) (hk : k < 12) (hfr : fr < 24) (htt : tt < 24) : Met l yX7_isMatched wsX7_isMatched ({ frames := 3, cells := 0, slots := 0, locals := 90 }) (pR G (scells G md fl a) [.ref (md 0), .int (nI k), .int x, .int (nI fr), .int (nI tt)]) (vp_Si (fun r => r = bI (maM a x fr tt k))) 0 0 (fun _ => False) := by
  refine Met.ofW (cc := cX7_isMatched) (maxL := 5) (ret := (some .boolean)) (by decide) rfl ?_
  intro p e s m args below meth c s₁ B hml hv
  obtain ⟨rfl, hK, hP⟩ := hv
  have hx := B.exec
  have hb := B.bytes
  have hr := B.returns
  have hlocks := B.notSynchronized
  have hts := atoms_spec (ws := wsX7_isMatched) B.pre
  have hown : s.vm.findClass RX7 = some m.cls := findClass_of_methodNamed B.named
  have hl := lv_entry ([.ref (md 0), .int (nI k), .int x, .int (nI fr), .int (nI tt)]) (n := 5) (Nat.le_of_ble_eq_true rfl)
  rw [lg_entry_eq]
  generalize (lg_sl ([.ref (md 0), .int (nI k), .int x, .int (nI fr), .int (nI tt)]) ++ List.replicate (5 - (lg_sl ([.ref (md 0), .int (nI k), .int x, .int (nI fr), .int (nI tt)])).length) Slot.unset).toArray = ls at hl ⊢
  have hl : lv_has ls 5 [(0, .ref (md 0)), (1, .int (nI k)), (2, .int x), (3, .int (nI fr)), (4, .int (nI tt))] := hl
  refine lv_aload_n hx hb dX7_isMatched_0 rfl (lv_at hl 0 rfl) ?_
  refine va_get (D := G.1) (ci := 6) (v := .ref (md 1)) (C := RX7) (T := TX7) (N := 15) hx hb hts (by decide +kernel) hown hK.1 hP 0 rfl rfl 0 (by decide) (hts (.fieldLink RX7 7 "PriceIndexCalculatorModel" "s" "[I") (by decide +kernel)) (fun _ h9 => h9) rfl dX7_isMatched_1 ?_
  refine lv_bipush (v := nI 6) hx hb dX7_isMatched_4 (by decide) ?_
  refine lv_iload_n hx hb dX7_isMatched_6 rfl (lv_at hl 1 rfl) ?_
  refine n_add hx hb dX7_isMatched_7 ?_
  refine n_iald hx hb hK.1 hP 1 0 rfl rfl (j := 6 + k) (by omega) (by omega) dX7_isMatched_8 ?_
  refine lv_iload_n hx hb dX7_isMatched_9 rfl (lv_at hl 2 rfl) ?_
  refine lv_icmp_ne (tgt := 36) hx hb dX7_isMatched_10 (by decide) (fun c_1 => ?_) (fun c_1 => ?_)
  · refine lv_iconst (v := nI 0) hx hb dX7_isMatched_36 (by decide) ?_
    exact W.zret (v := nI 0) (ty := .boolean) hx hb hr (by rfl) (fun t ht hW => ⟨_, rfl, ((congrArg bI (by simp [maM, c_1] : maM a x fr tt k = false)).symm), ht⟩) (fun q hq => absurd hq List.not_mem_nil) dX7_isMatched_37
  · refine lv_aload_n hx hb dX7_isMatched_13 rfl (lv_at hl 0 rfl) ?_
    refine lv_iload_n hx hb dX7_isMatched_14 rfl (lv_at hl 1 rfl) ?_
    refine lv_iload_n hx hb dX7_isMatched_15 rfl (lv_at hl 3 rfl) ?_
    refine cr_i (va_runV (As := [.int (nI k), .int (nI fr)]) (rest := []) ⟨hx, hb, hml, hown, hts⟩ (metX7_isEffective l G md fl a hA k fr (by omega) (by omega)) (cwV 2 hts gX7_isMatched_X7_isEffective rfl rfl rfl (by decide +kernel) ⟨Nat.le_of_ble_eq_true rfl, Nat.le_of_ble_eq_true rfl⟩) (pR_V (q0 := 0) hK (hP.sub (ws' := scells G md fl a) [0, 1] rfl) rfl rfl) rfl rfl hl.1 rfl (lv_room (Nat.le_of_ble_eq_true rfl)) dX7_isMatched_16 ⟨Nat.zero_le _, Nat.zero_le _⟩) (fun r_2 hr_3 => ?_)
    subst hr_3
    refine nb_if_eq (B := efM a k fr) (tgt := 36) hx hb dX7_isMatched_19 (by decide) (fun c_4 => ?_) (fun c_4 => ?_)
    · refine lv_iconst (v := nI 0) hx hb dX7_isMatched_36 (by decide) ?_
      exact W.zret (v := nI 0) (ty := .boolean) hx hb hr (by rfl) (fun t ht hW => ⟨_, rfl, ((congrArg bI (by simp [maM, c_1, c_4] : maM a x fr tt k = false)).symm), ht⟩) (fun q hq => absurd hq List.not_mem_nil) dX7_isMatched_37
    · refine lv_aload_n hx hb dX7_isMatched_22 rfl (lv_at hl 0 rfl) ?_
      refine lv_iload_n hx hb dX7_isMatched_23 rfl (lv_at hl 1 rfl) ?_
      refine lv_iload hx hb dX7_isMatched_24 (lv_at hl 4 rfl) ?_
      refine cr_i (va_runV (As := [.int (nI k), .int (nI tt)]) (rest := []) ⟨hx, hb, hml, hown, hts⟩ (metX7_isEffective l G md fl a hA k tt (by omega) (by omega)) (cwV 2 hts gX7_isMatched_X7_isEffective rfl rfl rfl (by decide +kernel) ⟨Nat.le_of_ble_eq_true rfl, Nat.le_of_ble_eq_true rfl⟩) (pR_V (q0 := 0) hK (hP.sub (ws' := scells G md fl a) [0, 1] rfl) rfl rfl) rfl rfl hl.1 rfl (lv_room (Nat.le_of_ble_eq_true rfl)) dX7_isMatched_26 ⟨Nat.zero_le _, Nat.zero_le _⟩) (fun r_5 hr_6 => ?_)
      subst hr_6
      refine nb_if_eq (B := efM a k tt) (tgt := 36) hx hb dX7_isMatched_29 (by decide) (fun c_7 => ?_) (fun c_7 => ?_)
      · refine lv_iconst (v := nI 0) hx hb dX7_isMatched_36 (by decide) ?_
        exact W.zret (v := nI 0) (ty := .boolean) hx hb hr (by rfl) (fun t ht hW => ⟨_, rfl, ((congrArg bI (by simp [maM, c_1, c_4, c_7] : maM a x fr tt k = false)).symm), ht⟩) (fun q hq => absurd hq List.not_mem_nil) dX7_isMatched_37
      · refine lv_iconst (v := nI 1) hx hb dX7_isMatched_32 (by decide) ?_
        refine lv_goto (tgt := 37) hx hb dX7_isMatched_33 (by decide) ?_
        exact W.zret (v := nI 1) (ty := .boolean) hx hb hr (by rfl) (fun t ht hW => ⟨_, rfl, ((congrArg bI (by simp [maM, c_1, c_4, c_7] : maM a x fr tt k = true)).symm), ht⟩) (fun q hq => absurd hq List.not_mem_nil) dX7_isMatched_37
set_option maxHeartbeats 4000000 in
set_option maxRecDepth 100000 in
/-- Model.quotedPrice -/
theorem metX7_quotedPrice (l : Launch) (G : GG) (md : Nat → Nat) (fl : List Value) (a : Nat → Int32) (hC : mC a) (y1 y2 : Int32) : Met l yX7_quotedPrice wsX7_quotedPrice ({ frames := 2, cells := 0, slots := 0, locals := 60 }) (pR G (scells G md fl a) [.ref (md 0), .int y1, .int y2]) (vp_Si (fun r => r = mQPf a y1 y2)) 0 0 (fun _ => False) := by
  refine Met.ofW (cc := cX7_quotedPrice) (maxL := 3) (ret := (some .int)) (by decide) rfl ?_
  intro p e s m args below meth c s₁ B hml hv
  obtain ⟨rfl, hK, hP⟩ := hv
  have hx := B.exec
  have hb := B.bytes
  have hr := B.returns
  have hlocks := B.notSynchronized
  have hts := atoms_spec (ws := wsX7_quotedPrice) B.pre
  have hown : s.vm.findClass RX7 = some m.cls := findClass_of_methodNamed B.named
  have hl := lv_entry ([.ref (md 0), .int y1, .int y2]) (n := 3) (Nat.le_of_ble_eq_true rfl)
  rw [lg_entry_eq]
  generalize (lg_sl ([.ref (md 0), .int y1, .int y2]) ++ List.replicate (3 - (lg_sl ([.ref (md 0), .int y1, .int y2])).length) Slot.unset).toArray = ls at hl ⊢
  have hl : lv_has ls 3 [(0, .ref (md 0)), (1, .int y1), (2, .int y2)] := hl
  refine lv_aload_n hx hb dX7_quotedPrice_0 rfl (lv_at hl 0 rfl) ?_
  refine lv_iload_n hx hb dX7_quotedPrice_1 rfl (lv_at hl 1 rfl) ?_
  refine cr_i (va_runV (As := [.int y1]) (rest := []) ⟨hx, hb, hml, hown, hts⟩ (metX7_isItem l G md fl a hC y1) (cwV 1 hts gX7_quotedPrice_X7_isItem rfl rfl rfl (by decide +kernel) ⟨Nat.le_of_ble_eq_true rfl, Nat.le_of_ble_eq_true rfl⟩) (pR_V (q0 := 0) hK (hP.sub (ws' := scells G md fl a) [0, 1] rfl) rfl rfl) rfl rfl hl.1 rfl (lv_room (Nat.le_of_ble_eq_true rfl)) dX7_quotedPrice_2 ⟨Nat.zero_le _, Nat.zero_le _⟩) (fun r_1 hr_2 => ?_)
  subst hr_2
  refine nb_if_eq (B := isItM a y1) (tgt := 32) hx hb dX7_quotedPrice_5 (by decide) (fun c_3 => ?_) (fun c_3 => ?_)
  · refine lv_iconst (v := (-1)) hx hb dX7_quotedPrice_32 (by decide) ?_
    exact W.iret (v := (-1)) hx hb hr (fun t ht hW => ⟨_, rfl, (by simp [mQPf, c_3]), ht⟩) (fun q hq => absurd hq List.not_mem_nil) dX7_quotedPrice_33
  · refine lv_iload_n hx hb dX7_quotedPrice_8 rfl (lv_at hl 2 rfl) ?_
    refine cr_i (va_runS (As := [.int y2]) (rest := []) ⟨hx, hb, hml, hown, hts⟩ (metX7_isMonth l G y2) (cwS 1 hts gX7_quotedPrice_X7_isMonth rfl rfl rfl (by decide +kernel) ⟨Nat.le_of_ble_eq_true rfl, Nat.le_of_ble_eq_true rfl⟩) (pR_S hK (va_P_nil _ _ _)) rfl rfl hl.1 rfl (lv_room (Nat.le_of_ble_eq_true rfl)) dX7_quotedPrice_9 ⟨Nat.zero_le _, Nat.zero_le _⟩) (fun r_4 hr_5 => ?_)
    subst hr_5
    refine nb_if_eq (B := isMonM y2) (tgt := 32) hx hb dX7_quotedPrice_12 (by decide) (fun c_6 => ?_) (fun c_6 => ?_)
    · refine lv_iconst (v := (-1)) hx hb dX7_quotedPrice_32 (by decide) ?_
      exact W.iret (v := (-1)) hx hb hr (fun t ht hW => ⟨_, rfl, (by simp [mQPf, c_3, c_6]), ht⟩) (fun q hq => absurd hq List.not_mem_nil) dX7_quotedPrice_33
    · obtain ⟨k1, hk1, rfl⟩ := isItM_nat hC c_3
      obtain ⟨k2, hk2, rfl⟩ := isMon_nat ((isMonM_eq _).symm.trans c_6)
      have hit := hC.2
      have hl : lv_has ls 3 [(0, .ref (md 0)), (1, .int (nI k1)), (2, .int (nI k2))] := hl
      refine lv_aload_n hx hb dX7_quotedPrice_15 rfl (lv_at hl 0 rfl) ?_
      refine va_get (D := G.1) (ci := 6) (v := .ref (md 1)) (C := RX7) (T := TX7) (N := 15) hx hb hts (by decide +kernel) hown hK.1 hP 0 rfl rfl 0 (by decide) (hts (.fieldLink RX7 7 "PriceIndexCalculatorModel" "s" "[I") (by decide +kernel)) (fun _ h9 => h9) rfl dX7_quotedPrice_16 ?_
      refine lv_bipush (v := nI 66) hx hb dX7_quotedPrice_19 (by decide) ?_
      refine lv_bipush (v := nI 24) hx hb dX7_quotedPrice_21 (by decide) ?_
      refine lv_iload_n hx hb dX7_quotedPrice_23 rfl (lv_at hl 1 rfl) ?_
      refine n_mul hx hb dX7_quotedPrice_24 ?_
      refine n_add hx hb dX7_quotedPrice_25 ?_
      refine lv_iload_n hx hb dX7_quotedPrice_26 rfl (lv_at hl 2 rfl) ?_
      refine n_add hx hb dX7_quotedPrice_27 ?_
      refine n_iald hx hb hK.1 hP 1 0 rfl rfl (j := (66 + (24 * k1)) + k2) (by omega) (by omega) dX7_quotedPrice_28 ?_
      refine lv_goto (tgt := 33) hx hb dX7_quotedPrice_29 (by decide) ?_
      exact W.iret (v := a ((66 + (24 * k1)) + k2)) hx hb hr (fun t ht hW => ⟨_, rfl, (by simp [mQPf, c_3, c_6, nC_nI (k := k1) (by omega), nC_nI (k := k2) (by omega)]), ht⟩) (fun q hq => absurd hq List.not_mem_nil) dX7_quotedPrice_33
set_option maxHeartbeats 4000000 in
set_option maxRecDepth 100000 in
/-- Model.replacementOf -/
theorem metX7_replacementOf (l : Launch) (G : GG) (md : Nat → Nat) (fl : List Value) (a : Nat → Int32) (hC : mC a) (y1 : Int32) : Met l yX7_replacementOf wsX7_replacementOf ({ frames := 2, cells := 0, slots := 0, locals := 60 }) (pR G (scells G md fl a) [.ref (md 0), .int y1]) (vp_Si (fun r => r = mROf a y1)) 0 0 (fun _ => False) := by
  refine Met.ofW (cc := cX7_replacementOf) (maxL := 2) (ret := (some .int)) (by decide) rfl ?_
  intro p e s m args below meth c s₁ B hml hv
  obtain ⟨rfl, hK, hP⟩ := hv
  have hx := B.exec
  have hb := B.bytes
  have hr := B.returns
  have hlocks := B.notSynchronized
  have hts := atoms_spec (ws := wsX7_replacementOf) B.pre
  have hown : s.vm.findClass RX7 = some m.cls := findClass_of_methodNamed B.named
  have hl := lv_entry ([.ref (md 0), .int y1]) (n := 2) (Nat.le_of_ble_eq_true rfl)
  rw [lg_entry_eq]
  generalize (lg_sl ([.ref (md 0), .int y1]) ++ List.replicate (2 - (lg_sl ([.ref (md 0), .int y1])).length) Slot.unset).toArray = ls at hl ⊢
  have hl : lv_has ls 2 [(0, .ref (md 0)), (1, .int y1)] := hl
  refine lv_aload_n hx hb dX7_replacementOf_0 rfl (lv_at hl 0 rfl) ?_
  refine lv_iload_n hx hb dX7_replacementOf_1 rfl (lv_at hl 1 rfl) ?_
  refine cr_i (va_runV (As := [.int y1]) (rest := []) ⟨hx, hb, hml, hown, hts⟩ (metX7_isItem l G md fl a hC y1) (cwV 1 hts gX7_replacementOf_X7_isItem rfl rfl rfl (by decide +kernel) ⟨Nat.le_of_ble_eq_true rfl, Nat.le_of_ble_eq_true rfl⟩) (pR_V (q0 := 0) hK (hP.sub (ws' := scells G md fl a) [0, 1] rfl) rfl rfl) rfl rfl hl.1 rfl (lv_room (Nat.le_of_ble_eq_true rfl)) dX7_replacementOf_2 ⟨Nat.zero_le _, Nat.zero_le _⟩) (fun r_1 hr_2 => ?_)
  subst hr_2
  refine nb_if_eq (B := isItM a y1) (tgt := 20) hx hb dX7_replacementOf_5 (by decide) (fun c_3 => ?_) (fun c_3 => ?_)
  · refine lv_iconst (v := (-1)) hx hb dX7_replacementOf_20 (by decide) ?_
    exact W.iret (v := (-1)) hx hb hr (fun t ht hW => ⟨_, rfl, (by simp [mROf, c_3]), ht⟩) (fun q hq => absurd hq List.not_mem_nil) dX7_replacementOf_21
  · obtain ⟨k1, hk1, rfl⟩ := isItM_nat hC c_3
    have hit := hC.2
    have hl : lv_has ls 2 [(0, .ref (md 0)), (1, .int (nI k1))] := hl
    refine lv_aload_n hx hb dX7_replacementOf_8 rfl (lv_at hl 0 rfl) ?_
    refine va_get (D := G.1) (ci := 6) (v := .ref (md 1)) (C := RX7) (T := TX7) (N := 15) hx hb hts (by decide +kernel) hown hK.1 hP 0 rfl rfl 0 (by decide) (hts (.fieldLink RX7 7 "PriceIndexCalculatorModel" "s" "[I") (by decide +kernel)) (fun _ h9 => h9) rfl dX7_replacementOf_9 ?_
    refine lv_bipush (v := nI 42) hx hb dX7_replacementOf_12 (by decide) ?_
    refine lv_iload_n hx hb dX7_replacementOf_14 rfl (lv_at hl 1 rfl) ?_
    refine n_add hx hb dX7_replacementOf_15 ?_
    refine n_iald hx hb hK.1 hP 1 0 rfl rfl (j := 42 + k1) (by omega) (by omega) dX7_replacementOf_16 ?_
    refine lv_goto (tgt := 21) hx hb dX7_replacementOf_17 (by decide) ?_
    exact W.iret (v := a (42 + k1)) hx hb hr (fun t ht hW => ⟨_, rfl, (by simp [mROf, c_3, nC_nI (k := k1) (by omega)]), ht⟩) (fun q hq => absurd hq List.not_mem_nil) dX7_replacementOf_21
set_option maxHeartbeats 4000000 in
set_option maxRecDepth 100000 in
/-- Model.matchedCount -/
theorem metX7_matchedCount (l : Launch) (G : GG) (md : Nat → Nat) (fl : List Value) (a : Nat → Int32) (hA : mWF a) (y1 y2 y3 : Int32) : Met l yX7_matchedCount wsX7_matchedCount ({ frames := 4, cells := 0, slots := 0, locals := 120 }) (pR G (scells G md fl a) [.ref (md 0), .int y1, .int y2, .int y3]) (vp_Si (fun r => r = mMCf a y1 y2 y3)) 0 0 (fun _ => False) := by
  refine Met.ofW (cc := cX7_matchedCount) (maxL := 6) (ret := (some .int)) (by decide) rfl ?_
  intro p e s m args below meth c s₁ B hml hv
  obtain ⟨rfl, hK, hP⟩ := hv
  have hx := B.exec
  have hb := B.bytes
  have hr := B.returns
  have hlocks := B.notSynchronized
  have hts := atoms_spec (ws := wsX7_matchedCount) B.pre
  have hown : s.vm.findClass RX7 = some m.cls := findClass_of_methodNamed B.named
  have hl := lv_entry ([.ref (md 0), .int y1, .int y2, .int y3]) (n := 6) (Nat.le_of_ble_eq_true rfl)
  rw [lg_entry_eq]
  generalize (lg_sl ([.ref (md 0), .int y1, .int y2, .int y3]) ++ List.replicate (6 - (lg_sl ([.ref (md 0), .int y1, .int y2, .int y3])).length) Slot.unset).toArray = ls at hl ⊢
  have hl : lv_has ls 6 [(0, .ref (md 0)), (1, .int y1), (2, .int y2), (3, .int y3)] := hl
  refine lv_iload_n hx hb dX7_matchedCount_0 rfl (lv_at hl 1 rfl) ?_
  refine lv_iload_n hx hb dX7_matchedCount_1 rfl (lv_at hl 2 rfl) ?_
  refine lv_iload_n hx hb dX7_matchedCount_2 rfl (lv_at hl 3 rfl) ?_
  refine cr_i (va_runS (As := [.int y1, .int y2, .int y3]) (rest := []) ⟨hx, hb, hml, hown, hts⟩ (metX7_areThere l G y1 y2 y3) (cwS 3 hts gX7_matchedCount_X7_areThere rfl rfl rfl (by decide +kernel) ⟨Nat.le_of_ble_eq_true rfl, Nat.le_of_ble_eq_true rfl⟩) (pR_S hK (va_P_nil _ _ _)) rfl rfl hl.1 rfl (lv_room (Nat.le_of_ble_eq_true rfl)) dX7_matchedCount_3 ⟨Nat.zero_le _, Nat.zero_le _⟩) (fun r_1 hr_2 => ?_)
  subst hr_2
  refine nb_if_ne (B := smmM y1 y2 y3) (tgt := 11) hx hb dX7_matchedCount_6 (by decide) (fun c_3 => ?_) (fun c_3 => ?_)
  · have hsm := c_3
    unfold smmM at hsm
    simp only [Bool.and_eq_true] at hsm
    obtain ⟨⟨hs1, hs2⟩, hs3⟩ := hsm
    obtain ⟨k2, hk2, rfl⟩ := isMon_nat ((isMonM_eq _).symm.trans hs2)
    obtain ⟨k3, hk3, rfl⟩ := isMon_nat ((isMonM_eq _).symm.trans hs3)
    have hit := hA.1.2
    have hl : lv_has ls 6 [(0, .ref (md 0)), (1, .int y1), (2, .int (nI k2)), (3, .int (nI k3))] := hl
    refine lv_iconst (v := nI 0) hx hb dX7_matchedCount_11 (by decide) ?_
    refine lv_istore (lv' := [(4, .int (nI 0)), (0, .ref (md 0)), (1, .int y1), (2, .int (nI k2)), (3, .int (nI k3))]) hx hb dX7_matchedCount_12 hl (by decide) rfl (fun ls hl => ?_)
    refine lv_iconst (v := nI 0) hx hb dX7_matchedCount_14 (by decide) ?_
    refine lv_istore (lv' := [(5, .int (nI 0)), (4, .int (nI 0)), (0, .ref (md 0)), (1, .int y1), (2, .int (nI k2)), (3, .int (nI k3))]) hx hb dX7_matchedCount_15 hl (by decide) rfl (fun ls hl => ?_)
    refine lpR (S := Nat) (mN a) (fun i u => u = cntP (maM a y1 k2 k3) (i)) (fun i u => [(0, .ref (md 0)), (1, .int y1), (2, .int (nI k2)), (3, .int (nI k3)), (4, .int (nI u)), (5, .int (nI i))]) (fun u ls hI_5 hl => ?_) (fun i u ls hi_6 hI_5 hl ih_4 => ?_) (0) 0 (by omega) (rfl) (lv_sub hl [2, 3, 4, 5, 1, 0] rfl)
    · obtain ⟨c9, rfl⟩ : ∃ z, z = u := ⟨_, rfl⟩
      have hl : lv_has ls 6 [(0, .ref (md 0)), (1, .int y1), (2, .int (nI k2)), (3, .int (nI k3)), (4, .int (nI c9)), (5, .int (nI (mN a)))] := hl
      refine lv_iload hx hb dX7_matchedCount_17 (lv_at hl 5 rfl) ?_
      refine lv_aload_n hx hb dX7_matchedCount_19 rfl (lv_at hl 0 rfl) ?_
      refine va_get (D := G.1) (ci := 6) (v := .ref (md 1)) (C := RX7) (T := TX7) (N := 15) hx hb hts (by decide +kernel) hown hK.1 hP 0 rfl rfl 0 (by decide) (hts (.fieldLink RX7 7 "PriceIndexCalculatorModel" "s" "[I") (by decide +kernel)) (fun _ h9 => h9) rfl dX7_matchedCount_20 ?_
      refine lv_iconst (v := nI 5) hx hb dX7_matchedCount_23 (by decide) ?_
      refine n_iald hx hb hK.1 hP 1 0 rfl rfl (j := 5) (by omega) (by omega) dX7_matchedCount_24 ?_
      refine eq_i (y := nI (mN a)) (hA.1.1) ?_
      refine n_icmp_ge (x := mN a) (y := mN a) (tgt := 56) hx hb (by omega) (by omega) dX7_matchedCount_25 (by decide) (fun c_7 => ?_) (fun c_7 => ?_)
      · refine lv_iload hx hb dX7_matchedCount_56 (lv_at hl 4 rfl) ?_
        exact W.iret (v := nI c9) hx hb hr (fun t ht hW => ⟨_, rfl, (by rw [mMCf, if_pos c_3, nC_nI (k := k2) (by omega), nC_nI (k := k3) (by omega)]; exact congrArg nI hI_5), ht⟩) (fun q hq => absurd hq List.not_mem_nil) dX7_matchedCount_58
      · exact absurd c_7 (by omega)
    · obtain ⟨c9, rfl⟩ : ∃ z, z = u := ⟨_, rfl⟩
      have hl : lv_has ls 6 [(0, .ref (md 0)), (1, .int y1), (2, .int (nI k2)), (3, .int (nI k3)), (4, .int (nI c9)), (5, .int (nI i))] := hl
      refine lv_iload hx hb dX7_matchedCount_17 (lv_at hl 5 rfl) ?_
      refine lv_aload_n hx hb dX7_matchedCount_19 rfl (lv_at hl 0 rfl) ?_
      refine va_get (D := G.1) (ci := 6) (v := .ref (md 1)) (C := RX7) (T := TX7) (N := 15) hx hb hts (by decide +kernel) hown hK.1 hP 0 rfl rfl 0 (by decide) (hts (.fieldLink RX7 7 "PriceIndexCalculatorModel" "s" "[I") (by decide +kernel)) (fun _ h9 => h9) rfl dX7_matchedCount_20 ?_
      refine lv_iconst (v := nI 5) hx hb dX7_matchedCount_23 (by decide) ?_
      refine n_iald hx hb hK.1 hP 1 0 rfl rfl (j := 5) (by omega) (by omega) dX7_matchedCount_24 ?_
      refine eq_i (y := nI (mN a)) (hA.1.1) ?_
      refine n_icmp_ge (x := i) (y := mN a) (tgt := 56) hx hb (by omega) (by omega) dX7_matchedCount_25 (by decide) (fun c_8 => ?_) (fun c_8 => ?_)
      · exact absurd c_8 (by omega)
      · refine lv_iload hx hb dX7_matchedCount_28 (lv_at hl 4 rfl) ?_
        refine lv_aload_n hx hb dX7_matchedCount_30 rfl (lv_at hl 0 rfl) ?_
        refine lv_iload hx hb dX7_matchedCount_31 (lv_at hl 5 rfl) ?_
        refine lv_iload_n hx hb dX7_matchedCount_33 rfl (lv_at hl 1 rfl) ?_
        refine lv_iload_n hx hb dX7_matchedCount_34 rfl (lv_at hl 2 rfl) ?_
        refine lv_iload_n hx hb dX7_matchedCount_35 rfl (lv_at hl 3 rfl) ?_
        refine cr_i (va_runV (As := [.int (nI i), .int y1, .int (nI k2), .int (nI k3)]) (rest := [.int (nI c9)]) ⟨hx, hb, hml, hown, hts⟩ (metX7_isMatched l G md fl a hA i y1 k2 k3 (by omega) (by omega) (by omega)) (cwV 4 hts gX7_matchedCount_X7_isMatched rfl rfl rfl (by decide +kernel) ⟨Nat.le_of_ble_eq_true rfl, Nat.le_of_ble_eq_true rfl⟩) (pR_V (q0 := 0) hK (hP.sub (ws' := scells G md fl a) [0, 1] rfl) rfl rfl) rfl rfl hl.1 rfl (lv_room (Nat.le_of_ble_eq_true rfl)) dX7_matchedCount_36 ⟨Nat.zero_le _, Nat.zero_le _⟩) (fun r_9 hr_10 => ?_)
        subst hr_10
        refine nb_if_eq (B := maM a y1 k2 k3 i) (tgt := 46) hx hb dX7_matchedCount_39 (by decide) (fun c_11 => ?_) (fun c_11 => ?_)
        · refine lv_iconst (v := nI 0) hx hb dX7_matchedCount_46 (by decide) ?_
          refine n_add hx hb dX7_matchedCount_47 ?_
          refine lv_istore (lv' := [(4, .int (nI (c9 + 0))), (0, .ref (md 0)), (1, .int y1), (2, .int (nI k2)), (3, .int (nI k3)), (5, .int (nI i))]) hx hb dX7_matchedCount_48 hl (by decide) rfl (fun ls hl => ?_)
          refine lv_iinc (v := nI (i + 1)) (lv' := [(5, .int (nI (i + 1))), (4, .int (nI (c9 + 0))), (0, .ref (md 0)), (1, .int y1), (2, .int (nI k2)), (3, .int (nI k3))]) hx hb dX7_matchedCount_50 hl (k := 5) rfl (by exact nI_add _ _) (by decide) rfl (fun ls hl => ?_)
          refine lv_goto (tgt := 17) hx hb dX7_matchedCount_53 (by decide) ?_
          exact ih_4 (c9 + 0) _ (by rw [hI_5]; simp [cntP, c_11]) (lv_sub hl [2, 3, 4, 5, 1, 0] rfl)
        · refine lv_iconst (v := nI 1) hx hb dX7_matchedCount_42 (by decide) ?_
          refine lv_goto (tgt := 47) hx hb dX7_matchedCount_43 (by decide) ?_
          refine n_add hx hb dX7_matchedCount_47 ?_
          refine lv_istore (lv' := [(4, .int (nI (c9 + 1))), (0, .ref (md 0)), (1, .int y1), (2, .int (nI k2)), (3, .int (nI k3)), (5, .int (nI i))]) hx hb dX7_matchedCount_48 hl (by decide) rfl (fun ls hl => ?_)
          refine lv_iinc (v := nI (i + 1)) (lv' := [(5, .int (nI (i + 1))), (4, .int (nI (c9 + 1))), (0, .ref (md 0)), (1, .int y1), (2, .int (nI k2)), (3, .int (nI k3))]) hx hb dX7_matchedCount_50 hl (k := 5) rfl (by exact nI_add _ _) (by decide) rfl (fun ls hl => ?_)
          refine lv_goto (tgt := 17) hx hb dX7_matchedCount_53 (by decide) ?_
          exact ih_4 (c9 + 1) _ (by rw [hI_5]; simp [cntP, c_11]) (lv_sub hl [2, 3, 4, 5, 1, 0] rfl)
  · refine lv_iconst (v := (-1)) hx hb dX7_matchedCount_9 (by decide) ?_
    exact W.iret (v := (-1)) hx hb hr (fun t ht hW => ⟨_, rfl, (by simp [mMCf, c_3]), ht⟩) (fun q hq => absurd hq List.not_mem_nil) dX7_matchedCount_10
