set_option maxHeartbeats 4000000 in
set_option maxRecDepth 100000 in
/-- QuotationText.append -/
theorem metX4_append (l : Launch) (G : GG) (tx : Nat → Nat) (L pz : Nat) (ri rm rp ch : Nat → Int32) (hL : L < 60) (y1 : Int32) : Met l yX4_append wsX4_append ({ frames := 0, cells := 0, slots := 0, locals := 0 }) (pM G (xtc G tx L pz ri rm rp ch) [.ref (tx 0), .int y1]) (va_Qi (fun r (_ : Unit) => r = nI (L + 1)) (bM G (fun _ : Unit => xtc G tx (L + 1) pz ri rm rp (upd ch L y1))) (adr (xtc G tx L pz ri rm rp ch))) 0 0 (adr (xtc G tx L pz ri rm rp ch)) := by
  refine Met.ofW (cc := cX4_append) (maxL := 2) (ret := (some .int)) (by decide) rfl ?_
  intro p e s m args below meth c s₁ B hml hv
  obtain ⟨rfl, hK, hP, hD0⟩ := hv
  have hx := B.exec
  have hb := B.bytes
  have hr := B.returns
  have hlocks := B.notSynchronized
  have hts := atoms_spec (ws := wsX4_append) B.pre
  have hown : s.vm.findClass RX4 = some m.cls := findClass_of_methodNamed B.named
  have hD := hD0.own
  generalize hAe : adr (xtc G tx L pz ri rm rp ch) = A at hD ⊢
  have hS : va_S A s.heap s.heap [] := va_S.rf
  have hl := lv_entry ([.ref (tx 0), .int y1]) (n := 2) (Nat.le_of_ble_eq_true rfl)
  rw [lg_entry_eq]
  generalize (lg_sl ([.ref (tx 0), .int y1]) ++ List.replicate (2 - (lg_sl ([.ref (tx 0), .int y1])).length) Slot.unset).toArray = ls at hl ⊢
  have hl : lv_has ls 2 [(0, .ref (tx 0)), (1, .int y1)] := hl
  have hP : va_P G.1 vwCl ([(tx 0, .inr (4, [.ref (tx 1), .ref (tx 2), .ref (tx 3), .int (nI L), .ref (tx 4), .int (nI pz)])), (tx 1, .inl (G.2 0, 10, .inl ri)), (tx 2, .inl (G.2 0, 10, .inl rm)), (tx 3, .inl (G.2 0, 10, .inl rp)), (tx 4, .inl (G.2 0, 60, .inl ch))]) s.heap := hP
  have hD : va_D A ([(tx 0, .inr (4, [.ref (tx 1), .ref (tx 2), .ref (tx 3), .int (nI L), .ref (tx 4), .int (nI pz)])), (tx 1, .inl (G.2 0, 10, .inl ri)), (tx 2, .inl (G.2 0, 10, .inl rm)), (tx 3, .inl (G.2 0, 10, .inl rp)), (tx 4, .inl (G.2 0, 60, .inl ch))]) := hD
  refine lv_aload_n hx hb dX4_append_0 rfl (lv_at hl 0 rfl) ?_
  refine va_get (D := G.1) (ci := 4) (v := .ref (tx 4)) (C := RX4) (T := TX4) (N := 6) hx hb hts (by decide +kernel) hown hK.1 hP 0 rfl rfl 4 (by decide) (hts (.fieldLink RX4 21 "PriceIndexCalculator$QuotationText" "characters" "[I") (by decide +kernel)) (fun _ h9 => h9) rfl dX4_append_1 ?_
  refine lv_aload_n hx hb dX4_append_4 rfl (lv_at hl 0 rfl) ?_
  refine va_get (D := G.1) (ci := 4) (v := .int (nI L)) (C := RX4) (T := TX4) (N := 6) hx hb hts (by decide +kernel) hown hK.1 hP 0 rfl rfl 3 (by decide) (hts (.fieldLink RX4 24 "PriceIndexCalculator$QuotationText" "length" "I") (by decide +kernel)) (fun _ h9 => h9) rfl dX4_append_5 ?_
  refine lv_iload_n hx hb dX4_append_8 rfl (lv_at hl 1 rfl) ?_
  refine n_iast hx hb hK.1 hP hD hS 4 0 rfl rfl (j := L) (by omega) (by omega) dX4_append_9 (fun H locs hP hD hS => ?_)
  have hP : va_P G.1 vwCl ([(tx 0, .inr (4, [.ref (tx 1), .ref (tx 2), .ref (tx 3), .int (nI L), .ref (tx 4), .int (nI pz)])), (tx 1, .inl (G.2 0, 10, .inl ri)), (tx 2, .inl (G.2 0, 10, .inl rm)), (tx 3, .inl (G.2 0, 10, .inl rp)), (tx 4, .inl (G.2 0, 60, .inl (upd ch L y1)))]) H := hP
  have hD : va_D A ([(tx 0, .inr (4, [.ref (tx 1), .ref (tx 2), .ref (tx 3), .int (nI L), .ref (tx 4), .int (nI pz)])), (tx 1, .inl (G.2 0, 10, .inl ri)), (tx 2, .inl (G.2 0, 10, .inl rm)), (tx 3, .inl (G.2 0, 10, .inl rp)), (tx 4, .inl (G.2 0, 60, .inl (upd ch L y1)))]) := hD
  refine lv_aload_n hx hb dX4_append_10 rfl (lv_at hl 0 rfl) ?_
  refine lv_dup hx hb dX4_append_11 rfl ?_
  refine va_get (D := G.1) (ci := 4) (v := .int (nI L)) (C := RX4) (T := TX4) (N := 6) hx hb hts (by decide +kernel) hown hK.1 hP 0 rfl rfl 3 (by decide) (hts (.fieldLink RX4 24 "PriceIndexCalculator$QuotationText" "length" "I") (by decide +kernel)) (fun _ h9 => h9) rfl dX4_append_12 ?_
  refine lv_iconst (v := nI 1) hx hb dX4_append_15 (by decide) ?_
  refine n_add hx hb dX4_append_16 ?_
  refine va_put (D := G.1) (ci := 4) (v := .int (nI (L + 1))) (ty := .int) (C := RX4) (T := TX4) (N := 6) hx hb hts (by decide +kernel) tyX4 tyX4_ok nmX4 hown hK.1 hP hD hS 0 rfl rfl 3 (by decide) (hts (.fieldLink RX4 24 "PriceIndexCalculator$QuotationText" "length" "I") (by decide +kernel)) (fun _ h9 => h9) rfl (by decide +kernel) rfl rfl (Nat.le_of_ble_eq_true rfl) dX4_append_17 (fun H locs hP hD hS => ?_)
  have hP : va_P G.1 vwCl ([(tx 0, .inr (4, [.ref (tx 1), .ref (tx 2), .ref (tx 3), .int (nI (L + 1)), .ref (tx 4), .int (nI pz)])), (tx 1, .inl (G.2 0, 10, .inl ri)), (tx 2, .inl (G.2 0, 10, .inl rm)), (tx 3, .inl (G.2 0, 10, .inl rp)), (tx 4, .inl (G.2 0, 60, .inl (upd ch L y1)))]) H := hP
  have hD : va_D A ([(tx 0, .inr (4, [.ref (tx 1), .ref (tx 2), .ref (tx 3), .int (nI (L + 1)), .ref (tx 4), .int (nI pz)])), (tx 1, .inl (G.2 0, 10, .inl ri)), (tx 2, .inl (G.2 0, 10, .inl rm)), (tx 3, .inl (G.2 0, 10, .inl rp)), (tx 4, .inl (G.2 0, 60, .inl (upd ch L y1)))]) := hD
  refine lv_aload_n hx hb dX4_append_20 rfl (lv_at hl 0 rfl) ?_
  refine va_get (D := G.1) (ci := 4) (v := .int (nI (L + 1))) (C := RX4) (T := TX4) (N := 6) hx hb hts (by decide +kernel) hown hK.1 hP 0 rfl rfl 3 (by decide) (hts (.fieldLink RX4 24 "PriceIndexCalculator$QuotationText" "length" "I") (by decide +kernel)) (fun _ h9 => h9) rfl dX4_append_21 ?_
  have hP9 := hP
  exact W.iret (v := nI (L + 1)) hx hb hr (fun t ht hW => ⟨⟨_, (), rfl, rfl, bM_end ht hP9⟩, hS.F ht⟩) hS.2.2 dX4_append_24
set_option maxHeartbeats 4000000 in
set_option maxRecDepth 100000 in
/-- QuotationText.clear -/
theorem metX4_clear (l : Launch) (G : GG) (tx : Nat → Nat) (L pz : Nat) (ri rm rp ch : Nat → Int32)  : Met l yX4_clear wsX4_clear ({ frames := 0, cells := 0, slots := 0, locals := 0 }) (pM G (xtc G tx L pz ri rm rp ch) [.ref (tx 0)]) (va_Qi (fun r (_ : Unit) => r = nI L) (bM G (fun _ : Unit => xtc G tx 0 pz ri rm rp ch)) (adr (xtc G tx L pz ri rm rp ch))) 0 0 (adr (xtc G tx L pz ri rm rp ch)) := by
  refine Met.ofW (cc := cX4_clear) (maxL := 2) (ret := (some .int)) (by decide) rfl ?_
  intro p e s m args below meth c s₁ B hml hv
  obtain ⟨rfl, hK, hP, hD0⟩ := hv
  have hx := B.exec
  have hb := B.bytes
  have hr := B.returns
  have hlocks := B.notSynchronized
  have hts := atoms_spec (ws := wsX4_clear) B.pre
  have hown : s.vm.findClass RX4 = some m.cls := findClass_of_methodNamed B.named
  have hD := hD0.own
  generalize hAe : adr (xtc G tx L pz ri rm rp ch) = A at hD ⊢
  have hS : va_S A s.heap s.heap [] := va_S.rf
  have hl := lv_entry ([.ref (tx 0)]) (n := 2) (Nat.le_of_ble_eq_true rfl)
  rw [lg_entry_eq]
  generalize (lg_sl ([.ref (tx 0)]) ++ List.replicate (2 - (lg_sl ([.ref (tx 0)])).length) Slot.unset).toArray = ls at hl ⊢
  have hl : lv_has ls 2 [(0, .ref (tx 0))] := hl
  have hP : va_P G.1 vwCl ([(tx 0, .inr (4, [.ref (tx 1), .ref (tx 2), .ref (tx 3), .int (nI L), .ref (tx 4), .int (nI pz)])), (tx 1, .inl (G.2 0, 10, .inl ri)), (tx 2, .inl (G.2 0, 10, .inl rm)), (tx 3, .inl (G.2 0, 10, .inl rp)), (tx 4, .inl (G.2 0, 60, .inl ch))]) s.heap := hP
  have hD : va_D A ([(tx 0, .inr (4, [.ref (tx 1), .ref (tx 2), .ref (tx 3), .int (nI L), .ref (tx 4), .int (nI pz)])), (tx 1, .inl (G.2 0, 10, .inl ri)), (tx 2, .inl (G.2 0, 10, .inl rm)), (tx 3, .inl (G.2 0, 10, .inl rp)), (tx 4, .inl (G.2 0, 60, .inl ch))]) := hD
  refine lv_aload_n hx hb dX4_clear_0 rfl (lv_at hl 0 rfl) ?_
  refine va_get (D := G.1) (ci := 4) (v := .int (nI L)) (C := RX4) (T := TX4) (N := 6) hx hb hts (by decide +kernel) hown hK.1 hP 0 rfl rfl 3 (by decide) (hts (.fieldLink RX4 24 "PriceIndexCalculator$QuotationText" "length" "I") (by decide +kernel)) (fun _ h9 => h9) rfl dX4_clear_1 ?_
  refine lv_istore_n (lv' := [(1, .int (nI L)), (0, .ref (tx 0))]) hx hb dX4_clear_4 rfl hl (by decide) rfl (fun ls hl => ?_)
  refine lv_aload_n hx hb dX4_clear_5 rfl (lv_at hl 1 rfl) ?_
  refine lv_iconst (v := nI 0) hx hb dX4_clear_6 (by decide) ?_
  refine va_put (D := G.1) (ci := 4) (v := .int (nI 0)) (ty := .int) (C := RX4) (T := TX4) (N := 6) hx hb hts (by decide +kernel) tyX4 tyX4_ok nmX4 hown hK.1 hP hD hS 0 rfl rfl 3 (by decide) (hts (.fieldLink RX4 24 "PriceIndexCalculator$QuotationText" "length" "I") (by decide +kernel)) (fun _ h9 => h9) rfl (by decide +kernel) rfl rfl (Nat.le_of_ble_eq_true rfl) dX4_clear_7 (fun H locs hP hD hS => ?_)
  have hP : va_P G.1 vwCl ([(tx 0, .inr (4, [.ref (tx 1), .ref (tx 2), .ref (tx 3), .int (nI 0), .ref (tx 4), .int (nI pz)])), (tx 1, .inl (G.2 0, 10, .inl ri)), (tx 2, .inl (G.2 0, 10, .inl rm)), (tx 3, .inl (G.2 0, 10, .inl rp)), (tx 4, .inl (G.2 0, 60, .inl ch))]) H := hP
  have hD : va_D A ([(tx 0, .inr (4, [.ref (tx 1), .ref (tx 2), .ref (tx 3), .int (nI 0), .ref (tx 4), .int (nI pz)])), (tx 1, .inl (G.2 0, 10, .inl ri)), (tx 2, .inl (G.2 0, 10, .inl rm)), (tx 3, .inl (G.2 0, 10, .inl rp)), (tx 4, .inl (G.2 0, 60, .inl ch))]) := hD
  refine lv_iload_n hx hb dX4_clear_10 rfl (lv_at hl 0 rfl) ?_
  have hP9 := hP
  exact W.iret (v := nI L) hx hb hr (fun t ht hW => ⟨⟨_, (), rfl, rfl, bM_end ht hP9⟩, hS.F ht⟩) hS.2.2 dX4_clear_11
set_option maxHeartbeats 4000000 in
set_option maxRecDepth 100000 in
theorem metX4_isDigit (l : Launch) (G : GG) (q : Nat) (hq : q < 2 ^ 31) : Met l yX4_isDigit wsX4_isDigit ({ frames := 0, cells := 0, slots := 0, locals := 0 }) (pR G ([]) [.int (nI q)]) (vp_Si (fun r => r = bI (isDg q))) 0 0 (fun _ => False) := by
  refine Met.ofW (cc := cX4_isDigit) (maxL := 1) (ret := (some .boolean)) (by decide) rfl ?_
  intro p e s m args below meth c s₁ B hml hv
  obtain ⟨rfl, hK, hP⟩ := hv
  have hx := B.exec
  have hb := B.bytes
  have hr := B.returns
  have hlocks := B.notSynchronized
  have hts := atoms_spec (ws := wsX4_isDigit) B.pre
  have hown : s.vm.findClass RX4 = some m.cls := findClass_of_methodNamed B.named
  have hl := lv_entry ([.int (nI q)]) (n := 1) (Nat.le_of_ble_eq_true rfl)
  rw [lg_entry_eq]
  generalize (lg_sl ([.int (nI q)]) ++ List.replicate (1 - (lg_sl ([.int (nI q)])).length) Slot.unset).toArray = ls at hl ⊢
  have hl : lv_has ls 1 [(0, .int (nI q))] := hl
  refine lv_iload_n hx hb dX4_isDigit_0 rfl (lv_at hl 0 rfl) ?_
  refine lv_bipush (v := nI 48) hx hb dX4_isDigit_1 (by decide) ?_
  refine n_icmp_lt (x := q) (y := 48) (tgt := 16) hx hb (by omega) (by omega) dX4_isDigit_3 (by decide) (fun c_1 => ?_) (fun c_1 => ?_)
  · refine lv_iconst (v := nI 0) hx hb dX4_isDigit_16 (by decide) ?_
    exact W.zret (v := nI 0) (ty := .boolean) hx hb hr (by rfl) (fun t ht hW => ⟨_, rfl, ((congrArg bI (by unfold isDg; simp; omega : isDg q = false)).symm), ht⟩) (fun q hq => absurd hq List.not_mem_nil) dX4_isDigit_17
  · refine lv_iload_n hx hb dX4_isDigit_6 rfl (lv_at hl 0 rfl) ?_
    refine lv_bipush (v := nI 57) hx hb dX4_isDigit_7 (by decide) ?_
    refine n_icmp_gt (x := q) (y := 57) (tgt := 16) hx hb (by omega) (by omega) dX4_isDigit_9 (by decide) (fun c_2 => ?_) (fun c_2 => ?_)
    · refine lv_iconst (v := nI 0) hx hb dX4_isDigit_16 (by decide) ?_
      exact W.zret (v := nI 0) (ty := .boolean) hx hb hr (by rfl) (fun t ht hW => ⟨_, rfl, ((congrArg bI (by unfold isDg; simp; omega : isDg q = false)).symm), ht⟩) (fun q hq => absurd hq List.not_mem_nil) dX4_isDigit_17
    · refine lv_iconst (v := nI 1) hx hb dX4_isDigit_12 (by decide) ?_
      refine lv_goto (tgt := 17) hx hb dX4_isDigit_13 (by decide) ?_
      exact W.zret (v := nI 1) (ty := .boolean) hx hb hr (by rfl) (fun t ht hW => ⟨_, rfl, ((congrArg bI (by unfold isDg; simp; omega : isDg q = true)).symm), ht⟩) (fun q hq => absurd hq List.not_mem_nil) dX4_isDigit_17
set_option maxHeartbeats 4000000 in
set_option maxRecDepth 100000 in
/-- QuotationText.hasNumberForm -/
theorem metX4_hasNumberForm (l : Launch) (G : GG) (tx : Nat → Nat) (L pz : Nat) (ri rm rp ch : Nat → Int32) (c9 : Nat → Nat) (hL : L ≤ 60) (hch : chI ch c9 L) (q n : Nat) (hn : n < 2 ^ 31) (hq : 1 < n → q < L) : Met l yX4_hasNumberForm wsX4_hasNumberForm ({ frames := 0, cells := 0, slots := 0, locals := 0 }) (pR G (xtc G tx L pz ri rm rp ch) [.ref (tx 0), .int (nI q), .int (nI n)]) (vp_Si (fun r => r = bI (nFm c9 q n))) 0 0 (fun _ => False) := by
  refine Met.ofW (cc := cX4_hasNumberForm) (maxL := 3) (ret := (some .boolean)) (by decide) rfl ?_
  intro p e s m args below meth c s₁ B hml hv
  obtain ⟨rfl, hK, hP⟩ := hv
  have hx := B.exec
  have hb := B.bytes
  have hr := B.returns
  have hlocks := B.notSynchronized
  have hts := atoms_spec (ws := wsX4_hasNumberForm) B.pre
  have hown : s.vm.findClass RX4 = some m.cls := findClass_of_methodNamed B.named
  have hl := lv_entry ([.ref (tx 0), .int (nI q), .int (nI n)]) (n := 3) (Nat.le_of_ble_eq_true rfl)
  rw [lg_entry_eq]
  generalize (lg_sl ([.ref (tx 0), .int (nI q), .int (nI n)]) ++ List.replicate (3 - (lg_sl ([.ref (tx 0), .int (nI q), .int (nI n)])).length) Slot.unset).toArray = ls at hl ⊢
  have hl : lv_has ls 3 [(0, .ref (tx 0)), (1, .int (nI q)), (2, .int (nI n))] := hl
  have hP : va_P G.1 vwCl ([(tx 0, .inr (4, [.ref (tx 1), .ref (tx 2), .ref (tx 3), .int (nI L), .ref (tx 4), .int (nI pz)])), (tx 1, .inl (G.2 0, 10, .inl ri)), (tx 2, .inl (G.2 0, 10, .inl rm)), (tx 3, .inl (G.2 0, 10, .inl rp)), (tx 4, .inl (G.2 0, 60, .inl ch))]) s.heap := hP
  refine lv_iload_n hx hb dX4_hasNumberForm_0 rfl (lv_at hl 2 rfl) ?_
  refine lv_iconst (v := nI 1) hx hb dX4_hasNumberForm_1 (by decide) ?_
  refine n_icmp_ne (x := n) (y := 1) (tgt := 7) hx hb (by omega) (by omega) dX4_hasNumberForm_2 (by decide) (fun c_1 => ?_) (fun c_1 => ?_)
  · refine lv_iload_n hx hb dX4_hasNumberForm_7 rfl (lv_at hl 2 rfl) ?_
    refine lv_iconst (v := nI 1) hx hb dX4_hasNumberForm_8 (by decide) ?_
    refine n_icmp_le (x := n) (y := 1) (tgt := 32) hx hb (by omega) (by omega) dX4_hasNumberForm_9 (by decide) (fun c_2 => ?_) (fun c_2 => ?_)
    · refine lv_iconst (v := nI 0) hx hb dX4_hasNumberForm_32 (by decide) ?_
      exact W.zret (v := nI 0) (ty := .boolean) hx hb hr (by rfl) (fun t ht hW => ⟨_, rfl, ((congrArg bI (by unfold nFm; simp; omega : nFm c9 q n = false)).symm), ht⟩) (fun q hq => absurd hq List.not_mem_nil) dX4_hasNumberForm_33
    · refine lv_iload_n hx hb dX4_hasNumberForm_12 rfl (lv_at hl 2 rfl) ?_
      refine lv_iconst (v := nI 5) hx hb dX4_hasNumberForm_13 (by decide) ?_
      refine n_icmp_gt (x := n) (y := 5) (tgt := 32) hx hb (by omega) (by omega) dX4_hasNumberForm_14 (by decide) (fun c_3 => ?_) (fun c_3 => ?_)
      · refine lv_iconst (v := nI 0) hx hb dX4_hasNumberForm_32 (by decide) ?_
        exact W.zret (v := nI 0) (ty := .boolean) hx hb hr (by rfl) (fun t ht hW => ⟨_, rfl, ((congrArg bI (by unfold nFm; simp; omega : nFm c9 q n = false)).symm), ht⟩) (fun q hq => absurd hq List.not_mem_nil) dX4_hasNumberForm_33
      · have hq1 := hq (by omega)
        have hq2 := (hch q hq1).2
        refine lv_aload_n hx hb dX4_hasNumberForm_17 rfl (lv_at hl 0 rfl) ?_
        refine va_get (D := G.1) (ci := 4) (v := .ref (tx 4)) (C := RX4) (T := TX4) (N := 6) hx hb hts (by decide +kernel) hown hK.1 hP 0 rfl rfl 4 (by decide) (hts (.fieldLink RX4 21 "PriceIndexCalculator$QuotationText" "characters" "[I") (by decide +kernel)) (fun _ h9 => h9) rfl dX4_hasNumberForm_18 ?_
        refine lv_iload_n hx hb dX4_hasNumberForm_21 rfl (lv_at hl 1 rfl) ?_
        refine n_iald hx hb hK.1 hP 4 0 rfl rfl (j := q) (by omega) (by omega) dX4_hasNumberForm_22 ?_
        refine eq_i (y := nI (c9 q)) ((hch q hq1).1) ?_
        refine lv_bipush (v := nI 48) hx hb dX4_hasNumberForm_23 (by decide) ?_
        refine n_icmp_eq (x := c9 q) (y := 48) (tgt := 32) hx hb (by omega) (by omega) dX4_hasNumberForm_25 (by decide) (fun c_4 => ?_) (fun c_4 => ?_)
        · refine lv_iconst (v := nI 0) hx hb dX4_hasNumberForm_32 (by decide) ?_
          exact W.zret (v := nI 0) (ty := .boolean) hx hb hr (by rfl) (fun t ht hW => ⟨_, rfl, ((congrArg bI (by unfold nFm; simp; omega : nFm c9 q n = false)).symm), ht⟩) (fun q hq => absurd hq List.not_mem_nil) dX4_hasNumberForm_33
        · refine lv_iconst (v := nI 1) hx hb dX4_hasNumberForm_28 (by decide) ?_
          refine lv_goto (tgt := 33) hx hb dX4_hasNumberForm_29 (by decide) ?_
          exact W.zret (v := nI 1) (ty := .boolean) hx hb hr (by rfl) (fun t ht hW => ⟨_, rfl, ((congrArg bI (by unfold nFm; simp; omega : nFm c9 q n = true)).symm), ht⟩) (fun q hq => absurd hq List.not_mem_nil) dX4_hasNumberForm_33
  · refine lv_iconst (v := nI 1) hx hb dX4_hasNumberForm_5 (by decide) ?_
    exact W.zret (v := nI 1) (ty := .boolean) hx hb hr (by rfl) (fun t ht hW => ⟨_, rfl, ((congrArg bI (by unfold nFm; simp; omega : nFm c9 q n = true)).symm), ht⟩) (fun q hq => absurd hq List.not_mem_nil) dX4_hasNumberForm_6
set_option maxHeartbeats 4000000 in
set_option maxRecDepth 100000 in
/-- QuotationText.skip -/
theorem metX4_skip (l : Launch) (G : GG) (tx : Nat → Nat) (L pz : Nat) (ri rm rp ch : Nat → Int32) (c9 : Nat → Nat) (hL : L ≤ 60) (hch : chI ch c9 L) (q : Nat) (hq : q < 2 ^ 31) (hz : pz ≤ L) : Met l yX4_skip wsX4_skip ({ frames := 0, cells := 0, slots := 0, locals := 0 }) (pM G (xtc G tx L pz ri rm rp ch) [.ref (tx 0), .int (nI q)]) (va_Qi (fun r (_ : Unit) => r = bI (skp c9 L q pz)) (bM G (fun _ : Unit => xtc G tx L (skP c9 L q pz) ri rm rp ch)) (adr (xtc G tx L pz ri rm rp ch))) 0 0 (adr (xtc G tx L pz ri rm rp ch)) := by
  refine Met.ofW (cc := cX4_skip) (maxL := 2) (ret := (some .boolean)) (by decide) rfl ?_
  intro p e s m args below meth c s₁ B hml hv
  obtain ⟨rfl, hK, hP, hD0⟩ := hv
  have hx := B.exec
  have hb := B.bytes
  have hr := B.returns
  have hlocks := B.notSynchronized
  have hts := atoms_spec (ws := wsX4_skip) B.pre
  have hown : s.vm.findClass RX4 = some m.cls := findClass_of_methodNamed B.named
  have hD := hD0.own
  generalize hAe : adr (xtc G tx L pz ri rm rp ch) = A at hD ⊢
  have hS : va_S A s.heap s.heap [] := va_S.rf
  have hl := lv_entry ([.ref (tx 0), .int (nI q)]) (n := 2) (Nat.le_of_ble_eq_true rfl)
  rw [lg_entry_eq]
  generalize (lg_sl ([.ref (tx 0), .int (nI q)]) ++ List.replicate (2 - (lg_sl ([.ref (tx 0), .int (nI q)])).length) Slot.unset).toArray = ls at hl ⊢
  have hl : lv_has ls 2 [(0, .ref (tx 0)), (1, .int (nI q))] := hl
  have hP : va_P G.1 vwCl ([(tx 0, .inr (4, [.ref (tx 1), .ref (tx 2), .ref (tx 3), .int (nI L), .ref (tx 4), .int (nI pz)])), (tx 1, .inl (G.2 0, 10, .inl ri)), (tx 2, .inl (G.2 0, 10, .inl rm)), (tx 3, .inl (G.2 0, 10, .inl rp)), (tx 4, .inl (G.2 0, 60, .inl ch))]) s.heap := hP
  have hD : va_D A ([(tx 0, .inr (4, [.ref (tx 1), .ref (tx 2), .ref (tx 3), .int (nI L), .ref (tx 4), .int (nI pz)])), (tx 1, .inl (G.2 0, 10, .inl ri)), (tx 2, .inl (G.2 0, 10, .inl rm)), (tx 3, .inl (G.2 0, 10, .inl rp)), (tx 4, .inl (G.2 0, 60, .inl ch))]) := hD
  refine lv_aload_n hx hb dX4_skip_0 rfl (lv_at hl 0 rfl) ?_
  refine va_get (D := G.1) (ci := 4) (v := .int (nI pz)) (C := RX4) (T := TX4) (N := 6) hx hb hts (by decide +kernel) hown hK.1 hP 0 rfl rfl 5 (by decide) (hts (.fieldLink RX4 28 "PriceIndexCalculator$QuotationText" "position" "I") (by decide +kernel)) (fun _ h9 => h9) rfl dX4_skip_1 ?_
  refine lv_aload_n hx hb dX4_skip_4 rfl (lv_at hl 0 rfl) ?_
  refine va_get (D := G.1) (ci := 4) (v := .int (nI L)) (C := RX4) (T := TX4) (N := 6) hx hb hts (by decide +kernel) hown hK.1 hP 0 rfl rfl 3 (by decide) (hts (.fieldLink RX4 24 "PriceIndexCalculator$QuotationText" "length" "I") (by decide +kernel)) (fun _ h9 => h9) rfl dX4_skip_5 ?_
  refine n_icmp_ge (x := pz) (y := L) (tgt := 24) hx hb (by omega) (by omega) dX4_skip_8 (by decide) (fun c_1 => ?_) (fun c_1 => ?_)
  · refine lv_iconst (v := nI 0) hx hb dX4_skip_24 (by decide) ?_
    have hsk : skp c9 L q pz = false := by unfold skp; simp; omega
    have hP9 : va_P G.1 vwCl (xtc G tx L (skP c9 L q pz) ri rm rp ch) s.heap := by unfold skP; rw [hsk]; exact hP
    exact W.zret (v := nI 0) (ty := .boolean) hx hb hr (by rfl) (fun t ht hW => ⟨⟨_, (), rfl, ((congrArg bI (by unfold skp; simp; omega : skp c9 L q pz = false)).symm), bM_end ht hP9⟩, hS.F ht⟩) hS.2.2 dX4_skip_25
  · have hq2 := (hch pz (by omega)).2
    refine lv_aload_n hx hb dX4_skip_11 rfl (lv_at hl 0 rfl) ?_
    refine va_get (D := G.1) (ci := 4) (v := .ref (tx 4)) (C := RX4) (T := TX4) (N := 6) hx hb hts (by decide +kernel) hown hK.1 hP 0 rfl rfl 4 (by decide) (hts (.fieldLink RX4 21 "PriceIndexCalculator$QuotationText" "characters" "[I") (by decide +kernel)) (fun _ h9 => h9) rfl dX4_skip_12 ?_
    refine lv_aload_n hx hb dX4_skip_15 rfl (lv_at hl 0 rfl) ?_
    refine va_get (D := G.1) (ci := 4) (v := .int (nI pz)) (C := RX4) (T := TX4) (N := 6) hx hb hts (by decide +kernel) hown hK.1 hP 0 rfl rfl 5 (by decide) (hts (.fieldLink RX4 28 "PriceIndexCalculator$QuotationText" "position" "I") (by decide +kernel)) (fun _ h9 => h9) rfl dX4_skip_16 ?_
    refine n_iald hx hb hK.1 hP 4 0 rfl rfl (j := pz) (by omega) (by omega) dX4_skip_19 ?_
    refine eq_i (y := nI (c9 pz)) ((hch pz (by omega)).1) ?_
    refine lv_iload_n hx hb dX4_skip_20 rfl (lv_at hl 1 rfl) ?_
    refine n_icmp_eq (x := c9 pz) (y := q) (tgt := 26) hx hb (by omega) (by omega) dX4_skip_21 (by decide) (fun c_2 => ?_) (fun c_2 => ?_)
    · refine lv_aload_n hx hb dX4_skip_26 rfl (lv_at hl 0 rfl) ?_
      refine lv_dup hx hb dX4_skip_27 rfl ?_
      refine va_get (D := G.1) (ci := 4) (v := .int (nI pz)) (C := RX4) (T := TX4) (N := 6) hx hb hts (by decide +kernel) hown hK.1 hP 0 rfl rfl 5 (by decide) (hts (.fieldLink RX4 28 "PriceIndexCalculator$QuotationText" "position" "I") (by decide +kernel)) (fun _ h9 => h9) rfl dX4_skip_28 ?_
      refine lv_iconst (v := nI 1) hx hb dX4_skip_31 (by decide) ?_
      refine n_add hx hb dX4_skip_32 ?_
      refine va_put (D := G.1) (ci := 4) (v := .int (nI (pz + 1))) (ty := .int) (C := RX4) (T := TX4) (N := 6) hx hb hts (by decide +kernel) tyX4 tyX4_ok nmX4 hown hK.1 hP hD hS 0 rfl rfl 5 (by decide) (hts (.fieldLink RX4 28 "PriceIndexCalculator$QuotationText" "position" "I") (by decide +kernel)) (fun _ h9 => h9) rfl (by decide +kernel) rfl rfl (Nat.le_of_ble_eq_true rfl) dX4_skip_33 (fun H locs hP hD hS => ?_)
      have hP : va_P G.1 vwCl ([(tx 0, .inr (4, [.ref (tx 1), .ref (tx 2), .ref (tx 3), .int (nI L), .ref (tx 4), .int (nI (pz + 1))])), (tx 1, .inl (G.2 0, 10, .inl ri)), (tx 2, .inl (G.2 0, 10, .inl rm)), (tx 3, .inl (G.2 0, 10, .inl rp)), (tx 4, .inl (G.2 0, 60, .inl ch))]) H := hP
      have hD : va_D A ([(tx 0, .inr (4, [.ref (tx 1), .ref (tx 2), .ref (tx 3), .int (nI L), .ref (tx 4), .int (nI (pz + 1))])), (tx 1, .inl (G.2 0, 10, .inl ri)), (tx 2, .inl (G.2 0, 10, .inl rm)), (tx 3, .inl (G.2 0, 10, .inl rp)), (tx 4, .inl (G.2 0, 60, .inl ch))]) := hD
      refine lv_iconst (v := nI 1) hx hb dX4_skip_36 (by decide) ?_
      have hsk : skp c9 L q pz = true := by unfold skp; simp; omega
      have hP9 : va_P G.1 vwCl (xtc G tx L (skP c9 L q pz) ri rm rp ch) H := by unfold skP; rw [hsk]; exact hP
      exact W.zret (v := nI 1) (ty := .boolean) hx hb hr (by rfl) (fun t ht hW => ⟨⟨_, (), rfl, ((congrArg bI (by unfold skp; simp; omega : skp c9 L q pz = true)).symm), bM_end ht hP9⟩, hS.F ht⟩) hS.2.2 dX4_skip_37
    · refine lv_iconst (v := nI 0) hx hb dX4_skip_24 (by decide) ?_
      have hsk : skp c9 L q pz = false := by unfold skp; simp; omega
      have hP9 : va_P G.1 vwCl (xtc G tx L (skP c9 L q pz) ri rm rp ch) s.heap := by unfold skP; rw [hsk]; exact hP
      exact W.zret (v := nI 0) (ty := .boolean) hx hb hr (by rfl) (fun t ht hW => ⟨⟨_, (), rfl, ((congrArg bI (by unfold skp; simp; omega : skp c9 L q pz = false)).symm), bM_end ht hP9⟩, hS.F ht⟩) hS.2.2 dX4_skip_25
set_option maxHeartbeats 4000000 in
set_option maxRecDepth 100000 in
/-- QuotationText.readNumber -/
theorem metX4_readNumber (l : Launch) (G : GG) (tx : Nat → Nat) (L pz : Nat) (ri rm rp ch : Nat → Int32) (c9 : Nat → Nat) (hL : L ≤ 60) (hch : chI ch c9 L) (g : Int32) (hz : pz ≤ L) : Met l yX4_readNumber wsX4_readNumber ({ frames := 1, cells := 0, slots := 0, locals := 30 }) (pM G (xtc G tx L pz ri rm rp ch) [.ref (tx 0), .int g]) (va_Qi (fun r (_ : Unit) => r = rnV c9 L g pz) (bM G (fun _ : Unit => xtc G tx L (rnP c9 L g pz) ri rm rp ch)) (adr (xtc G tx L pz ri rm rp ch))) 0 0 (adr (xtc G tx L pz ri rm rp ch)) := by
  refine Met.ofW (cc := cX4_readNumber) (maxL := 5) (ret := (some .int)) (by decide) rfl ?_
  intro p e s m args below meth c s₁ B hml hv
  obtain ⟨rfl, hK, hP, hD0⟩ := hv
  have hx := B.exec
  have hb := B.bytes
  have hr := B.returns
  have hlocks := B.notSynchronized
  have hts := atoms_spec (ws := wsX4_readNumber) B.pre
  have hown : s.vm.findClass RX4 = some m.cls := findClass_of_methodNamed B.named
  have hD := hD0.own
  generalize hAe : adr (xtc G tx L pz ri rm rp ch) = A at hD ⊢
  have hS : va_S A s.heap s.heap [] := va_S.rf
  have hl := lv_entry ([.ref (tx 0), .int g]) (n := 5) (Nat.le_of_ble_eq_true rfl)
  rw [lg_entry_eq]
  generalize (lg_sl ([.ref (tx 0), .int g]) ++ List.replicate (5 - (lg_sl ([.ref (tx 0), .int g])).length) Slot.unset).toArray = ls at hl ⊢
  have hl : lv_has ls 5 [(0, .ref (tx 0)), (1, .int g)] := hl
  have hP : va_P G.1 vwCl ([(tx 0, .inr (4, [.ref (tx 1), .ref (tx 2), .ref (tx 3), .int (nI L), .ref (tx 4), .int (nI pz)])), (tx 1, .inl (G.2 0, 10, .inl ri)), (tx 2, .inl (G.2 0, 10, .inl rm)), (tx 3, .inl (G.2 0, 10, .inl rp)), (tx 4, .inl (G.2 0, 60, .inl ch))]) s.heap := hP
  have hD : va_D A ([(tx 0, .inr (4, [.ref (tx 1), .ref (tx 2), .ref (tx 3), .int (nI L), .ref (tx 4), .int (nI pz)])), (tx 1, .inl (G.2 0, 10, .inl ri)), (tx 2, .inl (G.2 0, 10, .inl rm)), (tx 3, .inl (G.2 0, 10, .inl rp)), (tx 4, .inl (G.2 0, 60, .inl ch))]) := hD
  refine lv_aload_n hx hb dX4_readNumber_0 rfl (lv_at hl 0 rfl) ?_
  refine va_get (D := G.1) (ci := 4) (v := .int (nI pz)) (C := RX4) (T := TX4) (N := 6) hx hb hts (by decide +kernel) hown hK.1 hP 0 rfl rfl 5 (by decide) (hts (.fieldLink RX4 28 "PriceIndexCalculator$QuotationText" "position" "I") (by decide +kernel)) (fun _ h9 => h9) rfl dX4_readNumber_1 ?_
  refine lv_istore_n (lv' := [(2, .int (nI pz)), (0, .ref (tx 0)), (1, .int g)]) hx hb dX4_readNumber_4 rfl hl (by decide) rfl (fun ls hl => ?_)
  refine lv_iconst (v := nI 0) hx hb dX4_readNumber_5 (by decide) ?_
  refine lv_istore_n (lv' := [(3, .int (nI 0)), (2, .int (nI pz)), (0, .ref (tx 0)), (1, .int g)]) hx hb dX4_readNumber_6 rfl hl (by decide) rfl (fun ls hl => ?_)
  refine lpM (S := Nat) (L) (fun i u H locs => (pz ≤ i ∧ u = nVal c9 pz (min (i - pz) 5) ∧ ∀ j, pz ≤ j → j < i → isDg (c9 j) = true) ∧ va_P G.1 vwCl ([(tx 0, .inr (4, [.ref (tx 1), .ref (tx 2), .ref (tx 3), .int (nI L), .ref (tx 4), .int (nI i)])), (tx 1, .inl (G.2 0, 10, .inl ri)), (tx 2, .inl (G.2 0, 10, .inl rm)), (tx 3, .inl (G.2 0, 10, .inl rp)), (tx 4, .inl (G.2 0, 60, .inl ch))]) H ∧ va_D A ([(tx 0, .inr (4, [.ref (tx 1), .ref (tx 2), .ref (tx 3), .int (nI L), .ref (tx 4), .int (nI i)])), (tx 1, .inl (G.2 0, 10, .inl ri)), (tx 2, .inl (G.2 0, 10, .inl rm)), (tx 3, .inl (G.2 0, 10, .inl rp)), (tx 4, .inl (G.2 0, 60, .inl ch))]) ∧ va_S A s.heap H locs) (fun i u => [(0, .ref (tx 0)), (1, .int g), (2, .int (nI pz)), (3, .int (nI u))]) (fun u H locs ls hI0 hl => ?_) (fun i u H locs ls hi_3 hI0 hl ih_1 => ?_) (pz) 0 (by omega) ⟨⟨Nat.le_refl _, by rw [Nat.sub_self]; rfl, fun j a b => absurd b (by omega)⟩, hP, hD, hS⟩ (lv_sub hl [2, 3, 1, 0] rfl)
  · obtain ⟨v9, rfl⟩ : ∃ z, z = u := ⟨_, rfl⟩
    obtain ⟨hI_2, hP, hD, hS⟩ := hI0
    try dsimp only at hI_2
    have hl : lv_has ls 5 [(0, .ref (tx 0)), (1, .int g), (2, .int (nI pz)), (3, .int (nI v9))] := hl
    have hP : va_P G.1 vwCl ([(tx 0, .inr (4, [.ref (tx 1), .ref (tx 2), .ref (tx 3), .int (nI L), .ref (tx 4), .int (nI L)])), (tx 1, .inl (G.2 0, 10, .inl ri)), (tx 2, .inl (G.2 0, 10, .inl rm)), (tx 3, .inl (G.2 0, 10, .inl rp)), (tx 4, .inl (G.2 0, 60, .inl ch))]) H := hP
    have hD : va_D A ([(tx 0, .inr (4, [.ref (tx 1), .ref (tx 2), .ref (tx 3), .int (nI L), .ref (tx 4), .int (nI L)])), (tx 1, .inl (G.2 0, 10, .inl ri)), (tx 2, .inl (G.2 0, 10, .inl rm)), (tx 3, .inl (G.2 0, 10, .inl rp)), (tx 4, .inl (G.2 0, 60, .inl ch))]) := hD
    have hpi := hI_2.1
    refine lv_aload_n hx hb dX4_readNumber_7 rfl (lv_at hl 0 rfl) ?_
    refine va_get (D := G.1) (ci := 4) (v := .int (nI L)) (C := RX4) (T := TX4) (N := 6) hx hb hts (by decide +kernel) hown hK.1 hP 0 rfl rfl 5 (by decide) (hts (.fieldLink RX4 28 "PriceIndexCalculator$QuotationText" "position" "I") (by decide +kernel)) (fun _ h9 => h9) rfl dX4_readNumber_8 ?_
    refine lv_aload_n hx hb dX4_readNumber_11 rfl (lv_at hl 0 rfl) ?_
    refine va_get (D := G.1) (ci := 4) (v := .int (nI L)) (C := RX4) (T := TX4) (N := 6) hx hb hts (by decide +kernel) hown hK.1 hP 0 rfl rfl 3 (by decide) (hts (.fieldLink RX4 24 "PriceIndexCalculator$QuotationText" "length" "I") (by decide +kernel)) (fun _ h9 => h9) rfl dX4_readNumber_12 ?_
    refine n_icmp_ge (x := L) (y := L) (tgt := 74) hx hb (by omega) (by omega) dX4_readNumber_15 (by decide) (fun c_4 => ?_) (fun c_4 => ?_)
    · have hq : nEnd c9 L pz = L := nEnd_eq hI_2.1 (by omega) hI_2.2.2 (Or.inl rfl)
      have hv : nV c9 L pz = v9 := by unfold nV; rw [hq]; exact hI_2.2.1.symm
      refine lv_aload_n hx hb dX4_readNumber_74 rfl (lv_at hl 0 rfl) ?_
      refine va_get (D := G.1) (ci := 4) (v := .int (nI L)) (C := RX4) (T := TX4) (N := 6) hx hb hts (by decide +kernel) hown hK.1 hP 0 rfl rfl 5 (by decide) (hts (.fieldLink RX4 28 "PriceIndexCalculator$QuotationText" "position" "I") (by decide +kernel)) (fun _ h9 => h9) rfl dX4_readNumber_75 ?_
      refine lv_iload_n hx hb dX4_readNumber_78 rfl (lv_at hl 2 rfl) ?_
      refine n_sub hx hb (by omega) dX4_readNumber_79 ?_
      refine lv_istore (lv' := [(4, .int (nI (L - pz))), (0, .ref (tx 0)), (1, .int g), (2, .int (nI pz)), (3, .int (nI v9))]) hx hb dX4_readNumber_80 hl (by decide) rfl (fun ls hl => ?_)
      refine lv_aload_n hx hb dX4_readNumber_82 rfl (lv_at hl 1 rfl) ?_
      refine lv_iload_n hx hb dX4_readNumber_83 rfl (lv_at hl 3 rfl) ?_
      refine lv_iload hx hb dX4_readNumber_84 (lv_at hl 0 rfl) ?_
      refine cr_i (va_runV (As := [.int (nI pz), .int (nI (L - pz))]) (rest := []) ⟨hx, hb, hml, hown, hts⟩ (metX4_hasNumberForm l G tx L L ri rm rp ch c9 hL hch pz (L - pz) (by omega) (fun _ => by omega)) (cwV 2 hts gX4_readNumber_X4_hasNumberForm rfl rfl rfl (by decide +kernel) ⟨Nat.le_of_ble_eq_true rfl, Nat.le_of_ble_eq_true rfl⟩) (pR_V (w := xtc G tx L L ri rm rp ch) (q0 := 0) hK hP rfl rfl) rfl rfl hl.1 rfl (lv_room (Nat.le_of_ble_eq_true rfl)) dX4_readNumber_86 ⟨Nat.zero_le _, Nat.zero_le _⟩) (fun r_5 hr_6 => ?_)
      subst hr_6
      refine nb_if_eq (B := nFm c9 pz (L - pz)) (tgt := 99) hx hb dX4_readNumber_89 (by decide) (fun c_7 => ?_) (fun c_7 => ?_)
      · refine lv_aload_n hx hb dX4_readNumber_99 rfl (lv_at hl 1 rfl) ?_
        refine lv_iload_n hx hb dX4_readNumber_100 rfl (lv_at hl 3 rfl) ?_
        refine va_put (D := G.1) (ci := 4) (v := .int (nI pz)) (ty := .int) (C := RX4) (T := TX4) (N := 6) hx hb hts (by decide +kernel) tyX4 tyX4_ok nmX4 hown hK.1 hP hD hS 0 rfl rfl 5 (by decide) (hts (.fieldLink RX4 28 "PriceIndexCalculator$QuotationText" "position" "I") (by decide +kernel)) (fun _ h9 => h9) rfl (by decide +kernel) rfl rfl (Nat.le_of_ble_eq_true rfl) dX4_readNumber_101 (fun H locs hP hD hS => ?_)
        have hP : va_P G.1 vwCl ([(tx 0, .inr (4, [.ref (tx 1), .ref (tx 2), .ref (tx 3), .int (nI L), .ref (tx 4), .int (nI pz)])), (tx 1, .inl (G.2 0, 10, .inl ri)), (tx 2, .inl (G.2 0, 10, .inl rm)), (tx 3, .inl (G.2 0, 10, .inl rp)), (tx 4, .inl (G.2 0, 60, .inl ch))]) H := hP
        have hD : va_D A ([(tx 0, .inr (4, [.ref (tx 1), .ref (tx 2), .ref (tx 3), .int (nI L), .ref (tx 4), .int (nI pz)])), (tx 1, .inl (G.2 0, 10, .inl ri)), (tx 2, .inl (G.2 0, 10, .inl rm)), (tx 3, .inl (G.2 0, 10, .inl rp)), (tx 4, .inl (G.2 0, 60, .inl ch))]) := hD
        refine lv_iconst (v := (-1)) hx hb dX4_readNumber_104 (by decide) ?_
        have hok : nOk c9 L g pz = false := by unfold nOk; rw [hq, c_7]; rfl
        have hP9 : va_P G.1 vwCl (xtc G tx L (rnP c9 L g pz) ri rm rp ch) H := by unfold rnP; rw [hok]; exact hP
        exact W.iret (v := (-1)) hx hb hr (fun t ht hW => ⟨⟨_, (), rfl, (by unfold rnV; rw [hok]; rfl), bM_end ht hP9⟩, hS.F ht⟩) hS.2.2 dX4_readNumber_105
      · refine lv_iload_n hx hb dX4_readNumber_92 rfl (lv_at hl 4 rfl) ?_
        refine lv_iload_n hx hb dX4_readNumber_93 rfl (lv_at hl 2 rfl) ?_
        refine lv_icmp_gt (tgt := 99) hx hb dX4_readNumber_94 (by decide) (fun c_8 => ?_) (fun c_8 => ?_)
        · refine lv_aload_n hx hb dX4_readNumber_99 rfl (lv_at hl 1 rfl) ?_
          refine lv_iload_n hx hb dX4_readNumber_100 rfl (lv_at hl 3 rfl) ?_
          refine va_put (D := G.1) (ci := 4) (v := .int (nI pz)) (ty := .int) (C := RX4) (T := TX4) (N := 6) hx hb hts (by decide +kernel) tyX4 tyX4_ok nmX4 hown hK.1 hP hD hS 0 rfl rfl 5 (by decide) (hts (.fieldLink RX4 28 "PriceIndexCalculator$QuotationText" "position" "I") (by decide +kernel)) (fun _ h9 => h9) rfl (by decide +kernel) rfl rfl (Nat.le_of_ble_eq_true rfl) dX4_readNumber_101 (fun H locs hP hD hS => ?_)
          have hP : va_P G.1 vwCl ([(tx 0, .inr (4, [.ref (tx 1), .ref (tx 2), .ref (tx 3), .int (nI L), .ref (tx 4), .int (nI pz)])), (tx 1, .inl (G.2 0, 10, .inl ri)), (tx 2, .inl (G.2 0, 10, .inl rm)), (tx 3, .inl (G.2 0, 10, .inl rp)), (tx 4, .inl (G.2 0, 60, .inl ch))]) H := hP
          have hD : va_D A ([(tx 0, .inr (4, [.ref (tx 1), .ref (tx 2), .ref (tx 3), .int (nI L), .ref (tx 4), .int (nI pz)])), (tx 1, .inl (G.2 0, 10, .inl ri)), (tx 2, .inl (G.2 0, 10, .inl rm)), (tx 3, .inl (G.2 0, 10, .inl rp)), (tx 4, .inl (G.2 0, 60, .inl ch))]) := hD
          refine lv_iconst (v := (-1)) hx hb dX4_readNumber_104 (by decide) ?_
          have hok : nOk c9 L g pz = false := by unfold nOk; rw [hq, hv, c_7]; simpa using c_8
          have hP9 : va_P G.1 vwCl (xtc G tx L (rnP c9 L g pz) ri rm rp ch) H := by unfold rnP; rw [hok]; exact hP
          exact W.iret (v := (-1)) hx hb hr (fun t ht hW => ⟨⟨_, (), rfl, (by unfold rnV; rw [hok]; rfl), bM_end ht hP9⟩, hS.F ht⟩) hS.2.2 dX4_readNumber_105
        · refine lv_iload_n hx hb dX4_readNumber_97 rfl (lv_at hl 4 rfl) ?_
          have hok : nOk c9 L g pz = true := by unfold nOk; rw [hq, hv, c_7]; simpa using c_8
          have hP9 : va_P G.1 vwCl (xtc G tx L (rnP c9 L g pz) ri rm rp ch) H := by unfold rnP; rw [hok]; rw [hq]; exact hP
          exact W.iret (v := nI v9) hx hb hr (fun t ht hW => ⟨⟨_, (), rfl, (by unfold rnV; rw [hok]; exact congrArg nI hv.symm), bM_end ht hP9⟩, hS.F ht⟩) hS.2.2 dX4_readNumber_98
    · exact absurd c_4 (by omega)
  · obtain ⟨v9, rfl⟩ : ∃ z, z = u := ⟨_, rfl⟩
    obtain ⟨hI_2, hP, hD, hS⟩ := hI0
    try dsimp only at hI_2
    have hl : lv_has ls 5 [(0, .ref (tx 0)), (1, .int g), (2, .int (nI pz)), (3, .int (nI v9))] := hl
    have hP : va_P G.1 vwCl ([(tx 0, .inr (4, [.ref (tx 1), .ref (tx 2), .ref (tx 3), .int (nI L), .ref (tx 4), .int (nI i)])), (tx 1, .inl (G.2 0, 10, .inl ri)), (tx 2, .inl (G.2 0, 10, .inl rm)), (tx 3, .inl (G.2 0, 10, .inl rp)), (tx 4, .inl (G.2 0, 60, .inl ch))]) H := hP
    have hD : va_D A ([(tx 0, .inr (4, [.ref (tx 1), .ref (tx 2), .ref (tx 3), .int (nI L), .ref (tx 4), .int (nI i)])), (tx 1, .inl (G.2 0, 10, .inl ri)), (tx 2, .inl (G.2 0, 10, .inl rm)), (tx 3, .inl (G.2 0, 10, .inl rp)), (tx 4, .inl (G.2 0, 60, .inl ch))]) := hD
    have hpi := hI_2.1
    have hc9 := (hch i (by omega)).2
    refine lv_aload_n hx hb dX4_readNumber_7 rfl (lv_at hl 0 rfl) ?_
    refine va_get (D := G.1) (ci := 4) (v := .int (nI i)) (C := RX4) (T := TX4) (N := 6) hx hb hts (by decide +kernel) hown hK.1 hP 0 rfl rfl 5 (by decide) (hts (.fieldLink RX4 28 "PriceIndexCalculator$QuotationText" "position" "I") (by decide +kernel)) (fun _ h9 => h9) rfl dX4_readNumber_8 ?_
    refine lv_aload_n hx hb dX4_readNumber_11 rfl (lv_at hl 0 rfl) ?_
    refine va_get (D := G.1) (ci := 4) (v := .int (nI L)) (C := RX4) (T := TX4) (N := 6) hx hb hts (by decide +kernel) hown hK.1 hP 0 rfl rfl 3 (by decide) (hts (.fieldLink RX4 24 "PriceIndexCalculator$QuotationText" "length" "I") (by decide +kernel)) (fun _ h9 => h9) rfl dX4_readNumber_12 ?_
    refine n_icmp_ge (x := i) (y := L) (tgt := 74) hx hb (by omega) (by omega) dX4_readNumber_15 (by decide) (fun c_9 => ?_) (fun c_9 => ?_)
    · exact absurd c_9 (by omega)
    · refine lv_aload_n hx hb dX4_readNumber_18 rfl (lv_at hl 0 rfl) ?_
      refine va_get (D := G.1) (ci := 4) (v := .ref (tx 4)) (C := RX4) (T := TX4) (N := 6) hx hb hts (by decide +kernel) hown hK.1 hP 0 rfl rfl 4 (by decide) (hts (.fieldLink RX4 21 "PriceIndexCalculator$QuotationText" "characters" "[I") (by decide +kernel)) (fun _ h9 => h9) rfl dX4_readNumber_19 ?_
      refine lv_aload_n hx hb dX4_readNumber_22 rfl (lv_at hl 0 rfl) ?_
      refine va_get (D := G.1) (ci := 4) (v := .int (nI i)) (C := RX4) (T := TX4) (N := 6) hx hb hts (by decide +kernel) hown hK.1 hP 0 rfl rfl 5 (by decide) (hts (.fieldLink RX4 28 "PriceIndexCalculator$QuotationText" "position" "I") (by decide +kernel)) (fun _ h9 => h9) rfl dX4_readNumber_23 ?_
      refine n_iald hx hb hK.1 hP 4 0 rfl rfl (j := i) (by omega) (by omega) dX4_readNumber_26 ?_
      refine eq_i (y := nI (c9 i)) ((hch i (by omega)).1) ?_
      refine cr_i (va_runS (As := [.int (nI (c9 i))]) (rest := []) ⟨hx, hb, hml, hown, hts⟩ (metX4_isDigit l G (c9 i) (by omega)) (va_cwS 1 hts gX4_readNumber_X4_isDigit rfl rfl rfl (by decide +kernel) ⟨Nat.le_of_ble_eq_true rfl, Nat.le_of_ble_eq_true rfl⟩) (pR_S hK (va_P_nil _ _ _)) rfl rfl hl.1 rfl (lv_room (Nat.le_of_ble_eq_true rfl)) dX4_readNumber_27 ⟨Nat.zero_le _, Nat.zero_le _⟩) (fun r_10 hr_11 => ?_)
      subst hr_11
      refine nb_if_eq (B := isDg (c9 i)) (tgt := 74) hx hb dX4_readNumber_30 (by decide) (fun c_12 => ?_) (fun c_12 => ?_)
      · have hq : nEnd c9 L pz = i := nEnd_eq hI_2.1 (by omega) hI_2.2.2 (Or.inr c_12)
        have hv : nV c9 L pz = v9 := by unfold nV; rw [hq]; exact hI_2.2.1.symm
        refine lv_aload_n hx hb dX4_readNumber_74 rfl (lv_at hl 0 rfl) ?_
        refine va_get (D := G.1) (ci := 4) (v := .int (nI i)) (C := RX4) (T := TX4) (N := 6) hx hb hts (by decide +kernel) hown hK.1 hP 0 rfl rfl 5 (by decide) (hts (.fieldLink RX4 28 "PriceIndexCalculator$QuotationText" "position" "I") (by decide +kernel)) (fun _ h9 => h9) rfl dX4_readNumber_75 ?_
        refine lv_iload_n hx hb dX4_readNumber_78 rfl (lv_at hl 2 rfl) ?_
        refine n_sub hx hb (by omega) dX4_readNumber_79 ?_
        refine lv_istore (lv' := [(4, .int (nI (i - pz))), (0, .ref (tx 0)), (1, .int g), (2, .int (nI pz)), (3, .int (nI v9))]) hx hb dX4_readNumber_80 hl (by decide) rfl (fun ls hl => ?_)
        refine lv_aload_n hx hb dX4_readNumber_82 rfl (lv_at hl 1 rfl) ?_
        refine lv_iload_n hx hb dX4_readNumber_83 rfl (lv_at hl 3 rfl) ?_
        refine lv_iload hx hb dX4_readNumber_84 (lv_at hl 0 rfl) ?_
        refine cr_i (va_runV (As := [.int (nI pz), .int (nI (i - pz))]) (rest := []) ⟨hx, hb, hml, hown, hts⟩ (metX4_hasNumberForm l G tx L i ri rm rp ch c9 hL hch pz (i - pz) (by omega) (fun _ => by omega)) (cwV 2 hts gX4_readNumber_X4_hasNumberForm rfl rfl rfl (by decide +kernel) ⟨Nat.le_of_ble_eq_true rfl, Nat.le_of_ble_eq_true rfl⟩) (pR_V (w := xtc G tx L i ri rm rp ch) (q0 := 0) hK hP rfl rfl) rfl rfl hl.1 rfl (lv_room (Nat.le_of_ble_eq_true rfl)) dX4_readNumber_86 ⟨Nat.zero_le _, Nat.zero_le _⟩) (fun r_13 hr_14 => ?_)
        subst hr_14
        refine nb_if_eq (B := nFm c9 pz (i - pz)) (tgt := 99) hx hb dX4_readNumber_89 (by decide) (fun c_15 => ?_) (fun c_15 => ?_)
        · refine lv_aload_n hx hb dX4_readNumber_99 rfl (lv_at hl 1 rfl) ?_
          refine lv_iload_n hx hb dX4_readNumber_100 rfl (lv_at hl 3 rfl) ?_
          refine va_put (D := G.1) (ci := 4) (v := .int (nI pz)) (ty := .int) (C := RX4) (T := TX4) (N := 6) hx hb hts (by decide +kernel) tyX4 tyX4_ok nmX4 hown hK.1 hP hD hS 0 rfl rfl 5 (by decide) (hts (.fieldLink RX4 28 "PriceIndexCalculator$QuotationText" "position" "I") (by decide +kernel)) (fun _ h9 => h9) rfl (by decide +kernel) rfl rfl (Nat.le_of_ble_eq_true rfl) dX4_readNumber_101 (fun H locs hP hD hS => ?_)
          have hP : va_P G.1 vwCl ([(tx 0, .inr (4, [.ref (tx 1), .ref (tx 2), .ref (tx 3), .int (nI L), .ref (tx 4), .int (nI pz)])), (tx 1, .inl (G.2 0, 10, .inl ri)), (tx 2, .inl (G.2 0, 10, .inl rm)), (tx 3, .inl (G.2 0, 10, .inl rp)), (tx 4, .inl (G.2 0, 60, .inl ch))]) H := hP
          have hD : va_D A ([(tx 0, .inr (4, [.ref (tx 1), .ref (tx 2), .ref (tx 3), .int (nI L), .ref (tx 4), .int (nI pz)])), (tx 1, .inl (G.2 0, 10, .inl ri)), (tx 2, .inl (G.2 0, 10, .inl rm)), (tx 3, .inl (G.2 0, 10, .inl rp)), (tx 4, .inl (G.2 0, 60, .inl ch))]) := hD
          refine lv_iconst (v := (-1)) hx hb dX4_readNumber_104 (by decide) ?_
          have hok : nOk c9 L g pz = false := by unfold nOk; rw [hq, c_15]; rfl
          have hP9 : va_P G.1 vwCl (xtc G tx L (rnP c9 L g pz) ri rm rp ch) H := by unfold rnP; rw [hok]; exact hP
          exact W.iret (v := (-1)) hx hb hr (fun t ht hW => ⟨⟨_, (), rfl, (by unfold rnV; rw [hok]; rfl), bM_end ht hP9⟩, hS.F ht⟩) hS.2.2 dX4_readNumber_105
        · refine lv_iload_n hx hb dX4_readNumber_92 rfl (lv_at hl 4 rfl) ?_
          refine lv_iload_n hx hb dX4_readNumber_93 rfl (lv_at hl 2 rfl) ?_
          refine lv_icmp_gt (tgt := 99) hx hb dX4_readNumber_94 (by decide) (fun c_16 => ?_) (fun c_16 => ?_)
          · refine lv_aload_n hx hb dX4_readNumber_99 rfl (lv_at hl 1 rfl) ?_
            refine lv_iload_n hx hb dX4_readNumber_100 rfl (lv_at hl 3 rfl) ?_
            refine va_put (D := G.1) (ci := 4) (v := .int (nI pz)) (ty := .int) (C := RX4) (T := TX4) (N := 6) hx hb hts (by decide +kernel) tyX4 tyX4_ok nmX4 hown hK.1 hP hD hS 0 rfl rfl 5 (by decide) (hts (.fieldLink RX4 28 "PriceIndexCalculator$QuotationText" "position" "I") (by decide +kernel)) (fun _ h9 => h9) rfl (by decide +kernel) rfl rfl (Nat.le_of_ble_eq_true rfl) dX4_readNumber_101 (fun H locs hP hD hS => ?_)
            have hP : va_P G.1 vwCl ([(tx 0, .inr (4, [.ref (tx 1), .ref (tx 2), .ref (tx 3), .int (nI L), .ref (tx 4), .int (nI pz)])), (tx 1, .inl (G.2 0, 10, .inl ri)), (tx 2, .inl (G.2 0, 10, .inl rm)), (tx 3, .inl (G.2 0, 10, .inl rp)), (tx 4, .inl (G.2 0, 60, .inl ch))]) H := hP
            have hD : va_D A ([(tx 0, .inr (4, [.ref (tx 1), .ref (tx 2), .ref (tx 3), .int (nI L), .ref (tx 4), .int (nI pz)])), (tx 1, .inl (G.2 0, 10, .inl ri)), (tx 2, .inl (G.2 0, 10, .inl rm)), (tx 3, .inl (G.2 0, 10, .inl rp)), (tx 4, .inl (G.2 0, 60, .inl ch))]) := hD
            refine lv_iconst (v := (-1)) hx hb dX4_readNumber_104 (by decide) ?_
            have hok : nOk c9 L g pz = false := by unfold nOk; rw [hq, hv, c_15]; simpa using c_16
            have hP9 : va_P G.1 vwCl (xtc G tx L (rnP c9 L g pz) ri rm rp ch) H := by unfold rnP; rw [hok]; exact hP
            exact W.iret (v := (-1)) hx hb hr (fun t ht hW => ⟨⟨_, (), rfl, (by unfold rnV; rw [hok]; rfl), bM_end ht hP9⟩, hS.F ht⟩) hS.2.2 dX4_readNumber_105
          · refine lv_iload_n hx hb dX4_readNumber_97 rfl (lv_at hl 4 rfl) ?_
            have hok : nOk c9 L g pz = true := by unfold nOk; rw [hq, hv, c_15]; simpa using c_16
            have hP9 : va_P G.1 vwCl (xtc G tx L (rnP c9 L g pz) ri rm rp ch) H := by unfold rnP; rw [hok]; rw [hq]; exact hP
            exact W.iret (v := nI v9) hx hb hr (fun t ht hW => ⟨⟨_, (), rfl, (by unfold rnV; rw [hok]; exact congrArg nI hv.symm), bM_end ht hP9⟩, hS.F ht⟩) hS.2.2 dX4_readNumber_98
      · have h48 := isDg_48 c_12
        refine lv_aload_n hx hb dX4_readNumber_33 rfl (lv_at hl 0 rfl) ?_
        refine va_get (D := G.1) (ci := 4) (v := .int (nI i)) (C := RX4) (T := TX4) (N := 6) hx hb hts (by decide +kernel) hown hK.1 hP 0 rfl rfl 5 (by decide) (hts (.fieldLink RX4 28 "PriceIndexCalculator$QuotationText" "position" "I") (by decide +kernel)) (fun _ h9 => h9) rfl dX4_readNumber_34 ?_
        refine lv_iload_n hx hb dX4_readNumber_37 rfl (lv_at hl 2 rfl) ?_
        refine n_sub hx hb (by omega) dX4_readNumber_38 ?_
        refine lv_iconst (v := nI 5) hx hb dX4_readNumber_39 (by decide) ?_
        refine n_icmp_ge (x := i - pz) (y := 5) (tgt := 61) hx hb (by omega) (by omega) dX4_readNumber_40 (by decide) (fun c_17 => ?_) (fun c_17 => ?_)
        · refine lv_aload_n hx hb dX4_readNumber_61 rfl (lv_at hl 0 rfl) ?_
          refine lv_dup hx hb dX4_readNumber_62 rfl ?_
          refine va_get (D := G.1) (ci := 4) (v := .int (nI i)) (C := RX4) (T := TX4) (N := 6) hx hb hts (by decide +kernel) hown hK.1 hP 0 rfl rfl 5 (by decide) (hts (.fieldLink RX4 28 "PriceIndexCalculator$QuotationText" "position" "I") (by decide +kernel)) (fun _ h9 => h9) rfl dX4_readNumber_63 ?_
          refine lv_iconst (v := nI 1) hx hb dX4_readNumber_66 (by decide) ?_
          refine n_add hx hb dX4_readNumber_67 ?_
          refine va_put (D := G.1) (ci := 4) (v := .int (nI (i + 1))) (ty := .int) (C := RX4) (T := TX4) (N := 6) hx hb hts (by decide +kernel) tyX4 tyX4_ok nmX4 hown hK.1 hP hD hS 0 rfl rfl 5 (by decide) (hts (.fieldLink RX4 28 "PriceIndexCalculator$QuotationText" "position" "I") (by decide +kernel)) (fun _ h9 => h9) rfl (by decide +kernel) rfl rfl (Nat.le_of_ble_eq_true rfl) dX4_readNumber_68 (fun H locs hP hD hS => ?_)
          have hP : va_P G.1 vwCl ([(tx 0, .inr (4, [.ref (tx 1), .ref (tx 2), .ref (tx 3), .int (nI L), .ref (tx 4), .int (nI (i + 1))])), (tx 1, .inl (G.2 0, 10, .inl ri)), (tx 2, .inl (G.2 0, 10, .inl rm)), (tx 3, .inl (G.2 0, 10, .inl rp)), (tx 4, .inl (G.2 0, 60, .inl ch))]) H := hP
          have hD : va_D A ([(tx 0, .inr (4, [.ref (tx 1), .ref (tx 2), .ref (tx 3), .int (nI L), .ref (tx 4), .int (nI (i + 1))])), (tx 1, .inl (G.2 0, 10, .inl ri)), (tx 2, .inl (G.2 0, 10, .inl rm)), (tx 3, .inl (G.2 0, 10, .inl rp)), (tx 4, .inl (G.2 0, 60, .inl ch))]) := hD
          refine lv_goto (tgt := 7) hx hb dX4_readNumber_71 (by decide) ?_
          exact ih_1 v9 _ _ _ ⟨⟨by omega, nV_keep hI_2.2.1 (by omega), dg_step hI_2.2.2 c_12⟩, hP, hD, hS⟩ (lv_sub hl [0, 1, 2, 3] rfl)
        · refine lv_iload_n hx hb dX4_readNumber_43 rfl (lv_at hl 3 rfl) ?_
          refine lv_bipush (v := nI 10) hx hb dX4_readNumber_44 (by decide) ?_
          refine n_mul hx hb dX4_readNumber_46 ?_
          refine lv_aload_n hx hb dX4_readNumber_47 rfl (lv_at hl 0 rfl) ?_
          refine va_get (D := G.1) (ci := 4) (v := .ref (tx 4)) (C := RX4) (T := TX4) (N := 6) hx hb hts (by decide +kernel) hown hK.1 hP 0 rfl rfl 4 (by decide) (hts (.fieldLink RX4 21 "PriceIndexCalculator$QuotationText" "characters" "[I") (by decide +kernel)) (fun _ h9 => h9) rfl dX4_readNumber_48 ?_
          refine lv_aload_n hx hb dX4_readNumber_51 rfl (lv_at hl 0 rfl) ?_
          refine va_get (D := G.1) (ci := 4) (v := .int (nI i)) (C := RX4) (T := TX4) (N := 6) hx hb hts (by decide +kernel) hown hK.1 hP 0 rfl rfl 5 (by decide) (hts (.fieldLink RX4 28 "PriceIndexCalculator$QuotationText" "position" "I") (by decide +kernel)) (fun _ h9 => h9) rfl dX4_readNumber_52 ?_
          refine n_iald hx hb hK.1 hP 4 0 rfl rfl (j := i) (by omega) (by omega) dX4_readNumber_55 ?_
          refine eq_i (y := nI (c9 i)) ((hch i (by omega)).1) ?_
          refine lv_bipush (v := nI 48) hx hb dX4_readNumber_56 (by decide) ?_
          refine n_sub hx hb (by omega) dX4_readNumber_58 ?_
          refine n_add hx hb dX4_readNumber_59 ?_
          refine lv_istore_n (lv' := [(3, .int (nI ((v9 * 10) + ((c9 i) - 48)))), (0, .ref (tx 0)), (1, .int g), (2, .int (nI pz))]) hx hb dX4_readNumber_60 rfl hl (by decide) rfl (fun ls hl => ?_)
          refine lv_aload_n hx hb dX4_readNumber_61 rfl (lv_at hl 1 rfl) ?_
          refine lv_dup hx hb dX4_readNumber_62 rfl ?_
          refine va_get (D := G.1) (ci := 4) (v := .int (nI i)) (C := RX4) (T := TX4) (N := 6) hx hb hts (by decide +kernel) hown hK.1 hP 0 rfl rfl 5 (by decide) (hts (.fieldLink RX4 28 "PriceIndexCalculator$QuotationText" "position" "I") (by decide +kernel)) (fun _ h9 => h9) rfl dX4_readNumber_63 ?_
          refine lv_iconst (v := nI 1) hx hb dX4_readNumber_66 (by decide) ?_
          refine n_add hx hb dX4_readNumber_67 ?_
          refine va_put (D := G.1) (ci := 4) (v := .int (nI (i + 1))) (ty := .int) (C := RX4) (T := TX4) (N := 6) hx hb hts (by decide +kernel) tyX4 tyX4_ok nmX4 hown hK.1 hP hD hS 0 rfl rfl 5 (by decide) (hts (.fieldLink RX4 28 "PriceIndexCalculator$QuotationText" "position" "I") (by decide +kernel)) (fun _ h9 => h9) rfl (by decide +kernel) rfl rfl (Nat.le_of_ble_eq_true rfl) dX4_readNumber_68 (fun H locs hP hD hS => ?_)
          have hP : va_P G.1 vwCl ([(tx 0, .inr (4, [.ref (tx 1), .ref (tx 2), .ref (tx 3), .int (nI L), .ref (tx 4), .int (nI (i + 1))])), (tx 1, .inl (G.2 0, 10, .inl ri)), (tx 2, .inl (G.2 0, 10, .inl rm)), (tx 3, .inl (G.2 0, 10, .inl rp)), (tx 4, .inl (G.2 0, 60, .inl ch))]) H := hP
          have hD : va_D A ([(tx 0, .inr (4, [.ref (tx 1), .ref (tx 2), .ref (tx 3), .int (nI L), .ref (tx 4), .int (nI (i + 1))])), (tx 1, .inl (G.2 0, 10, .inl ri)), (tx 2, .inl (G.2 0, 10, .inl rm)), (tx 3, .inl (G.2 0, 10, .inl rp)), (tx 4, .inl (G.2 0, 60, .inl ch))]) := hD
          refine lv_goto (tgt := 7) hx hb dX4_readNumber_71 (by decide) ?_
          exact ih_1 ((v9 * 10) + ((c9 i) - 48)) _ _ _ ⟨⟨by omega, nV_step hI_2.1 hI_2.2.1 (by omega), dg_step hI_2.2.2 c_12⟩, hP, hD, hS⟩ (lv_sub hl [1, 2, 3, 0] rfl)
set_option maxHeartbeats 4000000 in
set_option maxRecDepth 100000 in
/-- QuotationText.readQuotation -/
theorem metX4_readQuotation (l : Launch) (G : GG) (tx : Nat → Nat) (L pz : Nat) (ri rm rp ch : Nat → Int32) (c9 : Nat → Nat) (hL : L ≤ 60) (hch : chI ch c9 L) (n it : Nat) (hn : n < 10) (hz : pz ≤ L) : Met l yX4_readQuotation wsX4_readQuotation ({ frames := 2, cells := 0, slots := 0, locals := 60 }) (pM G (xtc G tx L pz ri rm rp ch) [.ref (tx 0), .int (nI n), .int (nI it)]) (va_Qi (fun r (u : (Nat → Int32) × (Nat → Int32) × (Nat → Int32)) => r = bI (qOk c9 L it pz) ∧ (qOk c9 L it pz = true → u.1 = upd ri n (nI (qi c9 L it pz)) ∧ u.2.1 = upd rm n (nI (qm c9 L it pz)) ∧ u.2.2 = upd rp n (nI (qp c9 L it pz)))) (bM G (fun (u : (Nat → Int32) × (Nat → Int32) × (Nat → Int32)) => xtc G tx L (qPos c9 L it pz) u.1 u.2.1 u.2.2 ch)) (adr (xtc G tx L pz ri rm rp ch))) 0 0 (adr (xtc G tx L pz ri rm rp ch)) := by
  refine Met.ofW (cc := cX4_readQuotation) (maxL := 3) (ret := (some .boolean)) (by decide) rfl ?_
  intro p e s m args below meth c s₁ B hml hv
  obtain ⟨rfl, hK, hP, hD0⟩ := hv
  have hx := B.exec
  have hb := B.bytes
  have hr := B.returns
  have hlocks := B.notSynchronized
  have hts := atoms_spec (ws := wsX4_readQuotation) B.pre
  have hown : s.vm.findClass RX4 = some m.cls := findClass_of_methodNamed B.named
  have hD := hD0.own
  generalize hAe : adr (xtc G tx L pz ri rm rp ch) = A at hD ⊢
  have hS : va_S A s.heap s.heap [] := va_S.rf
  have hl := lv_entry ([.ref (tx 0), .int (nI n), .int (nI it)]) (n := 3) (Nat.le_of_ble_eq_true rfl)
  rw [lg_entry_eq]
  generalize (lg_sl ([.ref (tx 0), .int (nI n), .int (nI it)]) ++ List.replicate (3 - (lg_sl ([.ref (tx 0), .int (nI n), .int (nI it)])).length) Slot.unset).toArray = ls at hl ⊢
  have hl : lv_has ls 3 [(0, .ref (tx 0)), (1, .int (nI n)), (2, .int (nI it))] := hl
  have hP : va_P G.1 vwCl ([(tx 0, .inr (4, [.ref (tx 1), .ref (tx 2), .ref (tx 3), .int (nI L), .ref (tx 4), .int (nI pz)])), (tx 1, .inl (G.2 0, 10, .inl ri)), (tx 2, .inl (G.2 0, 10, .inl rm)), (tx 3, .inl (G.2 0, 10, .inl rp)), (tx 4, .inl (G.2 0, 60, .inl ch))]) s.heap := hP
  have hD : va_D A ([(tx 0, .inr (4, [.ref (tx 1), .ref (tx 2), .ref (tx 3), .int (nI L), .ref (tx 4), .int (nI pz)])), (tx 1, .inl (G.2 0, 10, .inl ri)), (tx 2, .inl (G.2 0, 10, .inl rm)), (tx 3, .inl (G.2 0, 10, .inl rp)), (tx 4, .inl (G.2 0, 60, .inl ch))]) := hD
  obtain ⟨za, zb, zc, zd, ze, zf⟩ := q_le (c := c9) (it := it) hz
  refine lv_aload_n hx hb dX4_readQuotation_0 rfl (lv_at hl 0 rfl) ?_
  refine va_get (D := G.1) (ci := 4) (v := .ref (tx 1)) (C := RX4) (T := TX4) (N := 6) hx hb hts (by decide +kernel) hown hK.1 hP 0 rfl rfl 0 (by decide) (hts (.fieldLink RX4 9 "PriceIndexCalculator$QuotationText" "item" "[I") (by decide +kernel)) (fun _ h9 => h9) rfl dX4_readQuotation_1 ?_
  refine lv_iload_n hx hb dX4_readQuotation_4 rfl (lv_at hl 1 rfl) ?_
  refine lv_aload_n hx hb dX4_readQuotation_5 rfl (lv_at hl 0 rfl) ?_
  refine lv_iload_n hx hb dX4_readQuotation_6 rfl (lv_at hl 2 rfl) ?_
  refine lv_iconst (v := nI 1) hx hb dX4_readQuotation_7 (by decide) ?_
  refine lv_isub hx hb dX4_readQuotation_8 ?_
  refine cw_i (va_runV (As := [.int ((nI it) - (nI 1))]) (rest := [.int (nI n), .ref (tx 1)]) ⟨hx, hb, hml, hown, hts⟩ (metX4_readNumber l G tx L pz ri rm rp ch c9 hL hch (g0 it) hz) (cwV 1 hts gX4_readQuotation_X4_readNumber rfl rfl rfl (by decide +kernel) ⟨Nat.le_of_ble_eq_true rfl, Nat.le_of_ble_eq_true rfl⟩) (pM_V (w := xtc G tx L pz ri rm rp ch) (q0 := 0) hK hP hD rfl rfl) rfl rfl hl.1 rfl (lv_room (Nat.le_of_ble_eq_true rfl)) dX4_readQuotation_9 ⟨Nat.zero_le _, Nat.zero_le _⟩) hD hS (fun _ => rfl) (fun r_3 u_1 H locs hw_2 hP hD hS => ?_)
  subst hw_2
  have hP : va_P G.1 vwCl ([(tx 0, .inr (4, [.ref (tx 1), .ref (tx 2), .ref (tx 3), .int (nI L), .ref (tx 4), .int (nI (rnP c9 L (g0 it) pz))])), (tx 1, .inl (G.2 0, 10, .inl ri)), (tx 2, .inl (G.2 0, 10, .inl rm)), (tx 3, .inl (G.2 0, 10, .inl rp)), (tx 4, .inl (G.2 0, 60, .inl ch))]) H := hP
  have hD : va_D A ([(tx 0, .inr (4, [.ref (tx 1), .ref (tx 2), .ref (tx 3), .int (nI L), .ref (tx 4), .int (nI (rnP c9 L (g0 it) pz))])), (tx 1, .inl (G.2 0, 10, .inl ri)), (tx 2, .inl (G.2 0, 10, .inl rm)), (tx 3, .inl (G.2 0, 10, .inl rp)), (tx 4, .inl (G.2 0, 60, .inl ch))]) := hD
  have hP : va_P G.1 vwCl ([(tx 0, .inr (4, [.ref (tx 1), .ref (tx 2), .ref (tx 3), .int (nI L), .ref (tx 4), .int (nI (qA c9 L it pz))])), (tx 1, .inl (G.2 0, 10, .inl ri)), (tx 2, .inl (G.2 0, 10, .inl rm)), (tx 3, .inl (G.2 0, 10, .inl rp)), (tx 4, .inl (G.2 0, 60, .inl ch))]) H := hP
  have hD : va_D A ([(tx 0, .inr (4, [.ref (tx 1), .ref (tx 2), .ref (tx 3), .int (nI L), .ref (tx 4), .int (nI (qA c9 L it pz))])), (tx 1, .inl (G.2 0, 10, .inl ri)), (tx 2, .inl (G.2 0, 10, .inl rm)), (tx 3, .inl (G.2 0, 10, .inl rp)), (tx 4, .inl (G.2 0, 60, .inl ch))]) := hD
  refine n_iast hx hb hK.1 hP hD hS 1 0 rfl rfl (j := n) (by omega) (by omega) dX4_readQuotation_12 (fun H locs hP hD hS => ?_)
  have hP : va_P G.1 vwCl ([(tx 0, .inr (4, [.ref (tx 1), .ref (tx 2), .ref (tx 3), .int (nI L), .ref (tx 4), .int (nI (qA c9 L it pz))])), (tx 1, .inl (G.2 0, 10, .inl (upd ri n (rnV c9 L (g0 it) pz)))), (tx 2, .inl (G.2 0, 10, .inl rm)), (tx 3, .inl (G.2 0, 10, .inl rp)), (tx 4, .inl (G.2 0, 60, .inl ch))]) H := hP
  have hD : va_D A ([(tx 0, .inr (4, [.ref (tx 1), .ref (tx 2), .ref (tx 3), .int (nI L), .ref (tx 4), .int (nI (qA c9 L it pz))])), (tx 1, .inl (G.2 0, 10, .inl (upd ri n (rnV c9 L (g0 it) pz)))), (tx 2, .inl (G.2 0, 10, .inl rm)), (tx 3, .inl (G.2 0, 10, .inl rp)), (tx 4, .inl (G.2 0, 60, .inl ch))]) := hD
  refine lv_aload_n hx hb dX4_readQuotation_13 rfl (lv_at hl 0 rfl) ?_
  refine va_get (D := G.1) (ci := 4) (v := .ref (tx 1)) (C := RX4) (T := TX4) (N := 6) hx hb hts (by decide +kernel) hown hK.1 hP 0 rfl rfl 0 (by decide) (hts (.fieldLink RX4 9 "PriceIndexCalculator$QuotationText" "item" "[I") (by decide +kernel)) (fun _ h9 => h9) rfl dX4_readQuotation_14 ?_
  refine lv_iload_n hx hb dX4_readQuotation_17 rfl (lv_at hl 1 rfl) ?_
  refine n_iald hx hb hK.1 hP 1 0 rfl rfl (j := n) (by omega) (by omega) dX4_readQuotation_18 ?_
  refine eq_i (y := rnV c9 L (g0 it) pz) (by simp [upd]) ?_
  refine lv_iconst (v := (-1)) hx hb dX4_readQuotation_19 (by decide) ?_
  refine lv_icmp_eq (tgt := 32) hx hb dX4_readQuotation_20 (by decide) (fun c_4 => ?_) (fun c_4 => ?_)
  · refine lv_iconst (v := nI 0) hx hb dX4_readQuotation_32 (by decide) ?_
    have w0 : kA c9 L it pz = false := rnV_f c_4
    have hqk : qOk c9 L it pz = false := by simp [qOk, w0]
    have hqp : qPos c9 L it pz = qA c9 L it pz := by simp [qPos, w0]
    have hP9 : va_P G.1 vwCl (xtc G tx L (qPos c9 L it pz) (upd ri n (rnV c9 L (g0 it) pz)) rm rp ch) H := by rw [hqp]; exact hP
    exact W.zret (v := nI 0) (ty := .boolean) hx hb hr (by rfl) (fun t ht hW => ⟨⟨_, (upd ri n (rnV c9 L (g0 it) pz), rm, rp), rfl, ⟨(congrArg bI hqk).symm, fun q => by rw [hqk] at q; cases q⟩, bM_end ht hP9⟩, hS.F ht⟩) hS.2.2 dX4_readQuotation_33
  · refine lv_aload_n hx hb dX4_readQuotation_23 rfl (lv_at hl 0 rfl) ?_
    refine lv_bipush (v := nI 64) hx hb dX4_readQuotation_24 (by decide) ?_
    refine cw_i (va_runV (As := [.int (nI 64)]) (rest := []) ⟨hx, hb, hml, hown, hts⟩ (metX4_skip l G tx L (qA c9 L it pz) (upd ri n (rnV c9 L (g0 it) pz)) rm rp ch c9 hL hch 64 (by omega) za) (cwV 1 hts gX4_readQuotation_X4_skip rfl rfl rfl (by decide +kernel) ⟨Nat.le_of_ble_eq_true rfl, Nat.le_of_ble_eq_true rfl⟩) (pM_V (w := xtc G tx L (qA c9 L it pz) (upd ri n (rnV c9 L (g0 it) pz)) rm rp ch) (q0 := 0) hK hP hD rfl rfl) rfl rfl hl.1 rfl (lv_room (Nat.le_of_ble_eq_true rfl)) dX4_readQuotation_26 ⟨Nat.zero_le _, Nat.zero_le _⟩) hD hS (fun _ => rfl) (fun r_7 u_5 H locs hw_6 hP hD hS => ?_)
    subst hw_6
    have hP : va_P G.1 vwCl ([(tx 0, .inr (4, [.ref (tx 1), .ref (tx 2), .ref (tx 3), .int (nI L), .ref (tx 4), .int (nI (skP c9 L 64 (qA c9 L it pz)))])), (tx 1, .inl (G.2 0, 10, .inl (upd ri n (rnV c9 L (g0 it) pz)))), (tx 2, .inl (G.2 0, 10, .inl rm)), (tx 3, .inl (G.2 0, 10, .inl rp)), (tx 4, .inl (G.2 0, 60, .inl ch))]) H := hP
    have hD : va_D A ([(tx 0, .inr (4, [.ref (tx 1), .ref (tx 2), .ref (tx 3), .int (nI L), .ref (tx 4), .int (nI (skP c9 L 64 (qA c9 L it pz)))])), (tx 1, .inl (G.2 0, 10, .inl (upd ri n (rnV c9 L (g0 it) pz)))), (tx 2, .inl (G.2 0, 10, .inl rm)), (tx 3, .inl (G.2 0, 10, .inl rp)), (tx 4, .inl (G.2 0, 60, .inl ch))]) := hD
    have hP : va_P G.1 vwCl ([(tx 0, .inr (4, [.ref (tx 1), .ref (tx 2), .ref (tx 3), .int (nI L), .ref (tx 4), .int (nI (qB c9 L it pz))])), (tx 1, .inl (G.2 0, 10, .inl (upd ri n (rnV c9 L (g0 it) pz)))), (tx 2, .inl (G.2 0, 10, .inl rm)), (tx 3, .inl (G.2 0, 10, .inl rp)), (tx 4, .inl (G.2 0, 60, .inl ch))]) H := hP
    have hD : va_D A ([(tx 0, .inr (4, [.ref (tx 1), .ref (tx 2), .ref (tx 3), .int (nI L), .ref (tx 4), .int (nI (qB c9 L it pz))])), (tx 1, .inl (G.2 0, 10, .inl (upd ri n (rnV c9 L (g0 it) pz)))), (tx 2, .inl (G.2 0, 10, .inl rm)), (tx 3, .inl (G.2 0, 10, .inl rp)), (tx 4, .inl (G.2 0, 60, .inl ch))]) := hD
    refine nb_if_ne (B := skp c9 L 64 (qA c9 L it pz)) (tgt := 34) hx hb dX4_readQuotation_29 (by decide) (fun c_8 => ?_) (fun c_8 => ?_)
    · refine lv_aload_n hx hb dX4_readQuotation_34 rfl (lv_at hl 0 rfl) ?_
      refine va_get (D := G.1) (ci := 4) (v := .ref (tx 2)) (C := RX4) (T := TX4) (N := 6) hx hb hts (by decide +kernel) hown hK.1 hP 0 rfl rfl 1 (by decide) (hts (.fieldLink RX4 15 "PriceIndexCalculator$QuotationText" "month" "[I") (by decide +kernel)) (fun _ h9 => h9) rfl dX4_readQuotation_35 ?_
      refine lv_iload_n hx hb dX4_readQuotation_38 rfl (lv_at hl 1 rfl) ?_
      refine lv_aload_n hx hb dX4_readQuotation_39 rfl (lv_at hl 0 rfl) ?_
      refine lv_bipush (v := nI 23) hx hb dX4_readQuotation_40 (by decide) ?_
      refine cw_i (va_runV (As := [.int (nI 23)]) (rest := [.int (nI n), .ref (tx 2)]) ⟨hx, hb, hml, hown, hts⟩ (metX4_readNumber l G tx L (qB c9 L it pz) (upd ri n (rnV c9 L (g0 it) pz)) rm rp ch c9 hL hch (nI 23) zb) (cwV 1 hts gX4_readQuotation_X4_readNumber rfl rfl rfl (by decide +kernel) ⟨Nat.le_of_ble_eq_true rfl, Nat.le_of_ble_eq_true rfl⟩) (pM_V (w := xtc G tx L (qB c9 L it pz) (upd ri n (rnV c9 L (g0 it) pz)) rm rp ch) (q0 := 0) hK hP hD rfl rfl) rfl rfl hl.1 rfl (lv_room (Nat.le_of_ble_eq_true rfl)) dX4_readQuotation_42 ⟨Nat.zero_le _, Nat.zero_le _⟩) hD hS (fun _ => rfl) (fun r_11 u_9 H locs hw_10 hP hD hS => ?_)
      subst hw_10
      have hP : va_P G.1 vwCl ([(tx 0, .inr (4, [.ref (tx 1), .ref (tx 2), .ref (tx 3), .int (nI L), .ref (tx 4), .int (nI (rnP c9 L (nI 23) (qB c9 L it pz)))])), (tx 1, .inl (G.2 0, 10, .inl (upd ri n (rnV c9 L (g0 it) pz)))), (tx 2, .inl (G.2 0, 10, .inl rm)), (tx 3, .inl (G.2 0, 10, .inl rp)), (tx 4, .inl (G.2 0, 60, .inl ch))]) H := hP
      have hD : va_D A ([(tx 0, .inr (4, [.ref (tx 1), .ref (tx 2), .ref (tx 3), .int (nI L), .ref (tx 4), .int (nI (rnP c9 L (nI 23) (qB c9 L it pz)))])), (tx 1, .inl (G.2 0, 10, .inl (upd ri n (rnV c9 L (g0 it) pz)))), (tx 2, .inl (G.2 0, 10, .inl rm)), (tx 3, .inl (G.2 0, 10, .inl rp)), (tx 4, .inl (G.2 0, 60, .inl ch))]) := hD
      have hP : va_P G.1 vwCl ([(tx 0, .inr (4, [.ref (tx 1), .ref (tx 2), .ref (tx 3), .int (nI L), .ref (tx 4), .int (nI (qC c9 L it pz))])), (tx 1, .inl (G.2 0, 10, .inl (upd ri n (rnV c9 L (g0 it) pz)))), (tx 2, .inl (G.2 0, 10, .inl rm)), (tx 3, .inl (G.2 0, 10, .inl rp)), (tx 4, .inl (G.2 0, 60, .inl ch))]) H := hP
      have hD : va_D A ([(tx 0, .inr (4, [.ref (tx 1), .ref (tx 2), .ref (tx 3), .int (nI L), .ref (tx 4), .int (nI (qC c9 L it pz))])), (tx 1, .inl (G.2 0, 10, .inl (upd ri n (rnV c9 L (g0 it) pz)))), (tx 2, .inl (G.2 0, 10, .inl rm)), (tx 3, .inl (G.2 0, 10, .inl rp)), (tx 4, .inl (G.2 0, 60, .inl ch))]) := hD
      refine n_iast hx hb hK.1 hP hD hS 2 0 rfl rfl (j := n) (by omega) (by omega) dX4_readQuotation_45 (fun H locs hP hD hS => ?_)
      have hP : va_P G.1 vwCl ([(tx 0, .inr (4, [.ref (tx 1), .ref (tx 2), .ref (tx 3), .int (nI L), .ref (tx 4), .int (nI (qC c9 L it pz))])), (tx 1, .inl (G.2 0, 10, .inl (upd ri n (rnV c9 L (g0 it) pz)))), (tx 2, .inl (G.2 0, 10, .inl (upd rm n (rnV c9 L (nI 23) (qB c9 L it pz))))), (tx 3, .inl (G.2 0, 10, .inl rp)), (tx 4, .inl (G.2 0, 60, .inl ch))]) H := hP
      have hD : va_D A ([(tx 0, .inr (4, [.ref (tx 1), .ref (tx 2), .ref (tx 3), .int (nI L), .ref (tx 4), .int (nI (qC c9 L it pz))])), (tx 1, .inl (G.2 0, 10, .inl (upd ri n (rnV c9 L (g0 it) pz)))), (tx 2, .inl (G.2 0, 10, .inl (upd rm n (rnV c9 L (nI 23) (qB c9 L it pz))))), (tx 3, .inl (G.2 0, 10, .inl rp)), (tx 4, .inl (G.2 0, 60, .inl ch))]) := hD
      refine lv_aload_n hx hb dX4_readQuotation_46 rfl (lv_at hl 0 rfl) ?_
      refine va_get (D := G.1) (ci := 4) (v := .ref (tx 2)) (C := RX4) (T := TX4) (N := 6) hx hb hts (by decide +kernel) hown hK.1 hP 0 rfl rfl 1 (by decide) (hts (.fieldLink RX4 15 "PriceIndexCalculator$QuotationText" "month" "[I") (by decide +kernel)) (fun _ h9 => h9) rfl dX4_readQuotation_47 ?_
      refine lv_iload_n hx hb dX4_readQuotation_50 rfl (lv_at hl 1 rfl) ?_
      refine n_iald hx hb hK.1 hP 2 0 rfl rfl (j := n) (by omega) (by omega) dX4_readQuotation_51 ?_
      refine eq_i (y := rnV c9 L (nI 23) (qB c9 L it pz)) (by simp [upd]) ?_
      refine lv_iconst (v := (-1)) hx hb dX4_readQuotation_52 (by decide) ?_
      refine lv_icmp_eq (tgt := 65) hx hb dX4_readQuotation_53 (by decide) (fun c_12 => ?_) (fun c_12 => ?_)
      · refine lv_iconst (v := nI 0) hx hb dX4_readQuotation_65 (by decide) ?_
        have w0 : kA c9 L it pz = true := rnV_t c_4
        have w1 : kB c9 L it pz = true := c_8
        have w2 : kC c9 L it pz = false := rnV_f c_12
        have hqk : qOk c9 L it pz = false := by simp [qOk, w0, w1, w2]
        have hqp : qPos c9 L it pz = qC c9 L it pz := by simp [qPos, w0, w1, w2]
        have hP9 : va_P G.1 vwCl (xtc G tx L (qPos c9 L it pz) (upd ri n (rnV c9 L (g0 it) pz)) (upd rm n (rnV c9 L (nI 23) (qB c9 L it pz))) rp ch) H := by rw [hqp]; exact hP
        exact W.zret (v := nI 0) (ty := .boolean) hx hb hr (by rfl) (fun t ht hW => ⟨⟨_, (upd ri n (rnV c9 L (g0 it) pz), upd rm n (rnV c9 L (nI 23) (qB c9 L it pz)), rp), rfl, ⟨(congrArg bI hqk).symm, fun q => by rw [hqk] at q; cases q⟩, bM_end ht hP9⟩, hS.F ht⟩) hS.2.2 dX4_readQuotation_66
      · refine lv_aload_n hx hb dX4_readQuotation_56 rfl (lv_at hl 0 rfl) ?_
        refine lv_bipush (v := nI 61) hx hb dX4_readQuotation_57 (by decide) ?_
        refine cw_i (va_runV (As := [.int (nI 61)]) (rest := []) ⟨hx, hb, hml, hown, hts⟩ (metX4_skip l G tx L (qC c9 L it pz) (upd ri n (rnV c9 L (g0 it) pz)) (upd rm n (rnV c9 L (nI 23) (qB c9 L it pz))) rp ch c9 hL hch 61 (by omega) zc) (cwV 1 hts gX4_readQuotation_X4_skip rfl rfl rfl (by decide +kernel) ⟨Nat.le_of_ble_eq_true rfl, Nat.le_of_ble_eq_true rfl⟩) (pM_V (w := xtc G tx L (qC c9 L it pz) (upd ri n (rnV c9 L (g0 it) pz)) (upd rm n (rnV c9 L (nI 23) (qB c9 L it pz))) rp ch) (q0 := 0) hK hP hD rfl rfl) rfl rfl hl.1 rfl (lv_room (Nat.le_of_ble_eq_true rfl)) dX4_readQuotation_59 ⟨Nat.zero_le _, Nat.zero_le _⟩) hD hS (fun _ => rfl) (fun r_15 u_13 H locs hw_14 hP hD hS => ?_)
        subst hw_14
        have hP : va_P G.1 vwCl ([(tx 0, .inr (4, [.ref (tx 1), .ref (tx 2), .ref (tx 3), .int (nI L), .ref (tx 4), .int (nI (skP c9 L 61 (qC c9 L it pz)))])), (tx 1, .inl (G.2 0, 10, .inl (upd ri n (rnV c9 L (g0 it) pz)))), (tx 2, .inl (G.2 0, 10, .inl (upd rm n (rnV c9 L (nI 23) (qB c9 L it pz))))), (tx 3, .inl (G.2 0, 10, .inl rp)), (tx 4, .inl (G.2 0, 60, .inl ch))]) H := hP
        have hD : va_D A ([(tx 0, .inr (4, [.ref (tx 1), .ref (tx 2), .ref (tx 3), .int (nI L), .ref (tx 4), .int (nI (skP c9 L 61 (qC c9 L it pz)))])), (tx 1, .inl (G.2 0, 10, .inl (upd ri n (rnV c9 L (g0 it) pz)))), (tx 2, .inl (G.2 0, 10, .inl (upd rm n (rnV c9 L (nI 23) (qB c9 L it pz))))), (tx 3, .inl (G.2 0, 10, .inl rp)), (tx 4, .inl (G.2 0, 60, .inl ch))]) := hD
        have hP : va_P G.1 vwCl ([(tx 0, .inr (4, [.ref (tx 1), .ref (tx 2), .ref (tx 3), .int (nI L), .ref (tx 4), .int (nI (qD c9 L it pz))])), (tx 1, .inl (G.2 0, 10, .inl (upd ri n (rnV c9 L (g0 it) pz)))), (tx 2, .inl (G.2 0, 10, .inl (upd rm n (rnV c9 L (nI 23) (qB c9 L it pz))))), (tx 3, .inl (G.2 0, 10, .inl rp)), (tx 4, .inl (G.2 0, 60, .inl ch))]) H := hP
        have hD : va_D A ([(tx 0, .inr (4, [.ref (tx 1), .ref (tx 2), .ref (tx 3), .int (nI L), .ref (tx 4), .int (nI (qD c9 L it pz))])), (tx 1, .inl (G.2 0, 10, .inl (upd ri n (rnV c9 L (g0 it) pz)))), (tx 2, .inl (G.2 0, 10, .inl (upd rm n (rnV c9 L (nI 23) (qB c9 L it pz))))), (tx 3, .inl (G.2 0, 10, .inl rp)), (tx 4, .inl (G.2 0, 60, .inl ch))]) := hD
        refine nb_if_ne (B := skp c9 L 61 (qC c9 L it pz)) (tgt := 67) hx hb dX4_readQuotation_62 (by decide) (fun c_16 => ?_) (fun c_16 => ?_)
        · refine lv_aload_n hx hb dX4_readQuotation_67 rfl (lv_at hl 0 rfl) ?_
          refine va_get (D := G.1) (ci := 4) (v := .ref (tx 3)) (C := RX4) (T := TX4) (N := 6) hx hb hts (by decide +kernel) hown hK.1 hP 0 rfl rfl 2 (by decide) (hts (.fieldLink RX4 18 "PriceIndexCalculator$QuotationText" "price" "[I") (by decide +kernel)) (fun _ h9 => h9) rfl dX4_readQuotation_68 ?_
          refine lv_iload_n hx hb dX4_readQuotation_71 rfl (lv_at hl 1 rfl) ?_
          refine lv_aload_n hx hb dX4_readQuotation_72 rfl (lv_at hl 0 rfl) ?_
          refine lv_ldc (v := nI 99999) hx hb hown (hts (.constant RX4 43 (99999)) (by decide +kernel)) dX4_readQuotation_73 ?_
          refine cw_i (va_runV (As := [.int (nI 99999)]) (rest := [.int (nI n), .ref (tx 3)]) ⟨hx, hb, hml, hown, hts⟩ (metX4_readNumber l G tx L (qD c9 L it pz) (upd ri n (rnV c9 L (g0 it) pz)) (upd rm n (rnV c9 L (nI 23) (qB c9 L it pz))) rp ch c9 hL hch (nI 99999) zd) (cwV 1 hts gX4_readQuotation_X4_readNumber rfl rfl rfl (by decide +kernel) ⟨Nat.le_of_ble_eq_true rfl, Nat.le_of_ble_eq_true rfl⟩) (pM_V (w := xtc G tx L (qD c9 L it pz) (upd ri n (rnV c9 L (g0 it) pz)) (upd rm n (rnV c9 L (nI 23) (qB c9 L it pz))) rp ch) (q0 := 0) hK hP hD rfl rfl) rfl rfl hl.1 rfl (lv_room (Nat.le_of_ble_eq_true rfl)) dX4_readQuotation_75 ⟨Nat.zero_le _, Nat.zero_le _⟩) hD hS (fun _ => rfl) (fun r_19 u_17 H locs hw_18 hP hD hS => ?_)
          subst hw_18
          have hP : va_P G.1 vwCl ([(tx 0, .inr (4, [.ref (tx 1), .ref (tx 2), .ref (tx 3), .int (nI L), .ref (tx 4), .int (nI (rnP c9 L (nI 99999) (qD c9 L it pz)))])), (tx 1, .inl (G.2 0, 10, .inl (upd ri n (rnV c9 L (g0 it) pz)))), (tx 2, .inl (G.2 0, 10, .inl (upd rm n (rnV c9 L (nI 23) (qB c9 L it pz))))), (tx 3, .inl (G.2 0, 10, .inl rp)), (tx 4, .inl (G.2 0, 60, .inl ch))]) H := hP
          have hD : va_D A ([(tx 0, .inr (4, [.ref (tx 1), .ref (tx 2), .ref (tx 3), .int (nI L), .ref (tx 4), .int (nI (rnP c9 L (nI 99999) (qD c9 L it pz)))])), (tx 1, .inl (G.2 0, 10, .inl (upd ri n (rnV c9 L (g0 it) pz)))), (tx 2, .inl (G.2 0, 10, .inl (upd rm n (rnV c9 L (nI 23) (qB c9 L it pz))))), (tx 3, .inl (G.2 0, 10, .inl rp)), (tx 4, .inl (G.2 0, 60, .inl ch))]) := hD
          have hP : va_P G.1 vwCl ([(tx 0, .inr (4, [.ref (tx 1), .ref (tx 2), .ref (tx 3), .int (nI L), .ref (tx 4), .int (nI (qE c9 L it pz))])), (tx 1, .inl (G.2 0, 10, .inl (upd ri n (rnV c9 L (g0 it) pz)))), (tx 2, .inl (G.2 0, 10, .inl (upd rm n (rnV c9 L (nI 23) (qB c9 L it pz))))), (tx 3, .inl (G.2 0, 10, .inl rp)), (tx 4, .inl (G.2 0, 60, .inl ch))]) H := hP
          have hD : va_D A ([(tx 0, .inr (4, [.ref (tx 1), .ref (tx 2), .ref (tx 3), .int (nI L), .ref (tx 4), .int (nI (qE c9 L it pz))])), (tx 1, .inl (G.2 0, 10, .inl (upd ri n (rnV c9 L (g0 it) pz)))), (tx 2, .inl (G.2 0, 10, .inl (upd rm n (rnV c9 L (nI 23) (qB c9 L it pz))))), (tx 3, .inl (G.2 0, 10, .inl rp)), (tx 4, .inl (G.2 0, 60, .inl ch))]) := hD
          refine n_iast hx hb hK.1 hP hD hS 3 0 rfl rfl (j := n) (by omega) (by omega) dX4_readQuotation_78 (fun H locs hP hD hS => ?_)
          have hP : va_P G.1 vwCl ([(tx 0, .inr (4, [.ref (tx 1), .ref (tx 2), .ref (tx 3), .int (nI L), .ref (tx 4), .int (nI (qE c9 L it pz))])), (tx 1, .inl (G.2 0, 10, .inl (upd ri n (rnV c9 L (g0 it) pz)))), (tx 2, .inl (G.2 0, 10, .inl (upd rm n (rnV c9 L (nI 23) (qB c9 L it pz))))), (tx 3, .inl (G.2 0, 10, .inl (upd rp n (rnV c9 L (nI 99999) (qD c9 L it pz))))), (tx 4, .inl (G.2 0, 60, .inl ch))]) H := hP
          have hD : va_D A ([(tx 0, .inr (4, [.ref (tx 1), .ref (tx 2), .ref (tx 3), .int (nI L), .ref (tx 4), .int (nI (qE c9 L it pz))])), (tx 1, .inl (G.2 0, 10, .inl (upd ri n (rnV c9 L (g0 it) pz)))), (tx 2, .inl (G.2 0, 10, .inl (upd rm n (rnV c9 L (nI 23) (qB c9 L it pz))))), (tx 3, .inl (G.2 0, 10, .inl (upd rp n (rnV c9 L (nI 99999) (qD c9 L it pz))))), (tx 4, .inl (G.2 0, 60, .inl ch))]) := hD
          refine lv_aload_n hx hb dX4_readQuotation_79 rfl (lv_at hl 0 rfl) ?_
          refine va_get (D := G.1) (ci := 4) (v := .ref (tx 3)) (C := RX4) (T := TX4) (N := 6) hx hb hts (by decide +kernel) hown hK.1 hP 0 rfl rfl 2 (by decide) (hts (.fieldLink RX4 18 "PriceIndexCalculator$QuotationText" "price" "[I") (by decide +kernel)) (fun _ h9 => h9) rfl dX4_readQuotation_80 ?_
          refine lv_iload_n hx hb dX4_readQuotation_83 rfl (lv_at hl 1 rfl) ?_
          refine n_iald hx hb hK.1 hP 3 0 rfl rfl (j := n) (by omega) (by omega) dX4_readQuotation_84 ?_
          refine eq_i (y := rnV c9 L (nI 99999) (qD c9 L it pz)) (by simp [upd]) ?_
          refine lv_iconst (v := (-1)) hx hb dX4_readQuotation_85 (by decide) ?_
          refine lv_icmp_eq (tgt := 102) hx hb dX4_readQuotation_86 (by decide) (fun c_20 => ?_) (fun c_20 => ?_)
          · refine lv_iconst (v := nI 0) hx hb dX4_readQuotation_102 (by decide) ?_
            have w0 : kA c9 L it pz = true := rnV_t c_4
            have w1 : kB c9 L it pz = true := c_8
            have w2 : kC c9 L it pz = true := rnV_t c_12
            have w3 : kD c9 L it pz = true := c_16
            have w4 : kE c9 L it pz = false := rnV_f c_20
            have hqk : qOk c9 L it pz = false := by simp [qOk, w0, w1, w2, w3, w4]
            have hqp : qPos c9 L it pz = qE c9 L it pz := by simp [qPos, w0, w1, w2, w3, w4]
            have hP9 : va_P G.1 vwCl (xtc G tx L (qPos c9 L it pz) (upd ri n (rnV c9 L (g0 it) pz)) (upd rm n (rnV c9 L (nI 23) (qB c9 L it pz))) (upd rp n (rnV c9 L (nI 99999) (qD c9 L it pz))) ch) H := by rw [hqp]; exact hP
            exact W.zret (v := nI 0) (ty := .boolean) hx hb hr (by rfl) (fun t ht hW => ⟨⟨_, (upd ri n (rnV c9 L (g0 it) pz), upd rm n (rnV c9 L (nI 23) (qB c9 L it pz)), upd rp n (rnV c9 L (nI 99999) (qD c9 L it pz))), rfl, ⟨(congrArg bI hqk).symm, fun q => by rw [hqk] at q; cases q⟩, bM_end ht hP9⟩, hS.F ht⟩) hS.2.2 dX4_readQuotation_103
          · refine lv_aload_n hx hb dX4_readQuotation_89 rfl (lv_at hl 0 rfl) ?_
            refine lv_bipush (v := nI 59) hx hb dX4_readQuotation_90 (by decide) ?_
            refine cw_i (va_runV (As := [.int (nI 59)]) (rest := []) ⟨hx, hb, hml, hown, hts⟩ (metX4_skip l G tx L (qE c9 L it pz) (upd ri n (rnV c9 L (g0 it) pz)) (upd rm n (rnV c9 L (nI 23) (qB c9 L it pz))) (upd rp n (rnV c9 L (nI 99999) (qD c9 L it pz))) ch c9 hL hch 59 (by omega) ze) (cwV 1 hts gX4_readQuotation_X4_skip rfl rfl rfl (by decide +kernel) ⟨Nat.le_of_ble_eq_true rfl, Nat.le_of_ble_eq_true rfl⟩) (pM_V (w := xtc G tx L (qE c9 L it pz) (upd ri n (rnV c9 L (g0 it) pz)) (upd rm n (rnV c9 L (nI 23) (qB c9 L it pz))) (upd rp n (rnV c9 L (nI 99999) (qD c9 L it pz))) ch) (q0 := 0) hK hP hD rfl rfl) rfl rfl hl.1 rfl (lv_room (Nat.le_of_ble_eq_true rfl)) dX4_readQuotation_92 ⟨Nat.zero_le _, Nat.zero_le _⟩) hD hS (fun _ => rfl) (fun r_23 u_21 H locs hw_22 hP hD hS => ?_)
            subst hw_22
            have hP : va_P G.1 vwCl ([(tx 0, .inr (4, [.ref (tx 1), .ref (tx 2), .ref (tx 3), .int (nI L), .ref (tx 4), .int (nI (skP c9 L 59 (qE c9 L it pz)))])), (tx 1, .inl (G.2 0, 10, .inl (upd ri n (rnV c9 L (g0 it) pz)))), (tx 2, .inl (G.2 0, 10, .inl (upd rm n (rnV c9 L (nI 23) (qB c9 L it pz))))), (tx 3, .inl (G.2 0, 10, .inl (upd rp n (rnV c9 L (nI 99999) (qD c9 L it pz))))), (tx 4, .inl (G.2 0, 60, .inl ch))]) H := hP
            have hD : va_D A ([(tx 0, .inr (4, [.ref (tx 1), .ref (tx 2), .ref (tx 3), .int (nI L), .ref (tx 4), .int (nI (skP c9 L 59 (qE c9 L it pz)))])), (tx 1, .inl (G.2 0, 10, .inl (upd ri n (rnV c9 L (g0 it) pz)))), (tx 2, .inl (G.2 0, 10, .inl (upd rm n (rnV c9 L (nI 23) (qB c9 L it pz))))), (tx 3, .inl (G.2 0, 10, .inl (upd rp n (rnV c9 L (nI 99999) (qD c9 L it pz))))), (tx 4, .inl (G.2 0, 60, .inl ch))]) := hD
            have hP : va_P G.1 vwCl ([(tx 0, .inr (4, [.ref (tx 1), .ref (tx 2), .ref (tx 3), .int (nI L), .ref (tx 4), .int (nI (qF c9 L it pz))])), (tx 1, .inl (G.2 0, 10, .inl (upd ri n (rnV c9 L (g0 it) pz)))), (tx 2, .inl (G.2 0, 10, .inl (upd rm n (rnV c9 L (nI 23) (qB c9 L it pz))))), (tx 3, .inl (G.2 0, 10, .inl (upd rp n (rnV c9 L (nI 99999) (qD c9 L it pz))))), (tx 4, .inl (G.2 0, 60, .inl ch))]) H := hP
            have hD : va_D A ([(tx 0, .inr (4, [.ref (tx 1), .ref (tx 2), .ref (tx 3), .int (nI L), .ref (tx 4), .int (nI (qF c9 L it pz))])), (tx 1, .inl (G.2 0, 10, .inl (upd ri n (rnV c9 L (g0 it) pz)))), (tx 2, .inl (G.2 0, 10, .inl (upd rm n (rnV c9 L (nI 23) (qB c9 L it pz))))), (tx 3, .inl (G.2 0, 10, .inl (upd rp n (rnV c9 L (nI 99999) (qD c9 L it pz))))), (tx 4, .inl (G.2 0, 60, .inl ch))]) := hD
            refine nb_if_eq (B := skp c9 L 59 (qE c9 L it pz)) (tgt := 102) hx hb dX4_readQuotation_95 (by decide) (fun c_24 => ?_) (fun c_24 => ?_)
            · refine lv_iconst (v := nI 0) hx hb dX4_readQuotation_102 (by decide) ?_
              have w0 : kA c9 L it pz = true := rnV_t c_4
              have w1 : kB c9 L it pz = true := c_8
              have w2 : kC c9 L it pz = true := rnV_t c_12
              have w3 : kD c9 L it pz = true := c_16
              have w4 : kE c9 L it pz = true := rnV_t c_20
              have w5 : kF c9 L it pz = false := c_24
              have hqk : qOk c9 L it pz = false := by simp [qOk, w0, w1, w2, w3, w4, w5]
              have hqp : qPos c9 L it pz = qF c9 L it pz := by simp [qPos, w0, w1, w2, w3, w4, w5]
              have hP9 : va_P G.1 vwCl (xtc G tx L (qPos c9 L it pz) (upd ri n (rnV c9 L (g0 it) pz)) (upd rm n (rnV c9 L (nI 23) (qB c9 L it pz))) (upd rp n (rnV c9 L (nI 99999) (qD c9 L it pz))) ch) H := by rw [hqp]; exact hP
              exact W.zret (v := nI 0) (ty := .boolean) hx hb hr (by rfl) (fun t ht hW => ⟨⟨_, (upd ri n (rnV c9 L (g0 it) pz), upd rm n (rnV c9 L (nI 23) (qB c9 L it pz)), upd rp n (rnV c9 L (nI 99999) (qD c9 L it pz))), rfl, ⟨(congrArg bI hqk).symm, fun q => by rw [hqk] at q; cases q⟩, bM_end ht hP9⟩, hS.F ht⟩) hS.2.2 dX4_readQuotation_103
            · refine lv_iconst (v := nI 1) hx hb dX4_readQuotation_98 (by decide) ?_
              refine lv_goto (tgt := 103) hx hb dX4_readQuotation_99 (by decide) ?_
              have w0 : kA c9 L it pz = true := rnV_t c_4
              have w1 : kB c9 L it pz = true := c_8
              have w2 : kC c9 L it pz = true := rnV_t c_12
              have w3 : kD c9 L it pz = true := c_16
              have w4 : kE c9 L it pz = true := rnV_t c_20
              have w5 : kF c9 L it pz = true := c_24
              have hqk : qOk c9 L it pz = true := by simp [qOk, w0, w1, w2, w3, w4, w5]
              have hqp : qPos c9 L it pz = qF c9 L it pz := by simp [qPos, w0, w1, w2, w3, w4, w5]
              have hP9 : va_P G.1 vwCl (xtc G tx L (qPos c9 L it pz) (upd ri n (rnV c9 L (g0 it) pz)) (upd rm n (rnV c9 L (nI 23) (qB c9 L it pz))) (upd rp n (rnV c9 L (nI 99999) (qD c9 L it pz))) ch) H := by rw [hqp]; exact hP
              exact W.zret (v := nI 1) (ty := .boolean) hx hb hr (by rfl) (fun t ht hW => ⟨⟨_, (upd ri n (rnV c9 L (g0 it) pz), upd rm n (rnV c9 L (nI 23) (qB c9 L it pz)), upd rp n (rnV c9 L (nI 99999) (qD c9 L it pz))), rfl, ⟨(congrArg bI hqk).symm, fun _ => ⟨by show upd _ _ (rnV c9 L (g0 it) pz) = _; unfold rnV; rw [show nOk c9 L (g0 it) pz = true from w0]; rfl, by show upd _ _ (rnV c9 L (nI 23) (qB c9 L it pz)) = _; unfold rnV; rw [show nOk c9 L (nI 23) (qB c9 L it pz) = true from w2]; rfl, by show upd _ _ (rnV c9 L (nI 99999) (qD c9 L it pz)) = _; unfold rnV; rw [show nOk c9 L (nI 99999) (qD c9 L it pz) = true from w4]; rfl⟩⟩, bM_end ht hP9⟩, hS.F ht⟩) hS.2.2 dX4_readQuotation_103
        · refine lv_iconst (v := nI 0) hx hb dX4_readQuotation_65 (by decide) ?_
          have w0 : kA c9 L it pz = true := rnV_t c_4
          have w1 : kB c9 L it pz = true := c_8
          have w2 : kC c9 L it pz = true := rnV_t c_12
          have w3 : kD c9 L it pz = false := c_16
          have hqk : qOk c9 L it pz = false := by simp [qOk, w0, w1, w2, w3]
          have hqp : qPos c9 L it pz = qD c9 L it pz := by simp [qPos, w0, w1, w2, w3]
          have hP9 : va_P G.1 vwCl (xtc G tx L (qPos c9 L it pz) (upd ri n (rnV c9 L (g0 it) pz)) (upd rm n (rnV c9 L (nI 23) (qB c9 L it pz))) rp ch) H := by rw [hqp]; exact hP
          exact W.zret (v := nI 0) (ty := .boolean) hx hb hr (by rfl) (fun t ht hW => ⟨⟨_, (upd ri n (rnV c9 L (g0 it) pz), upd rm n (rnV c9 L (nI 23) (qB c9 L it pz)), rp), rfl, ⟨(congrArg bI hqk).symm, fun q => by rw [hqk] at q; cases q⟩, bM_end ht hP9⟩, hS.F ht⟩) hS.2.2 dX4_readQuotation_66
    · refine lv_iconst (v := nI 0) hx hb dX4_readQuotation_32 (by decide) ?_
      have w0 : kA c9 L it pz = true := rnV_t c_4
      have w1 : kB c9 L it pz = false := c_8
      have hqk : qOk c9 L it pz = false := by simp [qOk, w0, w1]
      have hqp : qPos c9 L it pz = qB c9 L it pz := by simp [qPos, w0, w1]
      have hP9 : va_P G.1 vwCl (xtc G tx L (qPos c9 L it pz) (upd ri n (rnV c9 L (g0 it) pz)) rm rp ch) H := by rw [hqp]; exact hP
      exact W.zret (v := nI 0) (ty := .boolean) hx hb hr (by rfl) (fun t ht hW => ⟨⟨_, (upd ri n (rnV c9 L (g0 it) pz), rm, rp), rfl, ⟨(congrArg bI hqk).symm, fun q => by rw [hqk] at q; cases q⟩, bM_end ht hP9⟩, hS.F ht⟩) hS.2.2 dX4_readQuotation_33
set_option maxHeartbeats 4000000 in
set_option maxRecDepth 100000 in
/-- QuotationText.read -/
theorem metX4_read (l : Launch) (G : GG) (tx : Nat → Nat) (L pz : Nat) (ri rm rp ch : Nat → Int32) (c9 : Nat → Nat) (hL : L ≤ 60) (hch : chI ch c9 L) (it : Nat) (hit : it ≤ 12) : Met l yX4_read wsX4_read ({ frames := 3, cells := 0, slots := 0, locals := 90 }) (pM G (xtc G tx L pz ri rm rp ch) [.ref (tx 0), .int (nI it)]) (va_Qi (fun r (u : Nat × (Nat → Int32) × (Nat → Int32) × (Nat → Int32)) => r = rdF c9 L it ∧ ((rdE c9 L it).1 = true → (∀ k, k < (rdE c9 L it).2 → qOk c9 L it (psn c9 L it k) = true) ∧ (rdE c9 L it).2 ≤ 10 ∧ 0 < (rdE c9 L it).2 ∧ rowsI c9 L it (rdE c9 L it).2 u.2.1 u.2.2.1 u.2.2.2)) (bM G (fun (u : Nat × (Nat → Int32) × (Nat → Int32) × (Nat → Int32)) => xtc G tx L u.1 u.2.1 u.2.2.1 u.2.2.2 ch)) (adr (xtc G tx L pz ri rm rp ch))) 0 0 (adr (xtc G tx L pz ri rm rp ch)) := by
  refine Met.ofW (cc := cX4_read) (maxL := 3) (ret := (some .int)) (by decide) rfl ?_
  intro p e s m args below meth c s₁ B hml hv
  obtain ⟨rfl, hK, hP, hD0⟩ := hv
  have hx := B.exec
  have hb := B.bytes
  have hr := B.returns
  have hlocks := B.notSynchronized
  have hts := atoms_spec (ws := wsX4_read) B.pre
  have hown : s.vm.findClass RX4 = some m.cls := findClass_of_methodNamed B.named
  have hD := hD0.own
  generalize hAe : adr (xtc G tx L pz ri rm rp ch) = A at hD ⊢
  have hS : va_S A s.heap s.heap [] := va_S.rf
  have hl := lv_entry ([.ref (tx 0), .int (nI it)]) (n := 3) (Nat.le_of_ble_eq_true rfl)
  rw [lg_entry_eq]
  generalize (lg_sl ([.ref (tx 0), .int (nI it)]) ++ List.replicate (3 - (lg_sl ([.ref (tx 0), .int (nI it)])).length) Slot.unset).toArray = ls at hl ⊢
  have hl : lv_has ls 3 [(0, .ref (tx 0)), (1, .int (nI it))] := hl
  have hP : va_P G.1 vwCl ([(tx 0, .inr (4, [.ref (tx 1), .ref (tx 2), .ref (tx 3), .int (nI L), .ref (tx 4), .int (nI pz)])), (tx 1, .inl (G.2 0, 10, .inl ri)), (tx 2, .inl (G.2 0, 10, .inl rm)), (tx 3, .inl (G.2 0, 10, .inl rp)), (tx 4, .inl (G.2 0, 60, .inl ch))]) s.heap := hP
  have hD : va_D A ([(tx 0, .inr (4, [.ref (tx 1), .ref (tx 2), .ref (tx 3), .int (nI L), .ref (tx 4), .int (nI pz)])), (tx 1, .inl (G.2 0, 10, .inl ri)), (tx 2, .inl (G.2 0, 10, .inl rm)), (tx 3, .inl (G.2 0, 10, .inl rp)), (tx 4, .inl (G.2 0, 60, .inl ch))]) := hD
  refine lv_aload_n hx hb dX4_read_0 rfl (lv_at hl 0 rfl) ?_
  refine lv_iconst (v := nI 0) hx hb dX4_read_1 (by decide) ?_
  refine va_put (D := G.1) (ci := 4) (v := .int (nI 0)) (ty := .int) (C := RX4) (T := TX4) (N := 6) hx hb hts (by decide +kernel) tyX4 tyX4_ok nmX4 hown hK.1 hP hD hS 0 rfl rfl 5 (by decide) (hts (.fieldLink RX4 28 "PriceIndexCalculator$QuotationText" "position" "I") (by decide +kernel)) (fun _ h9 => h9) rfl (by decide +kernel) rfl rfl (Nat.le_of_ble_eq_true rfl) dX4_read_2 (fun H locs hP hD hS => ?_)
  have hP : va_P G.1 vwCl ([(tx 0, .inr (4, [.ref (tx 1), .ref (tx 2), .ref (tx 3), .int (nI L), .ref (tx 4), .int (nI 0)])), (tx 1, .inl (G.2 0, 10, .inl ri)), (tx 2, .inl (G.2 0, 10, .inl rm)), (tx 3, .inl (G.2 0, 10, .inl rp)), (tx 4, .inl (G.2 0, 60, .inl ch))]) H := hP
  have hD : va_D A ([(tx 0, .inr (4, [.ref (tx 1), .ref (tx 2), .ref (tx 3), .int (nI L), .ref (tx 4), .int (nI 0)])), (tx 1, .inl (G.2 0, 10, .inl ri)), (tx 2, .inl (G.2 0, 10, .inl rm)), (tx 3, .inl (G.2 0, 10, .inl rp)), (tx 4, .inl (G.2 0, 60, .inl ch))]) := hD
  refine lv_iconst (v := nI 0) hx hb dX4_read_5 (by decide) ?_
  refine lv_istore_n (lv' := [(2, .int (nI 0)), (0, .ref (tx 0)), (1, .int (nI it))]) hx hb dX4_read_6 rfl hl (by decide) rfl (fun ls hl => ?_)
  refine lpM (S := (Nat → Int32) × (Nat → Int32) × (Nat → Int32)) (10) (fun i u H locs => (rdI c9 L it (i) ∧ rowsI c9 L it (i) u.1 u.2.1 u.2.2) ∧ va_P G.1 vwCl ([(tx 0, .inr (4, [.ref (tx 1), .ref (tx 2), .ref (tx 3), .int (nI L), .ref (tx 4), .int (nI (psn c9 L it i))])), (tx 1, .inl (G.2 0, 10, .inl u.1)), (tx 2, .inl (G.2 0, 10, .inl u.2.1)), (tx 3, .inl (G.2 0, 10, .inl u.2.2)), (tx 4, .inl (G.2 0, 60, .inl ch))]) H ∧ va_D A ([(tx 0, .inr (4, [.ref (tx 1), .ref (tx 2), .ref (tx 3), .int (nI L), .ref (tx 4), .int (nI (psn c9 L it i))])), (tx 1, .inl (G.2 0, 10, .inl u.1)), (tx 2, .inl (G.2 0, 10, .inl u.2.1)), (tx 3, .inl (G.2 0, 10, .inl u.2.2)), (tx 4, .inl (G.2 0, 60, .inl ch))]) ∧ va_S A s.heap H locs) (fun i u => [(0, .ref (tx 0)), (1, .int (nI it)), (2, .int (nI i))]) (fun u H locs ls hI0 hl => ?_) (fun i u H locs ls hi_3 hI0 hl ih_1 => ?_) (0) (ri, rm, rp) (by omega) ⟨⟨rdI_0, fun k h => absurd h (Nat.not_lt_zero k)⟩, hP, hD, hS⟩ (lv_sub hl [1, 2, 0] rfl)
  · obtain ⟨r6, m6, p6⟩ := u
    obtain ⟨hI_2, hP, hD, hS⟩ := hI0
    try dsimp only at hI_2
    have hl : lv_has ls 3 [(0, .ref (tx 0)), (1, .int (nI it)), (2, .int (nI 10))] := hl
    have hP : va_P G.1 vwCl ([(tx 0, .inr (4, [.ref (tx 1), .ref (tx 2), .ref (tx 3), .int (nI L), .ref (tx 4), .int (nI (psn c9 L it 10))])), (tx 1, .inl (G.2 0, 10, .inl r6)), (tx 2, .inl (G.2 0, 10, .inl m6)), (tx 3, .inl (G.2 0, 10, .inl p6)), (tx 4, .inl (G.2 0, 60, .inl ch))]) H := hP
    have hD : va_D A ([(tx 0, .inr (4, [.ref (tx 1), .ref (tx 2), .ref (tx 3), .int (nI L), .ref (tx 4), .int (nI (psn c9 L it 10))])), (tx 1, .inl (G.2 0, 10, .inl r6)), (tx 2, .inl (G.2 0, 10, .inl m6)), (tx 3, .inl (G.2 0, 10, .inl p6)), (tx 4, .inl (G.2 0, 60, .inl ch))]) := hD
    obtain ⟨hten, -⟩ : rdE c9 L it = (false, psn c9 L it 10) ∧ True := ⟨rdI_ten hI_2.1, trivial⟩
    clear hI_2
    generalize psn c9 L it 10 = pq at hP hD hten
    have hP : va_P G.1 vwCl ([(tx 0, .inr (4, [.ref (tx 1), .ref (tx 2), .ref (tx 3), .int (nI L), .ref (tx 4), .int (nI pq)])), (tx 1, .inl (G.2 0, 10, .inl r6)), (tx 2, .inl (G.2 0, 10, .inl m6)), (tx 3, .inl (G.2 0, 10, .inl p6)), (tx 4, .inl (G.2 0, 60, .inl ch))]) H := hP
    have hD : va_D A ([(tx 0, .inr (4, [.ref (tx 1), .ref (tx 2), .ref (tx 3), .int (nI L), .ref (tx 4), .int (nI pq)])), (tx 1, .inl (G.2 0, 10, .inl r6)), (tx 2, .inl (G.2 0, 10, .inl m6)), (tx 3, .inl (G.2 0, 10, .inl p6)), (tx 4, .inl (G.2 0, 60, .inl ch))]) := hD
    refine lv_iload_n hx hb dX4_read_7 rfl (lv_at hl 2 rfl) ?_
    refine lv_bipush (v := nI 10) hx hb dX4_read_8 (by decide) ?_
    refine n_icmp_ge (x := 10) (y := 10) (tgt := 51) hx hb (by omega) (by omega) dX4_read_10 (by decide) (fun c_4 => ?_) (fun c_4 => ?_)
    · refine lv_bipush (v := (-10)) hx hb dX4_read_51 (by decide) ?_
      refine lv_aload_n hx hb dX4_read_53 rfl (lv_at hl 0 rfl) ?_
      refine va_get (D := G.1) (ci := 4) (v := .int (nI pq)) (C := RX4) (T := TX4) (N := 6) hx hb hts (by decide +kernel) hown hK.1 hP 0 rfl rfl 5 (by decide) (hts (.fieldLink RX4 28 "PriceIndexCalculator$QuotationText" "position" "I") (by decide +kernel)) (fun _ h9 => h9) rfl dX4_read_54 ?_
      refine lv_isub hx hb dX4_read_57 ?_
      have hP9 := hP
      exact W.iret (v := (-10) - (nI pq)) hx hb hr (fun t ht hW => ⟨⟨_, (pq, r6, m6, p6), rfl, ⟨rdF_bad hten, fun q => by rw [hten] at q; cases q⟩, bM_end ht hP9⟩, hS.F ht⟩) hS.2.2 dX4_read_58
    · exact absurd c_4 (by omega)
  · obtain ⟨r6, m6, p6⟩ := u
    obtain ⟨hI_2, hP, hD, hS⟩ := hI0
    try dsimp only at hI_2
    have hl : lv_has ls 3 [(0, .ref (tx 0)), (1, .int (nI it)), (2, .int (nI i))] := hl
    have hP : va_P G.1 vwCl ([(tx 0, .inr (4, [.ref (tx 1), .ref (tx 2), .ref (tx 3), .int (nI L), .ref (tx 4), .int (nI (psn c9 L it i))])), (tx 1, .inl (G.2 0, 10, .inl r6)), (tx 2, .inl (G.2 0, 10, .inl m6)), (tx 3, .inl (G.2 0, 10, .inl p6)), (tx 4, .inl (G.2 0, 60, .inl ch))]) H := hP
    have hD : va_D A ([(tx 0, .inr (4, [.ref (tx 1), .ref (tx 2), .ref (tx 3), .int (nI L), .ref (tx 4), .int (nI (psn c9 L it i))])), (tx 1, .inl (G.2 0, 10, .inl r6)), (tx 2, .inl (G.2 0, 10, .inl m6)), (tx 3, .inl (G.2 0, 10, .inl p6)), (tx 4, .inl (G.2 0, 60, .inl ch))]) := hD
    have hpl := hI_2.1.2.2.1
    have hp6 := hI_2.1.2.1
    refine lv_iload_n hx hb dX4_read_7 rfl (lv_at hl 2 rfl) ?_
    refine lv_bipush (v := nI 10) hx hb dX4_read_8 (by decide) ?_
    refine n_icmp_ge (x := i) (y := 10) (tgt := 51) hx hb (by omega) (by omega) dX4_read_10 (by decide) (fun c_5 => ?_) (fun c_5 => ?_)
    · exact absurd c_5 (by omega)
    · refine lv_aload_n hx hb dX4_read_13 rfl (lv_at hl 0 rfl) ?_
      refine lv_iload_n hx hb dX4_read_14 rfl (lv_at hl 2 rfl) ?_
      refine lv_iload_n hx hb dX4_read_15 rfl (lv_at hl 1 rfl) ?_
      refine cw_i (va_runV (As := [.int (nI i), .int (nI it)]) (rest := []) ⟨hx, hb, hml, hown, hts⟩ (metX4_readQuotation l G tx L (psn c9 L it i) r6 m6 p6 ch c9 hL hch i it (by omega) hI_2.1.2.2.1) (cwV 2 hts gX4_read_X4_readQuotation rfl rfl rfl (by decide +kernel) ⟨Nat.le_of_ble_eq_true rfl, Nat.le_of_ble_eq_true rfl⟩) (pM_V (w := xtc G tx L (psn c9 L it i) r6 m6 p6 ch) (q0 := 0) hK hP hD rfl rfl) rfl rfl hl.1 rfl (lv_room (Nat.le_of_ble_eq_true rfl)) dX4_read_16 ⟨Nat.zero_le _, Nat.zero_le _⟩) hD hS (fun _ => rfl) (fun r_8 u_6 H locs hw_7 hP hD hS => ?_)
      obtain ⟨r7, m7, p7⟩ := u_6
      try dsimp only at hw_7
      obtain ⟨hw_7a, hw_7b⟩ := hw_7
      subst hw_7a
      have hP : va_P G.1 vwCl ([(tx 0, .inr (4, [.ref (tx 1), .ref (tx 2), .ref (tx 3), .int (nI L), .ref (tx 4), .int (nI (qPos c9 L it (psn c9 L it i)))])), (tx 1, .inl (G.2 0, 10, .inl r7)), (tx 2, .inl (G.2 0, 10, .inl m7)), (tx 3, .inl (G.2 0, 10, .inl p7)), (tx 4, .inl (G.2 0, 60, .inl ch))]) H := hP
      have hD : va_D A ([(tx 0, .inr (4, [.ref (tx 1), .ref (tx 2), .ref (tx 3), .int (nI L), .ref (tx 4), .int (nI (qPos c9 L it (psn c9 L it i)))])), (tx 1, .inl (G.2 0, 10, .inl r7)), (tx 2, .inl (G.2 0, 10, .inl m7)), (tx 3, .inl (G.2 0, 10, .inl p7)), (tx 4, .inl (G.2 0, 60, .inl ch))]) := hD
      refine nb_if_ne (B := qOk c9 L it (psn c9 L it i)) (tgt := 30) hx hb dX4_read_19 (by decide) (fun c_9 => ?_) (fun c_9 => ?_)
      · have hql := qPos_le (c := c9) (it := it) hpl
        refine lv_aload_n hx hb dX4_read_30 rfl (lv_at hl 0 rfl) ?_
        refine va_get (D := G.1) (ci := 4) (v := .int (nI (qPos c9 L it (psn c9 L it i)))) (C := RX4) (T := TX4) (N := 6) hx hb hts (by decide +kernel) hown hK.1 hP 0 rfl rfl 5 (by decide) (hts (.fieldLink RX4 28 "PriceIndexCalculator$QuotationText" "position" "I") (by decide +kernel)) (fun _ h9 => h9) rfl dX4_read_31 ?_
        refine lv_aload_n hx hb dX4_read_34 rfl (lv_at hl 0 rfl) ?_
        refine va_get (D := G.1) (ci := 4) (v := .int (nI L)) (C := RX4) (T := TX4) (N := 6) hx hb hts (by decide +kernel) hown hK.1 hP 0 rfl rfl 3 (by decide) (hts (.fieldLink RX4 24 "PriceIndexCalculator$QuotationText" "length" "I") (by decide +kernel)) (fun _ h9 => h9) rfl dX4_read_35 ?_
        refine n_icmp_lt (x := qPos c9 L it (psn c9 L it i)) (y := L) (tgt := 45) hx hb (by omega) (by omega) dX4_read_38 (by decide) (fun c_10 => ?_) (fun c_10 => ?_)
        · refine lv_iinc (v := nI (i + 1)) (lv' := [(2, .int (nI (i + 1))), (0, .ref (tx 0)), (1, .int (nI it))]) hx hb dX4_read_45 hl (k := 2) rfl (by exact nI_add _ _) (by decide) rfl (fun ls hl => ?_)
          refine lv_goto (tgt := 7) hx hb dX4_read_48 (by decide) ?_
          exact ih_1 (r7, m7, p7) _ _ _ ⟨⟨rdI_step hL hI_2.1 (by omega) c_9 (by omega), by obtain ⟨a, b, d⟩ := hw_7b c_9; rw [a, b, d]; exact rowsI_step hI_2.2⟩, hP, hD, hS⟩ (lv_sub hl [1, 2, 0] rfl)
        · refine lv_iload_n hx hb dX4_read_41 rfl (lv_at hl 2 rfl) ?_
          refine lv_iconst (v := nI 1) hx hb dX4_read_42 (by decide) ?_
          refine n_add hx hb dX4_read_43 ?_
          have hP9 := hP
          exact W.iret (v := nI (i + 1)) hx hb hr (fun t ht hW => ⟨⟨_, (qPos c9 L it (psn c9 L it i), r7, m7, p7), rfl, ⟨by rw [rdF, (rdI_end hI_2.1 (by omega) c_9 (by omega)).1]; rfl, fun _ => by obtain ⟨z1, z2⟩ := rdI_end hI_2.1 (by omega) c_9 (by omega); rw [z1]; refine ⟨z2, by show i + 1 ≤ 10; omega, Nat.succ_pos _, ?_⟩; obtain ⟨a, b, d⟩ := hw_7b c_9; show rowsI c9 L it (i + 1) r7 m7 p7; rw [a, b, d]; exact rowsI_step hI_2.2⟩, bM_end ht hP9⟩, hS.F ht⟩) hS.2.2 dX4_read_44
      · have hql := qPos_le (c := c9) (it := it) hpl
        refine lv_bipush (v := (-10)) hx hb dX4_read_22 (by decide) ?_
        refine lv_aload_n hx hb dX4_read_24 rfl (lv_at hl 0 rfl) ?_
        refine va_get (D := G.1) (ci := 4) (v := .int (nI (qPos c9 L it (psn c9 L it i)))) (C := RX4) (T := TX4) (N := 6) hx hb hts (by decide +kernel) hown hK.1 hP 0 rfl rfl 5 (by decide) (hts (.fieldLink RX4 28 "PriceIndexCalculator$QuotationText" "position" "I") (by decide +kernel)) (fun _ h9 => h9) rfl dX4_read_25 ?_
        refine lv_isub hx hb dX4_read_28 ?_
        have hP9 := hP
        exact W.iret (v := (-10) - (nI (qPos c9 L it (psn c9 L it i)))) hx hb hr (fun t ht hW => ⟨⟨_, (qPos c9 L it (psn c9 L it i), r7, m7, p7), rfl, ⟨rdF_bad (rdI_bad hI_2.1 (by omega) c_9), fun q => by rw [rdI_bad hI_2.1 (by omega) c_9] at q; cases q⟩, bM_end ht hP9⟩, hS.F ht⟩) hS.2.2 dX4_read_29
