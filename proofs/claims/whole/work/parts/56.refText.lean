set_option maxHeartbeats 4000000 in
set_option maxRecDepth 100000 in
/-- Model.isDigit -/
theorem metX7_isDigit (l : Launch) (G : GG) (md : Nat → Nat) (a pa : Nat → Int32) (np : Nat) (tb : Nat → Int32) (ty aw : Nat) (iw : Bool) (qu : Nat → Int32) (up lo : UInt32) (su : Nat) (kn : Nat → UInt32) (ik im : Nat → Bool) (fo : UInt32) (c9 : Nat → Nat) (hty : ty ≤ 60) (htb : tbI tb c9 ty) (k : Nat) (hk : k < 2 ^ 31) : Met l yX7_isDigit wsX7_isDigit ({ frames := 1, cells := 0, slots := 0, locals := 30 }) (pR G (mcells G md a pa np tb ty aw iw qu up lo su kn ik im fo) [.ref (md 0), .int (nI k)]) (vp_Si (fun r => r = bI (decide (k < ty) && isDg (c9 k)))) 0 0 (fun _ => False) := by
  refine Met.ofW (cc := cX7_isDigit) (maxL := 2) (ret := (some .boolean)) (by decide) rfl ?_
  intro p e s m args below meth c s₁ B hml hv
  obtain ⟨rfl, hK, hP⟩ := hv
  have hx := B.exec
  have hb := B.bytes
  have hr := B.returns
  have hlocks := B.notSynchronized
  have hts := atoms_spec (ws := wsX7_isDigit) B.pre
  have hown : s.vm.findClass RX7 = some m.cls := findClass_of_methodNamed B.named
  have hl := lv_entry ([.ref (md 0), .int (nI k)]) (n := 2) (Nat.le_of_ble_eq_true rfl)
  rw [lg_entry_eq]
  generalize (lg_sl ([.ref (md 0), .int (nI k)]) ++ List.replicate (2 - (lg_sl ([.ref (md 0), .int (nI k)])).length) Slot.unset).toArray = ls at hl ⊢
  have hl : lv_has ls 2 [(0, .ref (md 0)), (1, .int (nI k))] := hl
  have hP : va_P G.1 vwCl ([(md 0, .inr (6, [.ref (md 1), .ref (md 2), .int (nI np), .ref (md 3), .int (nI ty), .int (nI aw), .int (bI iw), .ref (md 4), .float up, .float lo, .int (nI su), .ref (md 5), .ref (md 6), .ref (md 7), .float fo])), (md 1, .inl (G.2 0, 354, .inl a)), (md 2, .inl (G.2 0, 2832, .inl pa)), (md 3, .inl (G.2 3, 60, .inl tb)), (md 4, .inl (G.2 0, 36, .inl qu)), (md 5, .inl (G.2 2, 288, .inr (.inr (.inl kn)))), (md 6, .inl (G.2 1, 288, .inl (fun jj => bI (ik jj)))), (md 7, .inl (G.2 1, 288, .inl (fun jj => bI (im jj))))]) s.heap := hP
  refine lv_iload_n hx hb dX7_isDigit_0 rfl (lv_at hl 1 rfl) ?_
  refine lv_aload_n hx hb dX7_isDigit_1 rfl (lv_at hl 0 rfl) ?_
  refine va_get (D := G.1) (ci := 6) (v := .int (nI ty)) (C := RX7) (T := TX7) (N := 15) hx hb hts (by decide +kernel) hown hK.1 hP 0 rfl rfl 4 (by decide) (hts (.fieldLink RX7 56 "PriceIndexCalculatorModel" "typed" "I") (by decide +kernel)) (fun _ h9 => h9) rfl dX7_isDigit_2 ?_
  refine n_icmp_ge (x := k) (y := ty) (tgt := 28) hx hb (by omega) (by omega) dX7_isDigit_5 (by decide) (fun c_1 => ?_) (fun c_1 => ?_)
  · refine lv_iconst (v := nI 0) hx hb dX7_isDigit_28 (by decide) ?_
    exact W.zret (v := nI 0) (ty := .boolean) hx hb hr (by rfl) (fun t ht hW => ⟨_, rfl, ((congrArg bI (by rw [decide_eq_false (by omega : ¬ k < ty)]; rfl : (decide (k < ty) && isDg (c9 k)) = false)).symm), ht⟩) (fun q hq => absurd hq List.not_mem_nil) dX7_isDigit_29
  · refine lv_aload_n hx hb dX7_isDigit_8 rfl (lv_at hl 0 rfl) ?_
    refine va_get (D := G.1) (ci := 6) (v := .ref (md 3)) (C := RX7) (T := TX7) (N := 15) hx hb hts (by decide +kernel) hown hK.1 hP 0 rfl rfl 3 (by decide) (hts (.fieldLink RX7 16 "PriceIndexCalculatorModel" "text" "[B") (by decide +kernel)) (fun _ h9 => h9) rfl dX7_isDigit_9 ?_
    refine lv_iload_n hx hb dX7_isDigit_12 rfl (lv_at hl 1 rfl) ?_
    refine n_bald hx hb hK.1 hP 3 3 rfl rfl (j := k) (by omega) (by omega) dX7_isDigit_13 ?_
    refine lv_bipush (v := nI 48) hx hb dX7_isDigit_14 (by decide) ?_
    refine lv_bipush (v := nI 57) hx hb dX7_isDigit_16 (by decide) ?_
    refine cr_i (va_runS (As := [.int (tb k), .int (nI 48), .int (nI 57)]) (rest := []) ⟨hx, hb, hml, hown, hts⟩ (metX7_in l G (tb k) (nI 48) (nI 57)) (va_cwS 3 hts gX7_isDigit_X7_in rfl rfl rfl (by decide +kernel) ⟨Nat.le_of_ble_eq_true rfl, Nat.le_of_ble_eq_true rfl⟩) (pR_S hK (va_P_nil _ _ _)) rfl rfl hl.1 rfl (lv_room (Nat.le_of_ble_eq_true rfl)) dX7_isDigit_18 ⟨Nat.zero_le _, Nat.zero_le _⟩) (fun r_2 hr_3 => ?_)
    subst hr_3
    refine eq_i (y := bI (isDg (c9 k))) (by rw [(htb k (by omega)).1, dgB _ (htb k (by omega)).2]) ?_
    refine nb_if_eq (B := isDg (c9 k)) (tgt := 28) hx hb dX7_isDigit_21 (by decide) (fun c_4 => ?_) (fun c_4 => ?_)
    · refine lv_iconst (v := nI 0) hx hb dX7_isDigit_28 (by decide) ?_
      exact W.zret (v := nI 0) (ty := .boolean) hx hb hr (by rfl) (fun t ht hW => ⟨_, rfl, ((congrArg bI (by rw [decide_eq_true (by omega : k < ty), c_4]; rfl : (decide (k < ty) && isDg (c9 k)) = false)).symm), ht⟩) (fun q hq => absurd hq List.not_mem_nil) dX7_isDigit_29
    · refine lv_iconst (v := nI 1) hx hb dX7_isDigit_24 (by decide) ?_
      refine lv_goto (tgt := 29) hx hb dX7_isDigit_25 (by decide) ?_
      exact W.zret (v := nI 1) (ty := .boolean) hx hb hr (by rfl) (fun t ht hW => ⟨_, rfl, ((congrArg bI (by rw [decide_eq_true (by omega : k < ty), c_4]; rfl : (decide (k < ty) && isDg (c9 k)) = true)).symm), ht⟩) (fun q hq => absurd hq List.not_mem_nil) dX7_isDigit_29
set_option maxHeartbeats 4000000 in
set_option maxRecDepth 100000 in
/-- Model.number -/
theorem metX7_number (l : Launch) (G : GG) (md : Nat → Nat) (a pa : Nat → Int32) (np : Nat) (tb : Nat → Int32) (ty aw : Nat) (iw : Bool) (qu : Nat → Int32) (up lo : UInt32) (su : Nat) (kn : Nat → UInt32) (ik im : Nat → Bool) (fo : UInt32) (c9 : Nat → Nat) (hty : ty ≤ 60) (htb : tbI tb c9 ty) (g : Int32) (hz : aw ≤ ty) (hiw : iw = false)  : Met l yX7_number wsX7_number ({ frames := 2, cells := 0, slots := 0, locals := 60 }) (pM G (mcells G md a pa np tb ty aw iw qu up lo su kn ik im fo) [.ref (md 0), .int g]) (va_Qi (fun r (_ : Unit) => r = nI (nV c9 ty aw)) (bM G (fun _ : Unit => mcells G md a pa np tb ty (rnP c9 ty g aw) (!nOk c9 ty g aw) qu up lo su kn ik im fo)) (adr (mcells G md a pa np tb ty aw iw qu up lo su kn ik im fo))) 0 0 (adr (mcells G md a pa np tb ty aw iw qu up lo su kn ik im fo)) := by
  refine Met.ofW (cc := cX7_number) (maxL := 5) (ret := (some .int)) (by decide) rfl ?_
  intro p e s m args below meth c s₁ B hml hv
  obtain ⟨rfl, hK, hP, hD0⟩ := hv
  have hx := B.exec
  have hb := B.bytes
  have hr := B.returns
  have hlocks := B.notSynchronized
  have hts := atoms_spec (ws := wsX7_number) B.pre
  have hown : s.vm.findClass RX7 = some m.cls := findClass_of_methodNamed B.named
  have hD := hD0.own
  generalize hAe : adr (mcells G md a pa np tb ty aw iw qu up lo su kn ik im fo) = A at hD ⊢
  have hS : va_S A s.heap s.heap [] := va_S.rf
  have hl := lv_entry ([.ref (md 0), .int g]) (n := 5) (Nat.le_of_ble_eq_true rfl)
  rw [lg_entry_eq]
  generalize (lg_sl ([.ref (md 0), .int g]) ++ List.replicate (5 - (lg_sl ([.ref (md 0), .int g])).length) Slot.unset).toArray = ls at hl ⊢
  have hl : lv_has ls 5 [(0, .ref (md 0)), (1, .int g)] := hl
  have hP : va_P G.1 vwCl ([(md 0, .inr (6, [.ref (md 1), .ref (md 2), .int (nI np), .ref (md 3), .int (nI ty), .int (nI aw), .int (bI iw), .ref (md 4), .float up, .float lo, .int (nI su), .ref (md 5), .ref (md 6), .ref (md 7), .float fo])), (md 1, .inl (G.2 0, 354, .inl a)), (md 2, .inl (G.2 0, 2832, .inl pa)), (md 3, .inl (G.2 3, 60, .inl tb)), (md 4, .inl (G.2 0, 36, .inl qu)), (md 5, .inl (G.2 2, 288, .inr (.inr (.inl kn)))), (md 6, .inl (G.2 1, 288, .inl (fun jj => bI (ik jj)))), (md 7, .inl (G.2 1, 288, .inl (fun jj => bI (im jj))))]) s.heap := hP
  have hD : va_D A ([(md 0, .inr (6, [.ref (md 1), .ref (md 2), .int (nI np), .ref (md 3), .int (nI ty), .int (nI aw), .int (bI iw), .ref (md 4), .float up, .float lo, .int (nI su), .ref (md 5), .ref (md 6), .ref (md 7), .float fo])), (md 1, .inl (G.2 0, 354, .inl a)), (md 2, .inl (G.2 0, 2832, .inl pa)), (md 3, .inl (G.2 3, 60, .inl tb)), (md 4, .inl (G.2 0, 36, .inl qu)), (md 5, .inl (G.2 2, 288, .inr (.inr (.inl kn)))), (md 6, .inl (G.2 1, 288, .inl (fun jj => bI (ik jj)))), (md 7, .inl (G.2 1, 288, .inl (fun jj => bI (im jj))))]) := hD
  subst hiw
  have hP : va_P G.1 vwCl ([(md 0, .inr (6, [.ref (md 1), .ref (md 2), .int (nI np), .ref (md 3), .int (nI ty), .int (nI aw), .int (bI false), .ref (md 4), .float up, .float lo, .int (nI su), .ref (md 5), .ref (md 6), .ref (md 7), .float fo])), (md 1, .inl (G.2 0, 354, .inl a)), (md 2, .inl (G.2 0, 2832, .inl pa)), (md 3, .inl (G.2 3, 60, .inl tb)), (md 4, .inl (G.2 0, 36, .inl qu)), (md 5, .inl (G.2 2, 288, .inr (.inr (.inl kn)))), (md 6, .inl (G.2 1, 288, .inl (fun jj => bI (ik jj)))), (md 7, .inl (G.2 1, 288, .inl (fun jj => bI (im jj))))]) s.heap := hP
  have hD : va_D A ([(md 0, .inr (6, [.ref (md 1), .ref (md 2), .int (nI np), .ref (md 3), .int (nI ty), .int (nI aw), .int (bI false), .ref (md 4), .float up, .float lo, .int (nI su), .ref (md 5), .ref (md 6), .ref (md 7), .float fo])), (md 1, .inl (G.2 0, 354, .inl a)), (md 2, .inl (G.2 0, 2832, .inl pa)), (md 3, .inl (G.2 3, 60, .inl tb)), (md 4, .inl (G.2 0, 36, .inl qu)), (md 5, .inl (G.2 2, 288, .inr (.inr (.inl kn)))), (md 6, .inl (G.2 1, 288, .inl (fun jj => bI (ik jj)))), (md 7, .inl (G.2 1, 288, .inl (fun jj => bI (im jj))))]) := hD
  refine lv_aload_n hx hb dX7_number_0 rfl (lv_at hl 0 rfl) ?_
  refine va_get (D := G.1) (ci := 6) (v := .int (nI aw)) (C := RX7) (T := TX7) (N := 15) hx hb hts (by decide +kernel) hown hK.1 hP 0 rfl rfl 5 (by decide) (hts (.fieldLink RX7 59 "PriceIndexCalculatorModel" "at" "I") (by decide +kernel)) (fun _ h9 => h9) rfl dX7_number_1 ?_
  refine lv_istore_n (lv' := [(2, .int (nI aw)), (0, .ref (md 0)), (1, .int g)]) hx hb dX7_number_4 rfl hl (by decide) rfl (fun ls hl => ?_)
  refine lv_iconst (v := nI 0) hx hb dX7_number_5 (by decide) ?_
  refine lv_istore_n (lv' := [(3, .int (nI 0)), (2, .int (nI aw)), (0, .ref (md 0)), (1, .int g)]) hx hb dX7_number_6 rfl hl (by decide) rfl (fun ls hl => ?_)
  refine lv_iload_n hx hb dX7_number_7 rfl (lv_at hl 1 rfl) ?_
  refine lv_istore (lv' := [(4, .int (nI aw)), (3, .int (nI 0)), (2, .int (nI aw)), (0, .ref (md 0)), (1, .int g)]) hx hb dX7_number_8 hl (by decide) rfl (fun ls hl => ?_)
  refine lpR (S := Nat) (ty) (fun i u => aw ≤ i ∧ u = nVal c9 aw (min (i - aw) 5) ∧ ∀ j, aw ≤ j → j < i → isDg (c9 j) = true) (fun i u => [(0, .ref (md 0)), (1, .int g), (2, .int (nI aw)), (3, .int (nI u)), (4, .int (nI i))]) (fun u ls hI_2 hl => ?_) (fun i u ls hi_3 hI_2 hl ih_1 => ?_) (aw) 0 (by omega) (⟨Nat.le_refl _, by rw [Nat.sub_self]; rfl, fun j a b => absurd b (by omega)⟩) (lv_sub hl [3, 4, 2, 1, 0] rfl)
  · obtain ⟨v9, rfl⟩ : ∃ z, z = u := ⟨_, rfl⟩
    have hl : lv_has ls 5 [(0, .ref (md 0)), (1, .int g), (2, .int (nI aw)), (3, .int (nI v9)), (4, .int (nI ty))] := hl
    have hpi := hI_2.1
    refine lv_aload_n hx hb dX7_number_10 rfl (lv_at hl 0 rfl) ?_
    refine lv_iload hx hb dX7_number_11 (lv_at hl 4 rfl) ?_
    refine cr_i (va_runV (As := [.int (nI ty)]) (rest := []) ⟨hx, hb, hml, hown, hts⟩ (metX7_isDigit l G md a pa np tb ty aw false qu up lo su kn ik im fo c9 hty htb ty (by omega)) (cwV 1 hts gX7_number_X7_isDigit rfl rfl rfl (by decide +kernel) ⟨Nat.le_of_ble_eq_true rfl, Nat.le_of_ble_eq_true rfl⟩) (pR_V (w := mcells G md a pa np tb ty aw false qu up lo su kn ik im fo) (q0 := 0) hK hP rfl rfl) rfl rfl hl.1 rfl (lv_room (Nat.le_of_ble_eq_true rfl)) dX7_number_13 ⟨Nat.zero_le _, Nat.zero_le _⟩) (fun r_4 hr_5 => ?_)
    subst hr_5
    refine nb_if_eq (B := decide (ty < ty) && isDg (c9 ty)) (tgt := 53) hx hb dX7_number_16 (by decide) (fun c_6 => ?_) (fun c_6 => ?_)
    · have hq : nEnd c9 ty aw = ty := nEnd_eq hI_2.1 (by omega) hI_2.2.2 (Or.inl rfl)
      have hv : nV c9 ty aw = v9 := by unfold nV; rw [hq]; exact hI_2.2.1.symm
      refine lv_aload_n hx hb dX7_number_53 rfl (lv_at hl 0 rfl) ?_
      refine lv_aload_n hx hb dX7_number_54 rfl (lv_at hl 0 rfl) ?_
      refine va_get (D := G.1) (ci := 6) (v := .int (bI false)) (C := RX7) (T := TX7) (N := 15) hx hb hts (by decide +kernel) hown hK.1 hP 0 rfl rfl 6 (by decide) (hts (.fieldLink RX7 65 "PriceIndexCalculatorModel" "isWrong" "Z") (by decide +kernel)) (fun _ h9 => h9) rfl dX7_number_55 ?_
      refine nb_if_ne (B := false) (tgt := 99) hx hb dX7_number_58 (by decide) (fun c_7 => ?_) (fun c_7 => ?_)
      · exact absurd c_7 (by decide)
      · refine lv_iload hx hb dX7_number_61 (lv_at hl 4 rfl) ?_
        refine lv_iload_n hx hb dX7_number_63 rfl (lv_at hl 2 rfl) ?_
        refine n_icmp_eq (x := ty) (y := aw) (tgt := 99) hx hb (by omega) (by omega) dX7_number_64 (by decide) (fun c_8 => ?_) (fun c_8 => ?_)
        · refine lv_iconst (v := nI 1) hx hb dX7_number_99 (by decide) ?_
          refine lv_goto (tgt := 104) hx hb dX7_number_100 (by decide) ?_
          have hfm : nFm c9 aw (ty - aw) = false := by unfold nFm; simp; omega
          have hok : nOk c9 ty g aw = false := by unfold nOk; rw [hq, hfm]; rfl
          refine eq_i (y := bI true) rfl ?_
          refine va_put (D := G.1) (ci := 6) (v := .int (bI true)) (ty := .boolean) (C := RX7) (T := TX7) (N := 15) hx hb hts (by decide +kernel) tyX7 tyX7_ok nmX7 hown hK.1 hP hD hS 0 rfl rfl 6 (by decide) (hts (.fieldLink RX7 65 "PriceIndexCalculatorModel" "isWrong" "Z") (by decide +kernel)) (fun _ h9 => h9) rfl (by decide +kernel) (by rfl) (by rfl) (Nat.le_of_ble_eq_true rfl) dX7_number_104 (fun H locs hP hD hS => ?_)
          have hP : va_P G.1 vwCl ([(md 0, .inr (6, [.ref (md 1), .ref (md 2), .int (nI np), .ref (md 3), .int (nI ty), .int (nI aw), .int (bI true), .ref (md 4), .float up, .float lo, .int (nI su), .ref (md 5), .ref (md 6), .ref (md 7), .float fo])), (md 1, .inl (G.2 0, 354, .inl a)), (md 2, .inl (G.2 0, 2832, .inl pa)), (md 3, .inl (G.2 3, 60, .inl tb)), (md 4, .inl (G.2 0, 36, .inl qu)), (md 5, .inl (G.2 2, 288, .inr (.inr (.inl kn)))), (md 6, .inl (G.2 1, 288, .inl (fun jj => bI (ik jj)))), (md 7, .inl (G.2 1, 288, .inl (fun jj => bI (im jj))))]) H := hP
          have hD : va_D A ([(md 0, .inr (6, [.ref (md 1), .ref (md 2), .int (nI np), .ref (md 3), .int (nI ty), .int (nI aw), .int (bI true), .ref (md 4), .float up, .float lo, .int (nI su), .ref (md 5), .ref (md 6), .ref (md 7), .float fo])), (md 1, .inl (G.2 0, 354, .inl a)), (md 2, .inl (G.2 0, 2832, .inl pa)), (md 3, .inl (G.2 3, 60, .inl tb)), (md 4, .inl (G.2 0, 36, .inl qu)), (md 5, .inl (G.2 2, 288, .inr (.inr (.inl kn)))), (md 6, .inl (G.2 1, 288, .inl (fun jj => bI (ik jj)))), (md 7, .inl (G.2 1, 288, .inl (fun jj => bI (im jj))))]) := hD
          refine lv_aload_n hx hb dX7_number_107 rfl (lv_at hl 0 rfl) ?_
          refine lv_aload_n hx hb dX7_number_108 rfl (lv_at hl 0 rfl) ?_
          refine va_get (D := G.1) (ci := 6) (v := .int (bI true)) (C := RX7) (T := TX7) (N := 15) hx hb hts (by decide +kernel) hown hK.1 hP 0 rfl rfl 6 (by decide) (hts (.fieldLink RX7 65 "PriceIndexCalculatorModel" "isWrong" "Z") (by decide +kernel)) (fun _ h9 => h9) rfl dX7_number_109 ?_
          refine nb_if_eq (B := true) (tgt := 119) hx hb dX7_number_112 (by decide) (fun c_9 => ?_) (fun c_9 => ?_)
          · exact absurd c_9 (by decide)
          · refine lv_iload_n hx hb dX7_number_115 rfl (lv_at hl 2 rfl) ?_
            refine lv_goto (tgt := 121) hx hb dX7_number_116 (by decide) ?_
            refine va_put (D := G.1) (ci := 6) (v := .int (nI aw)) (ty := .int) (C := RX7) (T := TX7) (N := 15) hx hb hts (by decide +kernel) tyX7 tyX7_ok nmX7 hown hK.1 hP hD hS 0 rfl rfl 5 (by decide) (hts (.fieldLink RX7 59 "PriceIndexCalculatorModel" "at" "I") (by decide +kernel)) (fun _ h9 => h9) rfl (by decide +kernel) rfl rfl (Nat.le_of_ble_eq_true rfl) dX7_number_121 (fun H locs hP hD hS => ?_)
            have hP : va_P G.1 vwCl ([(md 0, .inr (6, [.ref (md 1), .ref (md 2), .int (nI np), .ref (md 3), .int (nI ty), .int (nI aw), .int (bI true), .ref (md 4), .float up, .float lo, .int (nI su), .ref (md 5), .ref (md 6), .ref (md 7), .float fo])), (md 1, .inl (G.2 0, 354, .inl a)), (md 2, .inl (G.2 0, 2832, .inl pa)), (md 3, .inl (G.2 3, 60, .inl tb)), (md 4, .inl (G.2 0, 36, .inl qu)), (md 5, .inl (G.2 2, 288, .inr (.inr (.inl kn)))), (md 6, .inl (G.2 1, 288, .inl (fun jj => bI (ik jj)))), (md 7, .inl (G.2 1, 288, .inl (fun jj => bI (im jj))))]) H := hP
            have hD : va_D A ([(md 0, .inr (6, [.ref (md 1), .ref (md 2), .int (nI np), .ref (md 3), .int (nI ty), .int (nI aw), .int (bI true), .ref (md 4), .float up, .float lo, .int (nI su), .ref (md 5), .ref (md 6), .ref (md 7), .float fo])), (md 1, .inl (G.2 0, 354, .inl a)), (md 2, .inl (G.2 0, 2832, .inl pa)), (md 3, .inl (G.2 3, 60, .inl tb)), (md 4, .inl (G.2 0, 36, .inl qu)), (md 5, .inl (G.2 2, 288, .inr (.inr (.inl kn)))), (md 6, .inl (G.2 1, 288, .inl (fun jj => bI (ik jj)))), (md 7, .inl (G.2 1, 288, .inl (fun jj => bI (im jj))))]) := hD
            refine lv_iload_n hx hb dX7_number_124 rfl (lv_at hl 3 rfl) ?_
            have hP9 : va_P G.1 vwCl (mcells G md a pa np tb ty (rnP c9 ty g aw) (!nOk c9 ty g aw) qu up lo su kn ik im fo) H := by unfold rnP; rw [hok]; exact hP
            exact W.iret (v := nI v9) hx hb hr (fun t ht hW => ⟨⟨_, (), rfl, (congrArg nI hv.symm), bM_end ht hP9⟩, hS.F ht⟩) hS.2.2 dX7_number_125
        · refine lv_iload hx hb dX7_number_67 (lv_at hl 4 rfl) ?_
          refine lv_iload_n hx hb dX7_number_69 rfl (lv_at hl 2 rfl) ?_
          refine n_sub hx hb (by omega) dX7_number_70 ?_
          refine lv_iconst (v := nI 5) hx hb dX7_number_71 (by decide) ?_
          refine n_icmp_gt (x := ty - aw) (y := 5) (tgt := 99) hx hb (by omega) (by omega) dX7_number_72 (by decide) (fun c_10 => ?_) (fun c_10 => ?_)
          · refine lv_iconst (v := nI 1) hx hb dX7_number_99 (by decide) ?_
            refine lv_goto (tgt := 104) hx hb dX7_number_100 (by decide) ?_
            have hfm : nFm c9 aw (ty - aw) = false := by unfold nFm; simp; omega
            have hok : nOk c9 ty g aw = false := by unfold nOk; rw [hq, hfm]; rfl
            refine eq_i (y := bI true) rfl ?_
            refine va_put (D := G.1) (ci := 6) (v := .int (bI true)) (ty := .boolean) (C := RX7) (T := TX7) (N := 15) hx hb hts (by decide +kernel) tyX7 tyX7_ok nmX7 hown hK.1 hP hD hS 0 rfl rfl 6 (by decide) (hts (.fieldLink RX7 65 "PriceIndexCalculatorModel" "isWrong" "Z") (by decide +kernel)) (fun _ h9 => h9) rfl (by decide +kernel) (by rfl) (by rfl) (Nat.le_of_ble_eq_true rfl) dX7_number_104 (fun H locs hP hD hS => ?_)
            have hP : va_P G.1 vwCl ([(md 0, .inr (6, [.ref (md 1), .ref (md 2), .int (nI np), .ref (md 3), .int (nI ty), .int (nI aw), .int (bI true), .ref (md 4), .float up, .float lo, .int (nI su), .ref (md 5), .ref (md 6), .ref (md 7), .float fo])), (md 1, .inl (G.2 0, 354, .inl a)), (md 2, .inl (G.2 0, 2832, .inl pa)), (md 3, .inl (G.2 3, 60, .inl tb)), (md 4, .inl (G.2 0, 36, .inl qu)), (md 5, .inl (G.2 2, 288, .inr (.inr (.inl kn)))), (md 6, .inl (G.2 1, 288, .inl (fun jj => bI (ik jj)))), (md 7, .inl (G.2 1, 288, .inl (fun jj => bI (im jj))))]) H := hP
            have hD : va_D A ([(md 0, .inr (6, [.ref (md 1), .ref (md 2), .int (nI np), .ref (md 3), .int (nI ty), .int (nI aw), .int (bI true), .ref (md 4), .float up, .float lo, .int (nI su), .ref (md 5), .ref (md 6), .ref (md 7), .float fo])), (md 1, .inl (G.2 0, 354, .inl a)), (md 2, .inl (G.2 0, 2832, .inl pa)), (md 3, .inl (G.2 3, 60, .inl tb)), (md 4, .inl (G.2 0, 36, .inl qu)), (md 5, .inl (G.2 2, 288, .inr (.inr (.inl kn)))), (md 6, .inl (G.2 1, 288, .inl (fun jj => bI (ik jj)))), (md 7, .inl (G.2 1, 288, .inl (fun jj => bI (im jj))))]) := hD
            refine lv_aload_n hx hb dX7_number_107 rfl (lv_at hl 0 rfl) ?_
            refine lv_aload_n hx hb dX7_number_108 rfl (lv_at hl 0 rfl) ?_
            refine va_get (D := G.1) (ci := 6) (v := .int (bI true)) (C := RX7) (T := TX7) (N := 15) hx hb hts (by decide +kernel) hown hK.1 hP 0 rfl rfl 6 (by decide) (hts (.fieldLink RX7 65 "PriceIndexCalculatorModel" "isWrong" "Z") (by decide +kernel)) (fun _ h9 => h9) rfl dX7_number_109 ?_
            refine nb_if_eq (B := true) (tgt := 119) hx hb dX7_number_112 (by decide) (fun c_11 => ?_) (fun c_11 => ?_)
            · exact absurd c_11 (by decide)
            · refine lv_iload_n hx hb dX7_number_115 rfl (lv_at hl 2 rfl) ?_
              refine lv_goto (tgt := 121) hx hb dX7_number_116 (by decide) ?_
              refine va_put (D := G.1) (ci := 6) (v := .int (nI aw)) (ty := .int) (C := RX7) (T := TX7) (N := 15) hx hb hts (by decide +kernel) tyX7 tyX7_ok nmX7 hown hK.1 hP hD hS 0 rfl rfl 5 (by decide) (hts (.fieldLink RX7 59 "PriceIndexCalculatorModel" "at" "I") (by decide +kernel)) (fun _ h9 => h9) rfl (by decide +kernel) rfl rfl (Nat.le_of_ble_eq_true rfl) dX7_number_121 (fun H locs hP hD hS => ?_)
              have hP : va_P G.1 vwCl ([(md 0, .inr (6, [.ref (md 1), .ref (md 2), .int (nI np), .ref (md 3), .int (nI ty), .int (nI aw), .int (bI true), .ref (md 4), .float up, .float lo, .int (nI su), .ref (md 5), .ref (md 6), .ref (md 7), .float fo])), (md 1, .inl (G.2 0, 354, .inl a)), (md 2, .inl (G.2 0, 2832, .inl pa)), (md 3, .inl (G.2 3, 60, .inl tb)), (md 4, .inl (G.2 0, 36, .inl qu)), (md 5, .inl (G.2 2, 288, .inr (.inr (.inl kn)))), (md 6, .inl (G.2 1, 288, .inl (fun jj => bI (ik jj)))), (md 7, .inl (G.2 1, 288, .inl (fun jj => bI (im jj))))]) H := hP
              have hD : va_D A ([(md 0, .inr (6, [.ref (md 1), .ref (md 2), .int (nI np), .ref (md 3), .int (nI ty), .int (nI aw), .int (bI true), .ref (md 4), .float up, .float lo, .int (nI su), .ref (md 5), .ref (md 6), .ref (md 7), .float fo])), (md 1, .inl (G.2 0, 354, .inl a)), (md 2, .inl (G.2 0, 2832, .inl pa)), (md 3, .inl (G.2 3, 60, .inl tb)), (md 4, .inl (G.2 0, 36, .inl qu)), (md 5, .inl (G.2 2, 288, .inr (.inr (.inl kn)))), (md 6, .inl (G.2 1, 288, .inl (fun jj => bI (ik jj)))), (md 7, .inl (G.2 1, 288, .inl (fun jj => bI (im jj))))]) := hD
              refine lv_iload_n hx hb dX7_number_124 rfl (lv_at hl 3 rfl) ?_
              have hP9 : va_P G.1 vwCl (mcells G md a pa np tb ty (rnP c9 ty g aw) (!nOk c9 ty g aw) qu up lo su kn ik im fo) H := by unfold rnP; rw [hok]; exact hP
              exact W.iret (v := nI v9) hx hb hr (fun t ht hW => ⟨⟨_, (), rfl, (congrArg nI hv.symm), bM_end ht hP9⟩, hS.F ht⟩) hS.2.2 dX7_number_125
          · refine lv_iload hx hb dX7_number_75 (lv_at hl 4 rfl) ?_
            refine lv_iload_n hx hb dX7_number_77 rfl (lv_at hl 2 rfl) ?_
            refine n_sub hx hb (by omega) dX7_number_78 ?_
            refine lv_iconst (v := nI 1) hx hb dX7_number_79 (by decide) ?_
            refine n_icmp_le (x := ty - aw) (y := 1) (tgt := 94) hx hb (by omega) (by omega) dX7_number_80 (by decide) (fun c_12 => ?_) (fun c_12 => ?_)
            · refine lv_iload_n hx hb dX7_number_94 rfl (lv_at hl 3 rfl) ?_
              refine lv_iload_n hx hb dX7_number_95 rfl (lv_at hl 1 rfl) ?_
              refine lv_icmp_le (tgt := 103) hx hb dX7_number_96 (by decide) (fun c_13 => ?_) (fun c_13 => ?_)
              · refine lv_iconst (v := nI 0) hx hb dX7_number_103 (by decide) ?_
                have hgt : decide (g < nI v9) = false := by simpa [Int32.not_le, Int32.not_lt] using c_13
                have hfm : nFm c9 aw (ty - aw) = true := by unfold nFm; simp; omega
                have hok : nOk c9 ty g aw = true := by unfold nOk; rw [hq, hv, hgt, hfm]; rfl
                refine eq_i (y := bI false) rfl ?_
                refine va_put (D := G.1) (ci := 6) (v := .int (bI false)) (ty := .boolean) (C := RX7) (T := TX7) (N := 15) hx hb hts (by decide +kernel) tyX7 tyX7_ok nmX7 hown hK.1 hP hD hS 0 rfl rfl 6 (by decide) (hts (.fieldLink RX7 65 "PriceIndexCalculatorModel" "isWrong" "Z") (by decide +kernel)) (fun _ h9 => h9) rfl (by decide +kernel) (by rfl) (by rfl) (Nat.le_of_ble_eq_true rfl) dX7_number_104 (fun H locs hP hD hS => ?_)
                have hP : va_P G.1 vwCl ([(md 0, .inr (6, [.ref (md 1), .ref (md 2), .int (nI np), .ref (md 3), .int (nI ty), .int (nI aw), .int (bI false), .ref (md 4), .float up, .float lo, .int (nI su), .ref (md 5), .ref (md 6), .ref (md 7), .float fo])), (md 1, .inl (G.2 0, 354, .inl a)), (md 2, .inl (G.2 0, 2832, .inl pa)), (md 3, .inl (G.2 3, 60, .inl tb)), (md 4, .inl (G.2 0, 36, .inl qu)), (md 5, .inl (G.2 2, 288, .inr (.inr (.inl kn)))), (md 6, .inl (G.2 1, 288, .inl (fun jj => bI (ik jj)))), (md 7, .inl (G.2 1, 288, .inl (fun jj => bI (im jj))))]) H := hP
                have hD : va_D A ([(md 0, .inr (6, [.ref (md 1), .ref (md 2), .int (nI np), .ref (md 3), .int (nI ty), .int (nI aw), .int (bI false), .ref (md 4), .float up, .float lo, .int (nI su), .ref (md 5), .ref (md 6), .ref (md 7), .float fo])), (md 1, .inl (G.2 0, 354, .inl a)), (md 2, .inl (G.2 0, 2832, .inl pa)), (md 3, .inl (G.2 3, 60, .inl tb)), (md 4, .inl (G.2 0, 36, .inl qu)), (md 5, .inl (G.2 2, 288, .inr (.inr (.inl kn)))), (md 6, .inl (G.2 1, 288, .inl (fun jj => bI (ik jj)))), (md 7, .inl (G.2 1, 288, .inl (fun jj => bI (im jj))))]) := hD
                refine lv_aload_n hx hb dX7_number_107 rfl (lv_at hl 0 rfl) ?_
                refine lv_aload_n hx hb dX7_number_108 rfl (lv_at hl 0 rfl) ?_
                refine va_get (D := G.1) (ci := 6) (v := .int (bI false)) (C := RX7) (T := TX7) (N := 15) hx hb hts (by decide +kernel) hown hK.1 hP 0 rfl rfl 6 (by decide) (hts (.fieldLink RX7 65 "PriceIndexCalculatorModel" "isWrong" "Z") (by decide +kernel)) (fun _ h9 => h9) rfl dX7_number_109 ?_
                refine nb_if_eq (B := false) (tgt := 119) hx hb dX7_number_112 (by decide) (fun c_14 => ?_) (fun c_14 => ?_)
                · refine lv_iload hx hb dX7_number_119 (lv_at hl 4 rfl) ?_
                  refine va_put (D := G.1) (ci := 6) (v := .int (nI ty)) (ty := .int) (C := RX7) (T := TX7) (N := 15) hx hb hts (by decide +kernel) tyX7 tyX7_ok nmX7 hown hK.1 hP hD hS 0 rfl rfl 5 (by decide) (hts (.fieldLink RX7 59 "PriceIndexCalculatorModel" "at" "I") (by decide +kernel)) (fun _ h9 => h9) rfl (by decide +kernel) rfl rfl (Nat.le_of_ble_eq_true rfl) dX7_number_121 (fun H locs hP hD hS => ?_)
                  have hP : va_P G.1 vwCl ([(md 0, .inr (6, [.ref (md 1), .ref (md 2), .int (nI np), .ref (md 3), .int (nI ty), .int (nI ty), .int (bI false), .ref (md 4), .float up, .float lo, .int (nI su), .ref (md 5), .ref (md 6), .ref (md 7), .float fo])), (md 1, .inl (G.2 0, 354, .inl a)), (md 2, .inl (G.2 0, 2832, .inl pa)), (md 3, .inl (G.2 3, 60, .inl tb)), (md 4, .inl (G.2 0, 36, .inl qu)), (md 5, .inl (G.2 2, 288, .inr (.inr (.inl kn)))), (md 6, .inl (G.2 1, 288, .inl (fun jj => bI (ik jj)))), (md 7, .inl (G.2 1, 288, .inl (fun jj => bI (im jj))))]) H := hP
                  have hD : va_D A ([(md 0, .inr (6, [.ref (md 1), .ref (md 2), .int (nI np), .ref (md 3), .int (nI ty), .int (nI ty), .int (bI false), .ref (md 4), .float up, .float lo, .int (nI su), .ref (md 5), .ref (md 6), .ref (md 7), .float fo])), (md 1, .inl (G.2 0, 354, .inl a)), (md 2, .inl (G.2 0, 2832, .inl pa)), (md 3, .inl (G.2 3, 60, .inl tb)), (md 4, .inl (G.2 0, 36, .inl qu)), (md 5, .inl (G.2 2, 288, .inr (.inr (.inl kn)))), (md 6, .inl (G.2 1, 288, .inl (fun jj => bI (ik jj)))), (md 7, .inl (G.2 1, 288, .inl (fun jj => bI (im jj))))]) := hD
                  refine lv_iload_n hx hb dX7_number_124 rfl (lv_at hl 3 rfl) ?_
                  have hP9 : va_P G.1 vwCl (mcells G md a pa np tb ty (rnP c9 ty g aw) (!nOk c9 ty g aw) qu up lo su kn ik im fo) H := by unfold rnP; rw [hok]; rw [hq]; exact hP
                  exact W.iret (v := nI v9) hx hb hr (fun t ht hW => ⟨⟨_, (), rfl, (congrArg nI hv.symm), bM_end ht hP9⟩, hS.F ht⟩) hS.2.2 dX7_number_125
                · exact absurd c_14 (by decide)
              · refine lv_iconst (v := nI 1) hx hb dX7_number_99 (by decide) ?_
                refine lv_goto (tgt := 104) hx hb dX7_number_100 (by decide) ?_
                have hgt : decide (g < nI v9) = true := by simpa [Int32.not_le, Int32.not_lt] using c_13
                have hfm : nFm c9 aw (ty - aw) = true := by unfold nFm; simp; omega
                have hok : nOk c9 ty g aw = false := by unfold nOk; rw [hq, hv, hgt, hfm]; rfl
                refine eq_i (y := bI true) rfl ?_
                refine va_put (D := G.1) (ci := 6) (v := .int (bI true)) (ty := .boolean) (C := RX7) (T := TX7) (N := 15) hx hb hts (by decide +kernel) tyX7 tyX7_ok nmX7 hown hK.1 hP hD hS 0 rfl rfl 6 (by decide) (hts (.fieldLink RX7 65 "PriceIndexCalculatorModel" "isWrong" "Z") (by decide +kernel)) (fun _ h9 => h9) rfl (by decide +kernel) (by rfl) (by rfl) (Nat.le_of_ble_eq_true rfl) dX7_number_104 (fun H locs hP hD hS => ?_)
                have hP : va_P G.1 vwCl ([(md 0, .inr (6, [.ref (md 1), .ref (md 2), .int (nI np), .ref (md 3), .int (nI ty), .int (nI aw), .int (bI true), .ref (md 4), .float up, .float lo, .int (nI su), .ref (md 5), .ref (md 6), .ref (md 7), .float fo])), (md 1, .inl (G.2 0, 354, .inl a)), (md 2, .inl (G.2 0, 2832, .inl pa)), (md 3, .inl (G.2 3, 60, .inl tb)), (md 4, .inl (G.2 0, 36, .inl qu)), (md 5, .inl (G.2 2, 288, .inr (.inr (.inl kn)))), (md 6, .inl (G.2 1, 288, .inl (fun jj => bI (ik jj)))), (md 7, .inl (G.2 1, 288, .inl (fun jj => bI (im jj))))]) H := hP
                have hD : va_D A ([(md 0, .inr (6, [.ref (md 1), .ref (md 2), .int (nI np), .ref (md 3), .int (nI ty), .int (nI aw), .int (bI true), .ref (md 4), .float up, .float lo, .int (nI su), .ref (md 5), .ref (md 6), .ref (md 7), .float fo])), (md 1, .inl (G.2 0, 354, .inl a)), (md 2, .inl (G.2 0, 2832, .inl pa)), (md 3, .inl (G.2 3, 60, .inl tb)), (md 4, .inl (G.2 0, 36, .inl qu)), (md 5, .inl (G.2 2, 288, .inr (.inr (.inl kn)))), (md 6, .inl (G.2 1, 288, .inl (fun jj => bI (ik jj)))), (md 7, .inl (G.2 1, 288, .inl (fun jj => bI (im jj))))]) := hD
                refine lv_aload_n hx hb dX7_number_107 rfl (lv_at hl 0 rfl) ?_
                refine lv_aload_n hx hb dX7_number_108 rfl (lv_at hl 0 rfl) ?_
                refine va_get (D := G.1) (ci := 6) (v := .int (bI true)) (C := RX7) (T := TX7) (N := 15) hx hb hts (by decide +kernel) hown hK.1 hP 0 rfl rfl 6 (by decide) (hts (.fieldLink RX7 65 "PriceIndexCalculatorModel" "isWrong" "Z") (by decide +kernel)) (fun _ h9 => h9) rfl dX7_number_109 ?_
                refine nb_if_eq (B := true) (tgt := 119) hx hb dX7_number_112 (by decide) (fun c_15 => ?_) (fun c_15 => ?_)
                · exact absurd c_15 (by decide)
                · refine lv_iload_n hx hb dX7_number_115 rfl (lv_at hl 2 rfl) ?_
                  refine lv_goto (tgt := 121) hx hb dX7_number_116 (by decide) ?_
                  refine va_put (D := G.1) (ci := 6) (v := .int (nI aw)) (ty := .int) (C := RX7) (T := TX7) (N := 15) hx hb hts (by decide +kernel) tyX7 tyX7_ok nmX7 hown hK.1 hP hD hS 0 rfl rfl 5 (by decide) (hts (.fieldLink RX7 59 "PriceIndexCalculatorModel" "at" "I") (by decide +kernel)) (fun _ h9 => h9) rfl (by decide +kernel) rfl rfl (Nat.le_of_ble_eq_true rfl) dX7_number_121 (fun H locs hP hD hS => ?_)
                  have hP : va_P G.1 vwCl ([(md 0, .inr (6, [.ref (md 1), .ref (md 2), .int (nI np), .ref (md 3), .int (nI ty), .int (nI aw), .int (bI true), .ref (md 4), .float up, .float lo, .int (nI su), .ref (md 5), .ref (md 6), .ref (md 7), .float fo])), (md 1, .inl (G.2 0, 354, .inl a)), (md 2, .inl (G.2 0, 2832, .inl pa)), (md 3, .inl (G.2 3, 60, .inl tb)), (md 4, .inl (G.2 0, 36, .inl qu)), (md 5, .inl (G.2 2, 288, .inr (.inr (.inl kn)))), (md 6, .inl (G.2 1, 288, .inl (fun jj => bI (ik jj)))), (md 7, .inl (G.2 1, 288, .inl (fun jj => bI (im jj))))]) H := hP
                  have hD : va_D A ([(md 0, .inr (6, [.ref (md 1), .ref (md 2), .int (nI np), .ref (md 3), .int (nI ty), .int (nI aw), .int (bI true), .ref (md 4), .float up, .float lo, .int (nI su), .ref (md 5), .ref (md 6), .ref (md 7), .float fo])), (md 1, .inl (G.2 0, 354, .inl a)), (md 2, .inl (G.2 0, 2832, .inl pa)), (md 3, .inl (G.2 3, 60, .inl tb)), (md 4, .inl (G.2 0, 36, .inl qu)), (md 5, .inl (G.2 2, 288, .inr (.inr (.inl kn)))), (md 6, .inl (G.2 1, 288, .inl (fun jj => bI (ik jj)))), (md 7, .inl (G.2 1, 288, .inl (fun jj => bI (im jj))))]) := hD
                  refine lv_iload_n hx hb dX7_number_124 rfl (lv_at hl 3 rfl) ?_
                  have hP9 : va_P G.1 vwCl (mcells G md a pa np tb ty (rnP c9 ty g aw) (!nOk c9 ty g aw) qu up lo su kn ik im fo) H := by unfold rnP; rw [hok]; exact hP
                  exact W.iret (v := nI v9) hx hb hr (fun t ht hW => ⟨⟨_, (), rfl, (congrArg nI hv.symm), bM_end ht hP9⟩, hS.F ht⟩) hS.2.2 dX7_number_125
            · have hda := hI_2.2.2 aw (Nat.le_refl _) (by omega)
              have hca := (htb aw (by omega)).2
              refine lv_aload_n hx hb dX7_number_83 rfl (lv_at hl 0 rfl) ?_
              refine va_get (D := G.1) (ci := 6) (v := .ref (md 3)) (C := RX7) (T := TX7) (N := 15) hx hb hts (by decide +kernel) hown hK.1 hP 0 rfl rfl 3 (by decide) (hts (.fieldLink RX7 16 "PriceIndexCalculatorModel" "text" "[B") (by decide +kernel)) (fun _ h9 => h9) rfl dX7_number_84 ?_
              refine lv_iload_n hx hb dX7_number_87 rfl (lv_at hl 2 rfl) ?_
              refine n_bald hx hb hK.1 hP 3 3 rfl rfl (j := aw) (by omega) (by omega) dX7_number_88 ?_
              refine eq_i (y := nI (c9 aw)) ((htb aw (by omega)).1.trans (sbB_dig hda)) ?_
              refine lv_bipush (v := nI 48) hx hb dX7_number_89 (by decide) ?_
              refine n_icmp_eq (x := c9 aw) (y := 48) (tgt := 99) hx hb (by omega) (by omega) dX7_number_91 (by decide) (fun c_16 => ?_) (fun c_16 => ?_)
              · refine lv_iconst (v := nI 1) hx hb dX7_number_99 (by decide) ?_
                refine lv_goto (tgt := 104) hx hb dX7_number_100 (by decide) ?_
                have hfm : nFm c9 aw (ty - aw) = false := by unfold nFm; simp; omega
                have hok : nOk c9 ty g aw = false := by unfold nOk; rw [hq, hfm]; rfl
                refine eq_i (y := bI true) rfl ?_
                refine va_put (D := G.1) (ci := 6) (v := .int (bI true)) (ty := .boolean) (C := RX7) (T := TX7) (N := 15) hx hb hts (by decide +kernel) tyX7 tyX7_ok nmX7 hown hK.1 hP hD hS 0 rfl rfl 6 (by decide) (hts (.fieldLink RX7 65 "PriceIndexCalculatorModel" "isWrong" "Z") (by decide +kernel)) (fun _ h9 => h9) rfl (by decide +kernel) (by rfl) (by rfl) (Nat.le_of_ble_eq_true rfl) dX7_number_104 (fun H locs hP hD hS => ?_)
                have hP : va_P G.1 vwCl ([(md 0, .inr (6, [.ref (md 1), .ref (md 2), .int (nI np), .ref (md 3), .int (nI ty), .int (nI aw), .int (bI true), .ref (md 4), .float up, .float lo, .int (nI su), .ref (md 5), .ref (md 6), .ref (md 7), .float fo])), (md 1, .inl (G.2 0, 354, .inl a)), (md 2, .inl (G.2 0, 2832, .inl pa)), (md 3, .inl (G.2 3, 60, .inl tb)), (md 4, .inl (G.2 0, 36, .inl qu)), (md 5, .inl (G.2 2, 288, .inr (.inr (.inl kn)))), (md 6, .inl (G.2 1, 288, .inl (fun jj => bI (ik jj)))), (md 7, .inl (G.2 1, 288, .inl (fun jj => bI (im jj))))]) H := hP
                have hD : va_D A ([(md 0, .inr (6, [.ref (md 1), .ref (md 2), .int (nI np), .ref (md 3), .int (nI ty), .int (nI aw), .int (bI true), .ref (md 4), .float up, .float lo, .int (nI su), .ref (md 5), .ref (md 6), .ref (md 7), .float fo])), (md 1, .inl (G.2 0, 354, .inl a)), (md 2, .inl (G.2 0, 2832, .inl pa)), (md 3, .inl (G.2 3, 60, .inl tb)), (md 4, .inl (G.2 0, 36, .inl qu)), (md 5, .inl (G.2 2, 288, .inr (.inr (.inl kn)))), (md 6, .inl (G.2 1, 288, .inl (fun jj => bI (ik jj)))), (md 7, .inl (G.2 1, 288, .inl (fun jj => bI (im jj))))]) := hD
                refine lv_aload_n hx hb dX7_number_107 rfl (lv_at hl 0 rfl) ?_
                refine lv_aload_n hx hb dX7_number_108 rfl (lv_at hl 0 rfl) ?_
                refine va_get (D := G.1) (ci := 6) (v := .int (bI true)) (C := RX7) (T := TX7) (N := 15) hx hb hts (by decide +kernel) hown hK.1 hP 0 rfl rfl 6 (by decide) (hts (.fieldLink RX7 65 "PriceIndexCalculatorModel" "isWrong" "Z") (by decide +kernel)) (fun _ h9 => h9) rfl dX7_number_109 ?_
                refine nb_if_eq (B := true) (tgt := 119) hx hb dX7_number_112 (by decide) (fun c_17 => ?_) (fun c_17 => ?_)
                · exact absurd c_17 (by decide)
                · refine lv_iload_n hx hb dX7_number_115 rfl (lv_at hl 2 rfl) ?_
                  refine lv_goto (tgt := 121) hx hb dX7_number_116 (by decide) ?_
                  refine va_put (D := G.1) (ci := 6) (v := .int (nI aw)) (ty := .int) (C := RX7) (T := TX7) (N := 15) hx hb hts (by decide +kernel) tyX7 tyX7_ok nmX7 hown hK.1 hP hD hS 0 rfl rfl 5 (by decide) (hts (.fieldLink RX7 59 "PriceIndexCalculatorModel" "at" "I") (by decide +kernel)) (fun _ h9 => h9) rfl (by decide +kernel) rfl rfl (Nat.le_of_ble_eq_true rfl) dX7_number_121 (fun H locs hP hD hS => ?_)
                  have hP : va_P G.1 vwCl ([(md 0, .inr (6, [.ref (md 1), .ref (md 2), .int (nI np), .ref (md 3), .int (nI ty), .int (nI aw), .int (bI true), .ref (md 4), .float up, .float lo, .int (nI su), .ref (md 5), .ref (md 6), .ref (md 7), .float fo])), (md 1, .inl (G.2 0, 354, .inl a)), (md 2, .inl (G.2 0, 2832, .inl pa)), (md 3, .inl (G.2 3, 60, .inl tb)), (md 4, .inl (G.2 0, 36, .inl qu)), (md 5, .inl (G.2 2, 288, .inr (.inr (.inl kn)))), (md 6, .inl (G.2 1, 288, .inl (fun jj => bI (ik jj)))), (md 7, .inl (G.2 1, 288, .inl (fun jj => bI (im jj))))]) H := hP
                  have hD : va_D A ([(md 0, .inr (6, [.ref (md 1), .ref (md 2), .int (nI np), .ref (md 3), .int (nI ty), .int (nI aw), .int (bI true), .ref (md 4), .float up, .float lo, .int (nI su), .ref (md 5), .ref (md 6), .ref (md 7), .float fo])), (md 1, .inl (G.2 0, 354, .inl a)), (md 2, .inl (G.2 0, 2832, .inl pa)), (md 3, .inl (G.2 3, 60, .inl tb)), (md 4, .inl (G.2 0, 36, .inl qu)), (md 5, .inl (G.2 2, 288, .inr (.inr (.inl kn)))), (md 6, .inl (G.2 1, 288, .inl (fun jj => bI (ik jj)))), (md 7, .inl (G.2 1, 288, .inl (fun jj => bI (im jj))))]) := hD
                  refine lv_iload_n hx hb dX7_number_124 rfl (lv_at hl 3 rfl) ?_
                  have hP9 : va_P G.1 vwCl (mcells G md a pa np tb ty (rnP c9 ty g aw) (!nOk c9 ty g aw) qu up lo su kn ik im fo) H := by unfold rnP; rw [hok]; exact hP
                  exact W.iret (v := nI v9) hx hb hr (fun t ht hW => ⟨⟨_, (), rfl, (congrArg nI hv.symm), bM_end ht hP9⟩, hS.F ht⟩) hS.2.2 dX7_number_125
              · refine lv_iload_n hx hb dX7_number_94 rfl (lv_at hl 3 rfl) ?_
                refine lv_iload_n hx hb dX7_number_95 rfl (lv_at hl 1 rfl) ?_
                refine lv_icmp_le (tgt := 103) hx hb dX7_number_96 (by decide) (fun c_18 => ?_) (fun c_18 => ?_)
                · refine lv_iconst (v := nI 0) hx hb dX7_number_103 (by decide) ?_
                  have hgt : decide (g < nI v9) = false := by simpa [Int32.not_le, Int32.not_lt] using c_18
                  have hfm : nFm c9 aw (ty - aw) = true := by unfold nFm; simp; omega
                  have hok : nOk c9 ty g aw = true := by unfold nOk; rw [hq, hv, hgt, hfm]; rfl
                  refine eq_i (y := bI false) rfl ?_
                  refine va_put (D := G.1) (ci := 6) (v := .int (bI false)) (ty := .boolean) (C := RX7) (T := TX7) (N := 15) hx hb hts (by decide +kernel) tyX7 tyX7_ok nmX7 hown hK.1 hP hD hS 0 rfl rfl 6 (by decide) (hts (.fieldLink RX7 65 "PriceIndexCalculatorModel" "isWrong" "Z") (by decide +kernel)) (fun _ h9 => h9) rfl (by decide +kernel) (by rfl) (by rfl) (Nat.le_of_ble_eq_true rfl) dX7_number_104 (fun H locs hP hD hS => ?_)
                  have hP : va_P G.1 vwCl ([(md 0, .inr (6, [.ref (md 1), .ref (md 2), .int (nI np), .ref (md 3), .int (nI ty), .int (nI aw), .int (bI false), .ref (md 4), .float up, .float lo, .int (nI su), .ref (md 5), .ref (md 6), .ref (md 7), .float fo])), (md 1, .inl (G.2 0, 354, .inl a)), (md 2, .inl (G.2 0, 2832, .inl pa)), (md 3, .inl (G.2 3, 60, .inl tb)), (md 4, .inl (G.2 0, 36, .inl qu)), (md 5, .inl (G.2 2, 288, .inr (.inr (.inl kn)))), (md 6, .inl (G.2 1, 288, .inl (fun jj => bI (ik jj)))), (md 7, .inl (G.2 1, 288, .inl (fun jj => bI (im jj))))]) H := hP
                  have hD : va_D A ([(md 0, .inr (6, [.ref (md 1), .ref (md 2), .int (nI np), .ref (md 3), .int (nI ty), .int (nI aw), .int (bI false), .ref (md 4), .float up, .float lo, .int (nI su), .ref (md 5), .ref (md 6), .ref (md 7), .float fo])), (md 1, .inl (G.2 0, 354, .inl a)), (md 2, .inl (G.2 0, 2832, .inl pa)), (md 3, .inl (G.2 3, 60, .inl tb)), (md 4, .inl (G.2 0, 36, .inl qu)), (md 5, .inl (G.2 2, 288, .inr (.inr (.inl kn)))), (md 6, .inl (G.2 1, 288, .inl (fun jj => bI (ik jj)))), (md 7, .inl (G.2 1, 288, .inl (fun jj => bI (im jj))))]) := hD
                  refine lv_aload_n hx hb dX7_number_107 rfl (lv_at hl 0 rfl) ?_
                  refine lv_aload_n hx hb dX7_number_108 rfl (lv_at hl 0 rfl) ?_
                  refine va_get (D := G.1) (ci := 6) (v := .int (bI false)) (C := RX7) (T := TX7) (N := 15) hx hb hts (by decide +kernel) hown hK.1 hP 0 rfl rfl 6 (by decide) (hts (.fieldLink RX7 65 "PriceIndexCalculatorModel" "isWrong" "Z") (by decide +kernel)) (fun _ h9 => h9) rfl dX7_number_109 ?_
                  refine nb_if_eq (B := false) (tgt := 119) hx hb dX7_number_112 (by decide) (fun c_19 => ?_) (fun c_19 => ?_)
                  · refine lv_iload hx hb dX7_number_119 (lv_at hl 4 rfl) ?_
                    refine va_put (D := G.1) (ci := 6) (v := .int (nI ty)) (ty := .int) (C := RX7) (T := TX7) (N := 15) hx hb hts (by decide +kernel) tyX7 tyX7_ok nmX7 hown hK.1 hP hD hS 0 rfl rfl 5 (by decide) (hts (.fieldLink RX7 59 "PriceIndexCalculatorModel" "at" "I") (by decide +kernel)) (fun _ h9 => h9) rfl (by decide +kernel) rfl rfl (Nat.le_of_ble_eq_true rfl) dX7_number_121 (fun H locs hP hD hS => ?_)
                    have hP : va_P G.1 vwCl ([(md 0, .inr (6, [.ref (md 1), .ref (md 2), .int (nI np), .ref (md 3), .int (nI ty), .int (nI ty), .int (bI false), .ref (md 4), .float up, .float lo, .int (nI su), .ref (md 5), .ref (md 6), .ref (md 7), .float fo])), (md 1, .inl (G.2 0, 354, .inl a)), (md 2, .inl (G.2 0, 2832, .inl pa)), (md 3, .inl (G.2 3, 60, .inl tb)), (md 4, .inl (G.2 0, 36, .inl qu)), (md 5, .inl (G.2 2, 288, .inr (.inr (.inl kn)))), (md 6, .inl (G.2 1, 288, .inl (fun jj => bI (ik jj)))), (md 7, .inl (G.2 1, 288, .inl (fun jj => bI (im jj))))]) H := hP
                    have hD : va_D A ([(md 0, .inr (6, [.ref (md 1), .ref (md 2), .int (nI np), .ref (md 3), .int (nI ty), .int (nI ty), .int (bI false), .ref (md 4), .float up, .float lo, .int (nI su), .ref (md 5), .ref (md 6), .ref (md 7), .float fo])), (md 1, .inl (G.2 0, 354, .inl a)), (md 2, .inl (G.2 0, 2832, .inl pa)), (md 3, .inl (G.2 3, 60, .inl tb)), (md 4, .inl (G.2 0, 36, .inl qu)), (md 5, .inl (G.2 2, 288, .inr (.inr (.inl kn)))), (md 6, .inl (G.2 1, 288, .inl (fun jj => bI (ik jj)))), (md 7, .inl (G.2 1, 288, .inl (fun jj => bI (im jj))))]) := hD
                    refine lv_iload_n hx hb dX7_number_124 rfl (lv_at hl 3 rfl) ?_
                    have hP9 : va_P G.1 vwCl (mcells G md a pa np tb ty (rnP c9 ty g aw) (!nOk c9 ty g aw) qu up lo su kn ik im fo) H := by unfold rnP; rw [hok]; rw [hq]; exact hP
                    exact W.iret (v := nI v9) hx hb hr (fun t ht hW => ⟨⟨_, (), rfl, (congrArg nI hv.symm), bM_end ht hP9⟩, hS.F ht⟩) hS.2.2 dX7_number_125
                  · exact absurd c_19 (by decide)
                · refine lv_iconst (v := nI 1) hx hb dX7_number_99 (by decide) ?_
                  refine lv_goto (tgt := 104) hx hb dX7_number_100 (by decide) ?_
                  have hgt : decide (g < nI v9) = true := by simpa [Int32.not_le, Int32.not_lt] using c_18
                  have hfm : nFm c9 aw (ty - aw) = true := by unfold nFm; simp; omega
                  have hok : nOk c9 ty g aw = false := by unfold nOk; rw [hq, hv, hgt, hfm]; rfl
                  refine eq_i (y := bI true) rfl ?_
                  refine va_put (D := G.1) (ci := 6) (v := .int (bI true)) (ty := .boolean) (C := RX7) (T := TX7) (N := 15) hx hb hts (by decide +kernel) tyX7 tyX7_ok nmX7 hown hK.1 hP hD hS 0 rfl rfl 6 (by decide) (hts (.fieldLink RX7 65 "PriceIndexCalculatorModel" "isWrong" "Z") (by decide +kernel)) (fun _ h9 => h9) rfl (by decide +kernel) (by rfl) (by rfl) (Nat.le_of_ble_eq_true rfl) dX7_number_104 (fun H locs hP hD hS => ?_)
                  have hP : va_P G.1 vwCl ([(md 0, .inr (6, [.ref (md 1), .ref (md 2), .int (nI np), .ref (md 3), .int (nI ty), .int (nI aw), .int (bI true), .ref (md 4), .float up, .float lo, .int (nI su), .ref (md 5), .ref (md 6), .ref (md 7), .float fo])), (md 1, .inl (G.2 0, 354, .inl a)), (md 2, .inl (G.2 0, 2832, .inl pa)), (md 3, .inl (G.2 3, 60, .inl tb)), (md 4, .inl (G.2 0, 36, .inl qu)), (md 5, .inl (G.2 2, 288, .inr (.inr (.inl kn)))), (md 6, .inl (G.2 1, 288, .inl (fun jj => bI (ik jj)))), (md 7, .inl (G.2 1, 288, .inl (fun jj => bI (im jj))))]) H := hP
                  have hD : va_D A ([(md 0, .inr (6, [.ref (md 1), .ref (md 2), .int (nI np), .ref (md 3), .int (nI ty), .int (nI aw), .int (bI true), .ref (md 4), .float up, .float lo, .int (nI su), .ref (md 5), .ref (md 6), .ref (md 7), .float fo])), (md 1, .inl (G.2 0, 354, .inl a)), (md 2, .inl (G.2 0, 2832, .inl pa)), (md 3, .inl (G.2 3, 60, .inl tb)), (md 4, .inl (G.2 0, 36, .inl qu)), (md 5, .inl (G.2 2, 288, .inr (.inr (.inl kn)))), (md 6, .inl (G.2 1, 288, .inl (fun jj => bI (ik jj)))), (md 7, .inl (G.2 1, 288, .inl (fun jj => bI (im jj))))]) := hD
                  refine lv_aload_n hx hb dX7_number_107 rfl (lv_at hl 0 rfl) ?_
                  refine lv_aload_n hx hb dX7_number_108 rfl (lv_at hl 0 rfl) ?_
                  refine va_get (D := G.1) (ci := 6) (v := .int (bI true)) (C := RX7) (T := TX7) (N := 15) hx hb hts (by decide +kernel) hown hK.1 hP 0 rfl rfl 6 (by decide) (hts (.fieldLink RX7 65 "PriceIndexCalculatorModel" "isWrong" "Z") (by decide +kernel)) (fun _ h9 => h9) rfl dX7_number_109 ?_
                  refine nb_if_eq (B := true) (tgt := 119) hx hb dX7_number_112 (by decide) (fun c_20 => ?_) (fun c_20 => ?_)
                  · exact absurd c_20 (by decide)
                  · refine lv_iload_n hx hb dX7_number_115 rfl (lv_at hl 2 rfl) ?_
                    refine lv_goto (tgt := 121) hx hb dX7_number_116 (by decide) ?_
                    refine va_put (D := G.1) (ci := 6) (v := .int (nI aw)) (ty := .int) (C := RX7) (T := TX7) (N := 15) hx hb hts (by decide +kernel) tyX7 tyX7_ok nmX7 hown hK.1 hP hD hS 0 rfl rfl 5 (by decide) (hts (.fieldLink RX7 59 "PriceIndexCalculatorModel" "at" "I") (by decide +kernel)) (fun _ h9 => h9) rfl (by decide +kernel) rfl rfl (Nat.le_of_ble_eq_true rfl) dX7_number_121 (fun H locs hP hD hS => ?_)
                    have hP : va_P G.1 vwCl ([(md 0, .inr (6, [.ref (md 1), .ref (md 2), .int (nI np), .ref (md 3), .int (nI ty), .int (nI aw), .int (bI true), .ref (md 4), .float up, .float lo, .int (nI su), .ref (md 5), .ref (md 6), .ref (md 7), .float fo])), (md 1, .inl (G.2 0, 354, .inl a)), (md 2, .inl (G.2 0, 2832, .inl pa)), (md 3, .inl (G.2 3, 60, .inl tb)), (md 4, .inl (G.2 0, 36, .inl qu)), (md 5, .inl (G.2 2, 288, .inr (.inr (.inl kn)))), (md 6, .inl (G.2 1, 288, .inl (fun jj => bI (ik jj)))), (md 7, .inl (G.2 1, 288, .inl (fun jj => bI (im jj))))]) H := hP
                    have hD : va_D A ([(md 0, .inr (6, [.ref (md 1), .ref (md 2), .int (nI np), .ref (md 3), .int (nI ty), .int (nI aw), .int (bI true), .ref (md 4), .float up, .float lo, .int (nI su), .ref (md 5), .ref (md 6), .ref (md 7), .float fo])), (md 1, .inl (G.2 0, 354, .inl a)), (md 2, .inl (G.2 0, 2832, .inl pa)), (md 3, .inl (G.2 3, 60, .inl tb)), (md 4, .inl (G.2 0, 36, .inl qu)), (md 5, .inl (G.2 2, 288, .inr (.inr (.inl kn)))), (md 6, .inl (G.2 1, 288, .inl (fun jj => bI (ik jj)))), (md 7, .inl (G.2 1, 288, .inl (fun jj => bI (im jj))))]) := hD
                    refine lv_iload_n hx hb dX7_number_124 rfl (lv_at hl 3 rfl) ?_
                    have hP9 : va_P G.1 vwCl (mcells G md a pa np tb ty (rnP c9 ty g aw) (!nOk c9 ty g aw) qu up lo su kn ik im fo) H := by unfold rnP; rw [hok]; exact hP
                    exact W.iret (v := nI v9) hx hb hr (fun t ht hW => ⟨⟨_, (), rfl, (congrArg nI hv.symm), bM_end ht hP9⟩, hS.F ht⟩) hS.2.2 dX7_number_125
    · exact absurd c_6 (by simp)
  · obtain ⟨v9, rfl⟩ : ∃ z, z = u := ⟨_, rfl⟩
    have hl : lv_has ls 5 [(0, .ref (md 0)), (1, .int g), (2, .int (nI aw)), (3, .int (nI v9)), (4, .int (nI i))] := hl
    have hpi := hI_2.1
    refine lv_aload_n hx hb dX7_number_10 rfl (lv_at hl 0 rfl) ?_
    refine lv_iload hx hb dX7_number_11 (lv_at hl 4 rfl) ?_
    refine cr_i (va_runV (As := [.int (nI i)]) (rest := []) ⟨hx, hb, hml, hown, hts⟩ (metX7_isDigit l G md a pa np tb ty aw false qu up lo su kn ik im fo c9 hty htb i (by omega)) (cwV 1 hts gX7_number_X7_isDigit rfl rfl rfl (by decide +kernel) ⟨Nat.le_of_ble_eq_true rfl, Nat.le_of_ble_eq_true rfl⟩) (pR_V (w := mcells G md a pa np tb ty aw false qu up lo su kn ik im fo) (q0 := 0) hK hP rfl rfl) rfl rfl hl.1 rfl (lv_room (Nat.le_of_ble_eq_true rfl)) dX7_number_13 ⟨Nat.zero_le _, Nat.zero_le _⟩) (fun r_21 hr_22 => ?_)
    subst hr_22
    refine nb_if_eq (B := decide (i < ty) && isDg (c9 i)) (tgt := 53) hx hb dX7_number_16 (by decide) (fun c_23 => ?_) (fun c_23 => ?_)
    · have hdf : isDg (c9 i) = false := by have := c_23; rw [decide_eq_true (by omega : i < ty)] at this; exact this
      have hq : nEnd c9 ty aw = i := nEnd_eq hI_2.1 (by omega) hI_2.2.2 (Or.inr hdf)
      have hv : nV c9 ty aw = v9 := by unfold nV; rw [hq]; exact hI_2.2.1.symm
      refine lv_aload_n hx hb dX7_number_53 rfl (lv_at hl 0 rfl) ?_
      refine lv_aload_n hx hb dX7_number_54 rfl (lv_at hl 0 rfl) ?_
      refine va_get (D := G.1) (ci := 6) (v := .int (bI false)) (C := RX7) (T := TX7) (N := 15) hx hb hts (by decide +kernel) hown hK.1 hP 0 rfl rfl 6 (by decide) (hts (.fieldLink RX7 65 "PriceIndexCalculatorModel" "isWrong" "Z") (by decide +kernel)) (fun _ h9 => h9) rfl dX7_number_55 ?_
      refine nb_if_ne (B := false) (tgt := 99) hx hb dX7_number_58 (by decide) (fun c_24 => ?_) (fun c_24 => ?_)
      · exact absurd c_24 (by decide)
      · refine lv_iload hx hb dX7_number_61 (lv_at hl 4 rfl) ?_
        refine lv_iload_n hx hb dX7_number_63 rfl (lv_at hl 2 rfl) ?_
        refine n_icmp_eq (x := i) (y := aw) (tgt := 99) hx hb (by omega) (by omega) dX7_number_64 (by decide) (fun c_25 => ?_) (fun c_25 => ?_)
        · refine lv_iconst (v := nI 1) hx hb dX7_number_99 (by decide) ?_
          refine lv_goto (tgt := 104) hx hb dX7_number_100 (by decide) ?_
          have hfm : nFm c9 aw (i - aw) = false := by unfold nFm; simp; omega
          have hok : nOk c9 ty g aw = false := by unfold nOk; rw [hq, hfm]; rfl
          refine eq_i (y := bI true) rfl ?_
          refine va_put (D := G.1) (ci := 6) (v := .int (bI true)) (ty := .boolean) (C := RX7) (T := TX7) (N := 15) hx hb hts (by decide +kernel) tyX7 tyX7_ok nmX7 hown hK.1 hP hD hS 0 rfl rfl 6 (by decide) (hts (.fieldLink RX7 65 "PriceIndexCalculatorModel" "isWrong" "Z") (by decide +kernel)) (fun _ h9 => h9) rfl (by decide +kernel) (by rfl) (by rfl) (Nat.le_of_ble_eq_true rfl) dX7_number_104 (fun H locs hP hD hS => ?_)
          have hP : va_P G.1 vwCl ([(md 0, .inr (6, [.ref (md 1), .ref (md 2), .int (nI np), .ref (md 3), .int (nI ty), .int (nI aw), .int (bI true), .ref (md 4), .float up, .float lo, .int (nI su), .ref (md 5), .ref (md 6), .ref (md 7), .float fo])), (md 1, .inl (G.2 0, 354, .inl a)), (md 2, .inl (G.2 0, 2832, .inl pa)), (md 3, .inl (G.2 3, 60, .inl tb)), (md 4, .inl (G.2 0, 36, .inl qu)), (md 5, .inl (G.2 2, 288, .inr (.inr (.inl kn)))), (md 6, .inl (G.2 1, 288, .inl (fun jj => bI (ik jj)))), (md 7, .inl (G.2 1, 288, .inl (fun jj => bI (im jj))))]) H := hP
          have hD : va_D A ([(md 0, .inr (6, [.ref (md 1), .ref (md 2), .int (nI np), .ref (md 3), .int (nI ty), .int (nI aw), .int (bI true), .ref (md 4), .float up, .float lo, .int (nI su), .ref (md 5), .ref (md 6), .ref (md 7), .float fo])), (md 1, .inl (G.2 0, 354, .inl a)), (md 2, .inl (G.2 0, 2832, .inl pa)), (md 3, .inl (G.2 3, 60, .inl tb)), (md 4, .inl (G.2 0, 36, .inl qu)), (md 5, .inl (G.2 2, 288, .inr (.inr (.inl kn)))), (md 6, .inl (G.2 1, 288, .inl (fun jj => bI (ik jj)))), (md 7, .inl (G.2 1, 288, .inl (fun jj => bI (im jj))))]) := hD
          refine lv_aload_n hx hb dX7_number_107 rfl (lv_at hl 0 rfl) ?_
          refine lv_aload_n hx hb dX7_number_108 rfl (lv_at hl 0 rfl) ?_
          refine va_get (D := G.1) (ci := 6) (v := .int (bI true)) (C := RX7) (T := TX7) (N := 15) hx hb hts (by decide +kernel) hown hK.1 hP 0 rfl rfl 6 (by decide) (hts (.fieldLink RX7 65 "PriceIndexCalculatorModel" "isWrong" "Z") (by decide +kernel)) (fun _ h9 => h9) rfl dX7_number_109 ?_
          refine nb_if_eq (B := true) (tgt := 119) hx hb dX7_number_112 (by decide) (fun c_26 => ?_) (fun c_26 => ?_)
          · exact absurd c_26 (by decide)
          · refine lv_iload_n hx hb dX7_number_115 rfl (lv_at hl 2 rfl) ?_
            refine lv_goto (tgt := 121) hx hb dX7_number_116 (by decide) ?_
            refine va_put (D := G.1) (ci := 6) (v := .int (nI aw)) (ty := .int) (C := RX7) (T := TX7) (N := 15) hx hb hts (by decide +kernel) tyX7 tyX7_ok nmX7 hown hK.1 hP hD hS 0 rfl rfl 5 (by decide) (hts (.fieldLink RX7 59 "PriceIndexCalculatorModel" "at" "I") (by decide +kernel)) (fun _ h9 => h9) rfl (by decide +kernel) rfl rfl (Nat.le_of_ble_eq_true rfl) dX7_number_121 (fun H locs hP hD hS => ?_)
            have hP : va_P G.1 vwCl ([(md 0, .inr (6, [.ref (md 1), .ref (md 2), .int (nI np), .ref (md 3), .int (nI ty), .int (nI aw), .int (bI true), .ref (md 4), .float up, .float lo, .int (nI su), .ref (md 5), .ref (md 6), .ref (md 7), .float fo])), (md 1, .inl (G.2 0, 354, .inl a)), (md 2, .inl (G.2 0, 2832, .inl pa)), (md 3, .inl (G.2 3, 60, .inl tb)), (md 4, .inl (G.2 0, 36, .inl qu)), (md 5, .inl (G.2 2, 288, .inr (.inr (.inl kn)))), (md 6, .inl (G.2 1, 288, .inl (fun jj => bI (ik jj)))), (md 7, .inl (G.2 1, 288, .inl (fun jj => bI (im jj))))]) H := hP
            have hD : va_D A ([(md 0, .inr (6, [.ref (md 1), .ref (md 2), .int (nI np), .ref (md 3), .int (nI ty), .int (nI aw), .int (bI true), .ref (md 4), .float up, .float lo, .int (nI su), .ref (md 5), .ref (md 6), .ref (md 7), .float fo])), (md 1, .inl (G.2 0, 354, .inl a)), (md 2, .inl (G.2 0, 2832, .inl pa)), (md 3, .inl (G.2 3, 60, .inl tb)), (md 4, .inl (G.2 0, 36, .inl qu)), (md 5, .inl (G.2 2, 288, .inr (.inr (.inl kn)))), (md 6, .inl (G.2 1, 288, .inl (fun jj => bI (ik jj)))), (md 7, .inl (G.2 1, 288, .inl (fun jj => bI (im jj))))]) := hD
            refine lv_iload_n hx hb dX7_number_124 rfl (lv_at hl 3 rfl) ?_
            have hP9 : va_P G.1 vwCl (mcells G md a pa np tb ty (rnP c9 ty g aw) (!nOk c9 ty g aw) qu up lo su kn ik im fo) H := by unfold rnP; rw [hok]; exact hP
            exact W.iret (v := nI v9) hx hb hr (fun t ht hW => ⟨⟨_, (), rfl, (congrArg nI hv.symm), bM_end ht hP9⟩, hS.F ht⟩) hS.2.2 dX7_number_125
        · refine lv_iload hx hb dX7_number_67 (lv_at hl 4 rfl) ?_
          refine lv_iload_n hx hb dX7_number_69 rfl (lv_at hl 2 rfl) ?_
          refine n_sub hx hb (by omega) dX7_number_70 ?_
          refine lv_iconst (v := nI 5) hx hb dX7_number_71 (by decide) ?_
          refine n_icmp_gt (x := i - aw) (y := 5) (tgt := 99) hx hb (by omega) (by omega) dX7_number_72 (by decide) (fun c_27 => ?_) (fun c_27 => ?_)
          · refine lv_iconst (v := nI 1) hx hb dX7_number_99 (by decide) ?_
            refine lv_goto (tgt := 104) hx hb dX7_number_100 (by decide) ?_
            have hfm : nFm c9 aw (i - aw) = false := by unfold nFm; simp; omega
            have hok : nOk c9 ty g aw = false := by unfold nOk; rw [hq, hfm]; rfl
            refine eq_i (y := bI true) rfl ?_
            refine va_put (D := G.1) (ci := 6) (v := .int (bI true)) (ty := .boolean) (C := RX7) (T := TX7) (N := 15) hx hb hts (by decide +kernel) tyX7 tyX7_ok nmX7 hown hK.1 hP hD hS 0 rfl rfl 6 (by decide) (hts (.fieldLink RX7 65 "PriceIndexCalculatorModel" "isWrong" "Z") (by decide +kernel)) (fun _ h9 => h9) rfl (by decide +kernel) (by rfl) (by rfl) (Nat.le_of_ble_eq_true rfl) dX7_number_104 (fun H locs hP hD hS => ?_)
            have hP : va_P G.1 vwCl ([(md 0, .inr (6, [.ref (md 1), .ref (md 2), .int (nI np), .ref (md 3), .int (nI ty), .int (nI aw), .int (bI true), .ref (md 4), .float up, .float lo, .int (nI su), .ref (md 5), .ref (md 6), .ref (md 7), .float fo])), (md 1, .inl (G.2 0, 354, .inl a)), (md 2, .inl (G.2 0, 2832, .inl pa)), (md 3, .inl (G.2 3, 60, .inl tb)), (md 4, .inl (G.2 0, 36, .inl qu)), (md 5, .inl (G.2 2, 288, .inr (.inr (.inl kn)))), (md 6, .inl (G.2 1, 288, .inl (fun jj => bI (ik jj)))), (md 7, .inl (G.2 1, 288, .inl (fun jj => bI (im jj))))]) H := hP
            have hD : va_D A ([(md 0, .inr (6, [.ref (md 1), .ref (md 2), .int (nI np), .ref (md 3), .int (nI ty), .int (nI aw), .int (bI true), .ref (md 4), .float up, .float lo, .int (nI su), .ref (md 5), .ref (md 6), .ref (md 7), .float fo])), (md 1, .inl (G.2 0, 354, .inl a)), (md 2, .inl (G.2 0, 2832, .inl pa)), (md 3, .inl (G.2 3, 60, .inl tb)), (md 4, .inl (G.2 0, 36, .inl qu)), (md 5, .inl (G.2 2, 288, .inr (.inr (.inl kn)))), (md 6, .inl (G.2 1, 288, .inl (fun jj => bI (ik jj)))), (md 7, .inl (G.2 1, 288, .inl (fun jj => bI (im jj))))]) := hD
            refine lv_aload_n hx hb dX7_number_107 rfl (lv_at hl 0 rfl) ?_
            refine lv_aload_n hx hb dX7_number_108 rfl (lv_at hl 0 rfl) ?_
            refine va_get (D := G.1) (ci := 6) (v := .int (bI true)) (C := RX7) (T := TX7) (N := 15) hx hb hts (by decide +kernel) hown hK.1 hP 0 rfl rfl 6 (by decide) (hts (.fieldLink RX7 65 "PriceIndexCalculatorModel" "isWrong" "Z") (by decide +kernel)) (fun _ h9 => h9) rfl dX7_number_109 ?_
            refine nb_if_eq (B := true) (tgt := 119) hx hb dX7_number_112 (by decide) (fun c_28 => ?_) (fun c_28 => ?_)
            · exact absurd c_28 (by decide)
            · refine lv_iload_n hx hb dX7_number_115 rfl (lv_at hl 2 rfl) ?_
              refine lv_goto (tgt := 121) hx hb dX7_number_116 (by decide) ?_
              refine va_put (D := G.1) (ci := 6) (v := .int (nI aw)) (ty := .int) (C := RX7) (T := TX7) (N := 15) hx hb hts (by decide +kernel) tyX7 tyX7_ok nmX7 hown hK.1 hP hD hS 0 rfl rfl 5 (by decide) (hts (.fieldLink RX7 59 "PriceIndexCalculatorModel" "at" "I") (by decide +kernel)) (fun _ h9 => h9) rfl (by decide +kernel) rfl rfl (Nat.le_of_ble_eq_true rfl) dX7_number_121 (fun H locs hP hD hS => ?_)
              have hP : va_P G.1 vwCl ([(md 0, .inr (6, [.ref (md 1), .ref (md 2), .int (nI np), .ref (md 3), .int (nI ty), .int (nI aw), .int (bI true), .ref (md 4), .float up, .float lo, .int (nI su), .ref (md 5), .ref (md 6), .ref (md 7), .float fo])), (md 1, .inl (G.2 0, 354, .inl a)), (md 2, .inl (G.2 0, 2832, .inl pa)), (md 3, .inl (G.2 3, 60, .inl tb)), (md 4, .inl (G.2 0, 36, .inl qu)), (md 5, .inl (G.2 2, 288, .inr (.inr (.inl kn)))), (md 6, .inl (G.2 1, 288, .inl (fun jj => bI (ik jj)))), (md 7, .inl (G.2 1, 288, .inl (fun jj => bI (im jj))))]) H := hP
              have hD : va_D A ([(md 0, .inr (6, [.ref (md 1), .ref (md 2), .int (nI np), .ref (md 3), .int (nI ty), .int (nI aw), .int (bI true), .ref (md 4), .float up, .float lo, .int (nI su), .ref (md 5), .ref (md 6), .ref (md 7), .float fo])), (md 1, .inl (G.2 0, 354, .inl a)), (md 2, .inl (G.2 0, 2832, .inl pa)), (md 3, .inl (G.2 3, 60, .inl tb)), (md 4, .inl (G.2 0, 36, .inl qu)), (md 5, .inl (G.2 2, 288, .inr (.inr (.inl kn)))), (md 6, .inl (G.2 1, 288, .inl (fun jj => bI (ik jj)))), (md 7, .inl (G.2 1, 288, .inl (fun jj => bI (im jj))))]) := hD
              refine lv_iload_n hx hb dX7_number_124 rfl (lv_at hl 3 rfl) ?_
              have hP9 : va_P G.1 vwCl (mcells G md a pa np tb ty (rnP c9 ty g aw) (!nOk c9 ty g aw) qu up lo su kn ik im fo) H := by unfold rnP; rw [hok]; exact hP
              exact W.iret (v := nI v9) hx hb hr (fun t ht hW => ⟨⟨_, (), rfl, (congrArg nI hv.symm), bM_end ht hP9⟩, hS.F ht⟩) hS.2.2 dX7_number_125
          · refine lv_iload hx hb dX7_number_75 (lv_at hl 4 rfl) ?_
            refine lv_iload_n hx hb dX7_number_77 rfl (lv_at hl 2 rfl) ?_
            refine n_sub hx hb (by omega) dX7_number_78 ?_
            refine lv_iconst (v := nI 1) hx hb dX7_number_79 (by decide) ?_
            refine n_icmp_le (x := i - aw) (y := 1) (tgt := 94) hx hb (by omega) (by omega) dX7_number_80 (by decide) (fun c_29 => ?_) (fun c_29 => ?_)
            · refine lv_iload_n hx hb dX7_number_94 rfl (lv_at hl 3 rfl) ?_
              refine lv_iload_n hx hb dX7_number_95 rfl (lv_at hl 1 rfl) ?_
              refine lv_icmp_le (tgt := 103) hx hb dX7_number_96 (by decide) (fun c_30 => ?_) (fun c_30 => ?_)
              · refine lv_iconst (v := nI 0) hx hb dX7_number_103 (by decide) ?_
                have hgt : decide (g < nI v9) = false := by simpa [Int32.not_le, Int32.not_lt] using c_30
                have hfm : nFm c9 aw (i - aw) = true := by unfold nFm; simp; omega
                have hok : nOk c9 ty g aw = true := by unfold nOk; rw [hq, hv, hgt, hfm]; rfl
                refine eq_i (y := bI false) rfl ?_
                refine va_put (D := G.1) (ci := 6) (v := .int (bI false)) (ty := .boolean) (C := RX7) (T := TX7) (N := 15) hx hb hts (by decide +kernel) tyX7 tyX7_ok nmX7 hown hK.1 hP hD hS 0 rfl rfl 6 (by decide) (hts (.fieldLink RX7 65 "PriceIndexCalculatorModel" "isWrong" "Z") (by decide +kernel)) (fun _ h9 => h9) rfl (by decide +kernel) (by rfl) (by rfl) (Nat.le_of_ble_eq_true rfl) dX7_number_104 (fun H locs hP hD hS => ?_)
                have hP : va_P G.1 vwCl ([(md 0, .inr (6, [.ref (md 1), .ref (md 2), .int (nI np), .ref (md 3), .int (nI ty), .int (nI aw), .int (bI false), .ref (md 4), .float up, .float lo, .int (nI su), .ref (md 5), .ref (md 6), .ref (md 7), .float fo])), (md 1, .inl (G.2 0, 354, .inl a)), (md 2, .inl (G.2 0, 2832, .inl pa)), (md 3, .inl (G.2 3, 60, .inl tb)), (md 4, .inl (G.2 0, 36, .inl qu)), (md 5, .inl (G.2 2, 288, .inr (.inr (.inl kn)))), (md 6, .inl (G.2 1, 288, .inl (fun jj => bI (ik jj)))), (md 7, .inl (G.2 1, 288, .inl (fun jj => bI (im jj))))]) H := hP
                have hD : va_D A ([(md 0, .inr (6, [.ref (md 1), .ref (md 2), .int (nI np), .ref (md 3), .int (nI ty), .int (nI aw), .int (bI false), .ref (md 4), .float up, .float lo, .int (nI su), .ref (md 5), .ref (md 6), .ref (md 7), .float fo])), (md 1, .inl (G.2 0, 354, .inl a)), (md 2, .inl (G.2 0, 2832, .inl pa)), (md 3, .inl (G.2 3, 60, .inl tb)), (md 4, .inl (G.2 0, 36, .inl qu)), (md 5, .inl (G.2 2, 288, .inr (.inr (.inl kn)))), (md 6, .inl (G.2 1, 288, .inl (fun jj => bI (ik jj)))), (md 7, .inl (G.2 1, 288, .inl (fun jj => bI (im jj))))]) := hD
                refine lv_aload_n hx hb dX7_number_107 rfl (lv_at hl 0 rfl) ?_
                refine lv_aload_n hx hb dX7_number_108 rfl (lv_at hl 0 rfl) ?_
                refine va_get (D := G.1) (ci := 6) (v := .int (bI false)) (C := RX7) (T := TX7) (N := 15) hx hb hts (by decide +kernel) hown hK.1 hP 0 rfl rfl 6 (by decide) (hts (.fieldLink RX7 65 "PriceIndexCalculatorModel" "isWrong" "Z") (by decide +kernel)) (fun _ h9 => h9) rfl dX7_number_109 ?_
                refine nb_if_eq (B := false) (tgt := 119) hx hb dX7_number_112 (by decide) (fun c_31 => ?_) (fun c_31 => ?_)
                · refine lv_iload hx hb dX7_number_119 (lv_at hl 4 rfl) ?_
                  refine va_put (D := G.1) (ci := 6) (v := .int (nI i)) (ty := .int) (C := RX7) (T := TX7) (N := 15) hx hb hts (by decide +kernel) tyX7 tyX7_ok nmX7 hown hK.1 hP hD hS 0 rfl rfl 5 (by decide) (hts (.fieldLink RX7 59 "PriceIndexCalculatorModel" "at" "I") (by decide +kernel)) (fun _ h9 => h9) rfl (by decide +kernel) rfl rfl (Nat.le_of_ble_eq_true rfl) dX7_number_121 (fun H locs hP hD hS => ?_)
                  have hP : va_P G.1 vwCl ([(md 0, .inr (6, [.ref (md 1), .ref (md 2), .int (nI np), .ref (md 3), .int (nI ty), .int (nI i), .int (bI false), .ref (md 4), .float up, .float lo, .int (nI su), .ref (md 5), .ref (md 6), .ref (md 7), .float fo])), (md 1, .inl (G.2 0, 354, .inl a)), (md 2, .inl (G.2 0, 2832, .inl pa)), (md 3, .inl (G.2 3, 60, .inl tb)), (md 4, .inl (G.2 0, 36, .inl qu)), (md 5, .inl (G.2 2, 288, .inr (.inr (.inl kn)))), (md 6, .inl (G.2 1, 288, .inl (fun jj => bI (ik jj)))), (md 7, .inl (G.2 1, 288, .inl (fun jj => bI (im jj))))]) H := hP
                  have hD : va_D A ([(md 0, .inr (6, [.ref (md 1), .ref (md 2), .int (nI np), .ref (md 3), .int (nI ty), .int (nI i), .int (bI false), .ref (md 4), .float up, .float lo, .int (nI su), .ref (md 5), .ref (md 6), .ref (md 7), .float fo])), (md 1, .inl (G.2 0, 354, .inl a)), (md 2, .inl (G.2 0, 2832, .inl pa)), (md 3, .inl (G.2 3, 60, .inl tb)), (md 4, .inl (G.2 0, 36, .inl qu)), (md 5, .inl (G.2 2, 288, .inr (.inr (.inl kn)))), (md 6, .inl (G.2 1, 288, .inl (fun jj => bI (ik jj)))), (md 7, .inl (G.2 1, 288, .inl (fun jj => bI (im jj))))]) := hD
                  refine lv_iload_n hx hb dX7_number_124 rfl (lv_at hl 3 rfl) ?_
                  have hP9 : va_P G.1 vwCl (mcells G md a pa np tb ty (rnP c9 ty g aw) (!nOk c9 ty g aw) qu up lo su kn ik im fo) H := by unfold rnP; rw [hok]; rw [hq]; exact hP
                  exact W.iret (v := nI v9) hx hb hr (fun t ht hW => ⟨⟨_, (), rfl, (congrArg nI hv.symm), bM_end ht hP9⟩, hS.F ht⟩) hS.2.2 dX7_number_125
                · exact absurd c_31 (by decide)
              · refine lv_iconst (v := nI 1) hx hb dX7_number_99 (by decide) ?_
                refine lv_goto (tgt := 104) hx hb dX7_number_100 (by decide) ?_
                have hgt : decide (g < nI v9) = true := by simpa [Int32.not_le, Int32.not_lt] using c_30
                have hfm : nFm c9 aw (i - aw) = true := by unfold nFm; simp; omega
                have hok : nOk c9 ty g aw = false := by unfold nOk; rw [hq, hv, hgt, hfm]; rfl
                refine eq_i (y := bI true) rfl ?_
                refine va_put (D := G.1) (ci := 6) (v := .int (bI true)) (ty := .boolean) (C := RX7) (T := TX7) (N := 15) hx hb hts (by decide +kernel) tyX7 tyX7_ok nmX7 hown hK.1 hP hD hS 0 rfl rfl 6 (by decide) (hts (.fieldLink RX7 65 "PriceIndexCalculatorModel" "isWrong" "Z") (by decide +kernel)) (fun _ h9 => h9) rfl (by decide +kernel) (by rfl) (by rfl) (Nat.le_of_ble_eq_true rfl) dX7_number_104 (fun H locs hP hD hS => ?_)
                have hP : va_P G.1 vwCl ([(md 0, .inr (6, [.ref (md 1), .ref (md 2), .int (nI np), .ref (md 3), .int (nI ty), .int (nI aw), .int (bI true), .ref (md 4), .float up, .float lo, .int (nI su), .ref (md 5), .ref (md 6), .ref (md 7), .float fo])), (md 1, .inl (G.2 0, 354, .inl a)), (md 2, .inl (G.2 0, 2832, .inl pa)), (md 3, .inl (G.2 3, 60, .inl tb)), (md 4, .inl (G.2 0, 36, .inl qu)), (md 5, .inl (G.2 2, 288, .inr (.inr (.inl kn)))), (md 6, .inl (G.2 1, 288, .inl (fun jj => bI (ik jj)))), (md 7, .inl (G.2 1, 288, .inl (fun jj => bI (im jj))))]) H := hP
                have hD : va_D A ([(md 0, .inr (6, [.ref (md 1), .ref (md 2), .int (nI np), .ref (md 3), .int (nI ty), .int (nI aw), .int (bI true), .ref (md 4), .float up, .float lo, .int (nI su), .ref (md 5), .ref (md 6), .ref (md 7), .float fo])), (md 1, .inl (G.2 0, 354, .inl a)), (md 2, .inl (G.2 0, 2832, .inl pa)), (md 3, .inl (G.2 3, 60, .inl tb)), (md 4, .inl (G.2 0, 36, .inl qu)), (md 5, .inl (G.2 2, 288, .inr (.inr (.inl kn)))), (md 6, .inl (G.2 1, 288, .inl (fun jj => bI (ik jj)))), (md 7, .inl (G.2 1, 288, .inl (fun jj => bI (im jj))))]) := hD
                refine lv_aload_n hx hb dX7_number_107 rfl (lv_at hl 0 rfl) ?_
                refine lv_aload_n hx hb dX7_number_108 rfl (lv_at hl 0 rfl) ?_
                refine va_get (D := G.1) (ci := 6) (v := .int (bI true)) (C := RX7) (T := TX7) (N := 15) hx hb hts (by decide +kernel) hown hK.1 hP 0 rfl rfl 6 (by decide) (hts (.fieldLink RX7 65 "PriceIndexCalculatorModel" "isWrong" "Z") (by decide +kernel)) (fun _ h9 => h9) rfl dX7_number_109 ?_
                refine nb_if_eq (B := true) (tgt := 119) hx hb dX7_number_112 (by decide) (fun c_32 => ?_) (fun c_32 => ?_)
                · exact absurd c_32 (by decide)
                · refine lv_iload_n hx hb dX7_number_115 rfl (lv_at hl 2 rfl) ?_
                  refine lv_goto (tgt := 121) hx hb dX7_number_116 (by decide) ?_
                  refine va_put (D := G.1) (ci := 6) (v := .int (nI aw)) (ty := .int) (C := RX7) (T := TX7) (N := 15) hx hb hts (by decide +kernel) tyX7 tyX7_ok nmX7 hown hK.1 hP hD hS 0 rfl rfl 5 (by decide) (hts (.fieldLink RX7 59 "PriceIndexCalculatorModel" "at" "I") (by decide +kernel)) (fun _ h9 => h9) rfl (by decide +kernel) rfl rfl (Nat.le_of_ble_eq_true rfl) dX7_number_121 (fun H locs hP hD hS => ?_)
                  have hP : va_P G.1 vwCl ([(md 0, .inr (6, [.ref (md 1), .ref (md 2), .int (nI np), .ref (md 3), .int (nI ty), .int (nI aw), .int (bI true), .ref (md 4), .float up, .float lo, .int (nI su), .ref (md 5), .ref (md 6), .ref (md 7), .float fo])), (md 1, .inl (G.2 0, 354, .inl a)), (md 2, .inl (G.2 0, 2832, .inl pa)), (md 3, .inl (G.2 3, 60, .inl tb)), (md 4, .inl (G.2 0, 36, .inl qu)), (md 5, .inl (G.2 2, 288, .inr (.inr (.inl kn)))), (md 6, .inl (G.2 1, 288, .inl (fun jj => bI (ik jj)))), (md 7, .inl (G.2 1, 288, .inl (fun jj => bI (im jj))))]) H := hP
                  have hD : va_D A ([(md 0, .inr (6, [.ref (md 1), .ref (md 2), .int (nI np), .ref (md 3), .int (nI ty), .int (nI aw), .int (bI true), .ref (md 4), .float up, .float lo, .int (nI su), .ref (md 5), .ref (md 6), .ref (md 7), .float fo])), (md 1, .inl (G.2 0, 354, .inl a)), (md 2, .inl (G.2 0, 2832, .inl pa)), (md 3, .inl (G.2 3, 60, .inl tb)), (md 4, .inl (G.2 0, 36, .inl qu)), (md 5, .inl (G.2 2, 288, .inr (.inr (.inl kn)))), (md 6, .inl (G.2 1, 288, .inl (fun jj => bI (ik jj)))), (md 7, .inl (G.2 1, 288, .inl (fun jj => bI (im jj))))]) := hD
                  refine lv_iload_n hx hb dX7_number_124 rfl (lv_at hl 3 rfl) ?_
                  have hP9 : va_P G.1 vwCl (mcells G md a pa np tb ty (rnP c9 ty g aw) (!nOk c9 ty g aw) qu up lo su kn ik im fo) H := by unfold rnP; rw [hok]; exact hP
                  exact W.iret (v := nI v9) hx hb hr (fun t ht hW => ⟨⟨_, (), rfl, (congrArg nI hv.symm), bM_end ht hP9⟩, hS.F ht⟩) hS.2.2 dX7_number_125
            · have hda := hI_2.2.2 aw (Nat.le_refl _) (by omega)
              have hca := (htb aw (by omega)).2
              refine lv_aload_n hx hb dX7_number_83 rfl (lv_at hl 0 rfl) ?_
              refine va_get (D := G.1) (ci := 6) (v := .ref (md 3)) (C := RX7) (T := TX7) (N := 15) hx hb hts (by decide +kernel) hown hK.1 hP 0 rfl rfl 3 (by decide) (hts (.fieldLink RX7 16 "PriceIndexCalculatorModel" "text" "[B") (by decide +kernel)) (fun _ h9 => h9) rfl dX7_number_84 ?_
              refine lv_iload_n hx hb dX7_number_87 rfl (lv_at hl 2 rfl) ?_
              refine n_bald hx hb hK.1 hP 3 3 rfl rfl (j := aw) (by omega) (by omega) dX7_number_88 ?_
              refine eq_i (y := nI (c9 aw)) ((htb aw (by omega)).1.trans (sbB_dig hda)) ?_
              refine lv_bipush (v := nI 48) hx hb dX7_number_89 (by decide) ?_
              refine n_icmp_eq (x := c9 aw) (y := 48) (tgt := 99) hx hb (by omega) (by omega) dX7_number_91 (by decide) (fun c_33 => ?_) (fun c_33 => ?_)
              · refine lv_iconst (v := nI 1) hx hb dX7_number_99 (by decide) ?_
                refine lv_goto (tgt := 104) hx hb dX7_number_100 (by decide) ?_
                have hfm : nFm c9 aw (i - aw) = false := by unfold nFm; simp; omega
                have hok : nOk c9 ty g aw = false := by unfold nOk; rw [hq, hfm]; rfl
                refine eq_i (y := bI true) rfl ?_
                refine va_put (D := G.1) (ci := 6) (v := .int (bI true)) (ty := .boolean) (C := RX7) (T := TX7) (N := 15) hx hb hts (by decide +kernel) tyX7 tyX7_ok nmX7 hown hK.1 hP hD hS 0 rfl rfl 6 (by decide) (hts (.fieldLink RX7 65 "PriceIndexCalculatorModel" "isWrong" "Z") (by decide +kernel)) (fun _ h9 => h9) rfl (by decide +kernel) (by rfl) (by rfl) (Nat.le_of_ble_eq_true rfl) dX7_number_104 (fun H locs hP hD hS => ?_)
                have hP : va_P G.1 vwCl ([(md 0, .inr (6, [.ref (md 1), .ref (md 2), .int (nI np), .ref (md 3), .int (nI ty), .int (nI aw), .int (bI true), .ref (md 4), .float up, .float lo, .int (nI su), .ref (md 5), .ref (md 6), .ref (md 7), .float fo])), (md 1, .inl (G.2 0, 354, .inl a)), (md 2, .inl (G.2 0, 2832, .inl pa)), (md 3, .inl (G.2 3, 60, .inl tb)), (md 4, .inl (G.2 0, 36, .inl qu)), (md 5, .inl (G.2 2, 288, .inr (.inr (.inl kn)))), (md 6, .inl (G.2 1, 288, .inl (fun jj => bI (ik jj)))), (md 7, .inl (G.2 1, 288, .inl (fun jj => bI (im jj))))]) H := hP
                have hD : va_D A ([(md 0, .inr (6, [.ref (md 1), .ref (md 2), .int (nI np), .ref (md 3), .int (nI ty), .int (nI aw), .int (bI true), .ref (md 4), .float up, .float lo, .int (nI su), .ref (md 5), .ref (md 6), .ref (md 7), .float fo])), (md 1, .inl (G.2 0, 354, .inl a)), (md 2, .inl (G.2 0, 2832, .inl pa)), (md 3, .inl (G.2 3, 60, .inl tb)), (md 4, .inl (G.2 0, 36, .inl qu)), (md 5, .inl (G.2 2, 288, .inr (.inr (.inl kn)))), (md 6, .inl (G.2 1, 288, .inl (fun jj => bI (ik jj)))), (md 7, .inl (G.2 1, 288, .inl (fun jj => bI (im jj))))]) := hD
                refine lv_aload_n hx hb dX7_number_107 rfl (lv_at hl 0 rfl) ?_
                refine lv_aload_n hx hb dX7_number_108 rfl (lv_at hl 0 rfl) ?_
                refine va_get (D := G.1) (ci := 6) (v := .int (bI true)) (C := RX7) (T := TX7) (N := 15) hx hb hts (by decide +kernel) hown hK.1 hP 0 rfl rfl 6 (by decide) (hts (.fieldLink RX7 65 "PriceIndexCalculatorModel" "isWrong" "Z") (by decide +kernel)) (fun _ h9 => h9) rfl dX7_number_109 ?_
                refine nb_if_eq (B := true) (tgt := 119) hx hb dX7_number_112 (by decide) (fun c_34 => ?_) (fun c_34 => ?_)
                · exact absurd c_34 (by decide)
                · refine lv_iload_n hx hb dX7_number_115 rfl (lv_at hl 2 rfl) ?_
                  refine lv_goto (tgt := 121) hx hb dX7_number_116 (by decide) ?_
                  refine va_put (D := G.1) (ci := 6) (v := .int (nI aw)) (ty := .int) (C := RX7) (T := TX7) (N := 15) hx hb hts (by decide +kernel) tyX7 tyX7_ok nmX7 hown hK.1 hP hD hS 0 rfl rfl 5 (by decide) (hts (.fieldLink RX7 59 "PriceIndexCalculatorModel" "at" "I") (by decide +kernel)) (fun _ h9 => h9) rfl (by decide +kernel) rfl rfl (Nat.le_of_ble_eq_true rfl) dX7_number_121 (fun H locs hP hD hS => ?_)
                  have hP : va_P G.1 vwCl ([(md 0, .inr (6, [.ref (md 1), .ref (md 2), .int (nI np), .ref (md 3), .int (nI ty), .int (nI aw), .int (bI true), .ref (md 4), .float up, .float lo, .int (nI su), .ref (md 5), .ref (md 6), .ref (md 7), .float fo])), (md 1, .inl (G.2 0, 354, .inl a)), (md 2, .inl (G.2 0, 2832, .inl pa)), (md 3, .inl (G.2 3, 60, .inl tb)), (md 4, .inl (G.2 0, 36, .inl qu)), (md 5, .inl (G.2 2, 288, .inr (.inr (.inl kn)))), (md 6, .inl (G.2 1, 288, .inl (fun jj => bI (ik jj)))), (md 7, .inl (G.2 1, 288, .inl (fun jj => bI (im jj))))]) H := hP
                  have hD : va_D A ([(md 0, .inr (6, [.ref (md 1), .ref (md 2), .int (nI np), .ref (md 3), .int (nI ty), .int (nI aw), .int (bI true), .ref (md 4), .float up, .float lo, .int (nI su), .ref (md 5), .ref (md 6), .ref (md 7), .float fo])), (md 1, .inl (G.2 0, 354, .inl a)), (md 2, .inl (G.2 0, 2832, .inl pa)), (md 3, .inl (G.2 3, 60, .inl tb)), (md 4, .inl (G.2 0, 36, .inl qu)), (md 5, .inl (G.2 2, 288, .inr (.inr (.inl kn)))), (md 6, .inl (G.2 1, 288, .inl (fun jj => bI (ik jj)))), (md 7, .inl (G.2 1, 288, .inl (fun jj => bI (im jj))))]) := hD
                  refine lv_iload_n hx hb dX7_number_124 rfl (lv_at hl 3 rfl) ?_
                  have hP9 : va_P G.1 vwCl (mcells G md a pa np tb ty (rnP c9 ty g aw) (!nOk c9 ty g aw) qu up lo su kn ik im fo) H := by unfold rnP; rw [hok]; exact hP
                  exact W.iret (v := nI v9) hx hb hr (fun t ht hW => ⟨⟨_, (), rfl, (congrArg nI hv.symm), bM_end ht hP9⟩, hS.F ht⟩) hS.2.2 dX7_number_125
              · refine lv_iload_n hx hb dX7_number_94 rfl (lv_at hl 3 rfl) ?_
                refine lv_iload_n hx hb dX7_number_95 rfl (lv_at hl 1 rfl) ?_
                refine lv_icmp_le (tgt := 103) hx hb dX7_number_96 (by decide) (fun c_35 => ?_) (fun c_35 => ?_)
                · refine lv_iconst (v := nI 0) hx hb dX7_number_103 (by decide) ?_
                  have hgt : decide (g < nI v9) = false := by simpa [Int32.not_le, Int32.not_lt] using c_35
                  have hfm : nFm c9 aw (i - aw) = true := by unfold nFm; simp; omega
                  have hok : nOk c9 ty g aw = true := by unfold nOk; rw [hq, hv, hgt, hfm]; rfl
                  refine eq_i (y := bI false) rfl ?_
                  refine va_put (D := G.1) (ci := 6) (v := .int (bI false)) (ty := .boolean) (C := RX7) (T := TX7) (N := 15) hx hb hts (by decide +kernel) tyX7 tyX7_ok nmX7 hown hK.1 hP hD hS 0 rfl rfl 6 (by decide) (hts (.fieldLink RX7 65 "PriceIndexCalculatorModel" "isWrong" "Z") (by decide +kernel)) (fun _ h9 => h9) rfl (by decide +kernel) (by rfl) (by rfl) (Nat.le_of_ble_eq_true rfl) dX7_number_104 (fun H locs hP hD hS => ?_)
                  have hP : va_P G.1 vwCl ([(md 0, .inr (6, [.ref (md 1), .ref (md 2), .int (nI np), .ref (md 3), .int (nI ty), .int (nI aw), .int (bI false), .ref (md 4), .float up, .float lo, .int (nI su), .ref (md 5), .ref (md 6), .ref (md 7), .float fo])), (md 1, .inl (G.2 0, 354, .inl a)), (md 2, .inl (G.2 0, 2832, .inl pa)), (md 3, .inl (G.2 3, 60, .inl tb)), (md 4, .inl (G.2 0, 36, .inl qu)), (md 5, .inl (G.2 2, 288, .inr (.inr (.inl kn)))), (md 6, .inl (G.2 1, 288, .inl (fun jj => bI (ik jj)))), (md 7, .inl (G.2 1, 288, .inl (fun jj => bI (im jj))))]) H := hP
                  have hD : va_D A ([(md 0, .inr (6, [.ref (md 1), .ref (md 2), .int (nI np), .ref (md 3), .int (nI ty), .int (nI aw), .int (bI false), .ref (md 4), .float up, .float lo, .int (nI su), .ref (md 5), .ref (md 6), .ref (md 7), .float fo])), (md 1, .inl (G.2 0, 354, .inl a)), (md 2, .inl (G.2 0, 2832, .inl pa)), (md 3, .inl (G.2 3, 60, .inl tb)), (md 4, .inl (G.2 0, 36, .inl qu)), (md 5, .inl (G.2 2, 288, .inr (.inr (.inl kn)))), (md 6, .inl (G.2 1, 288, .inl (fun jj => bI (ik jj)))), (md 7, .inl (G.2 1, 288, .inl (fun jj => bI (im jj))))]) := hD
                  refine lv_aload_n hx hb dX7_number_107 rfl (lv_at hl 0 rfl) ?_
                  refine lv_aload_n hx hb dX7_number_108 rfl (lv_at hl 0 rfl) ?_
                  refine va_get (D := G.1) (ci := 6) (v := .int (bI false)) (C := RX7) (T := TX7) (N := 15) hx hb hts (by decide +kernel) hown hK.1 hP 0 rfl rfl 6 (by decide) (hts (.fieldLink RX7 65 "PriceIndexCalculatorModel" "isWrong" "Z") (by decide +kernel)) (fun _ h9 => h9) rfl dX7_number_109 ?_
                  refine nb_if_eq (B := false) (tgt := 119) hx hb dX7_number_112 (by decide) (fun c_36 => ?_) (fun c_36 => ?_)
                  · refine lv_iload hx hb dX7_number_119 (lv_at hl 4 rfl) ?_
                    refine va_put (D := G.1) (ci := 6) (v := .int (nI i)) (ty := .int) (C := RX7) (T := TX7) (N := 15) hx hb hts (by decide +kernel) tyX7 tyX7_ok nmX7 hown hK.1 hP hD hS 0 rfl rfl 5 (by decide) (hts (.fieldLink RX7 59 "PriceIndexCalculatorModel" "at" "I") (by decide +kernel)) (fun _ h9 => h9) rfl (by decide +kernel) rfl rfl (Nat.le_of_ble_eq_true rfl) dX7_number_121 (fun H locs hP hD hS => ?_)
                    have hP : va_P G.1 vwCl ([(md 0, .inr (6, [.ref (md 1), .ref (md 2), .int (nI np), .ref (md 3), .int (nI ty), .int (nI i), .int (bI false), .ref (md 4), .float up, .float lo, .int (nI su), .ref (md 5), .ref (md 6), .ref (md 7), .float fo])), (md 1, .inl (G.2 0, 354, .inl a)), (md 2, .inl (G.2 0, 2832, .inl pa)), (md 3, .inl (G.2 3, 60, .inl tb)), (md 4, .inl (G.2 0, 36, .inl qu)), (md 5, .inl (G.2 2, 288, .inr (.inr (.inl kn)))), (md 6, .inl (G.2 1, 288, .inl (fun jj => bI (ik jj)))), (md 7, .inl (G.2 1, 288, .inl (fun jj => bI (im jj))))]) H := hP
                    have hD : va_D A ([(md 0, .inr (6, [.ref (md 1), .ref (md 2), .int (nI np), .ref (md 3), .int (nI ty), .int (nI i), .int (bI false), .ref (md 4), .float up, .float lo, .int (nI su), .ref (md 5), .ref (md 6), .ref (md 7), .float fo])), (md 1, .inl (G.2 0, 354, .inl a)), (md 2, .inl (G.2 0, 2832, .inl pa)), (md 3, .inl (G.2 3, 60, .inl tb)), (md 4, .inl (G.2 0, 36, .inl qu)), (md 5, .inl (G.2 2, 288, .inr (.inr (.inl kn)))), (md 6, .inl (G.2 1, 288, .inl (fun jj => bI (ik jj)))), (md 7, .inl (G.2 1, 288, .inl (fun jj => bI (im jj))))]) := hD
                    refine lv_iload_n hx hb dX7_number_124 rfl (lv_at hl 3 rfl) ?_
                    have hP9 : va_P G.1 vwCl (mcells G md a pa np tb ty (rnP c9 ty g aw) (!nOk c9 ty g aw) qu up lo su kn ik im fo) H := by unfold rnP; rw [hok]; rw [hq]; exact hP
                    exact W.iret (v := nI v9) hx hb hr (fun t ht hW => ⟨⟨_, (), rfl, (congrArg nI hv.symm), bM_end ht hP9⟩, hS.F ht⟩) hS.2.2 dX7_number_125
                  · exact absurd c_36 (by decide)
                · refine lv_iconst (v := nI 1) hx hb dX7_number_99 (by decide) ?_
                  refine lv_goto (tgt := 104) hx hb dX7_number_100 (by decide) ?_
                  have hgt : decide (g < nI v9) = true := by simpa [Int32.not_le, Int32.not_lt] using c_35
                  have hfm : nFm c9 aw (i - aw) = true := by unfold nFm; simp; omega
                  have hok : nOk c9 ty g aw = false := by unfold nOk; rw [hq, hv, hgt, hfm]; rfl
                  refine eq_i (y := bI true) rfl ?_
                  refine va_put (D := G.1) (ci := 6) (v := .int (bI true)) (ty := .boolean) (C := RX7) (T := TX7) (N := 15) hx hb hts (by decide +kernel) tyX7 tyX7_ok nmX7 hown hK.1 hP hD hS 0 rfl rfl 6 (by decide) (hts (.fieldLink RX7 65 "PriceIndexCalculatorModel" "isWrong" "Z") (by decide +kernel)) (fun _ h9 => h9) rfl (by decide +kernel) (by rfl) (by rfl) (Nat.le_of_ble_eq_true rfl) dX7_number_104 (fun H locs hP hD hS => ?_)
                  have hP : va_P G.1 vwCl ([(md 0, .inr (6, [.ref (md 1), .ref (md 2), .int (nI np), .ref (md 3), .int (nI ty), .int (nI aw), .int (bI true), .ref (md 4), .float up, .float lo, .int (nI su), .ref (md 5), .ref (md 6), .ref (md 7), .float fo])), (md 1, .inl (G.2 0, 354, .inl a)), (md 2, .inl (G.2 0, 2832, .inl pa)), (md 3, .inl (G.2 3, 60, .inl tb)), (md 4, .inl (G.2 0, 36, .inl qu)), (md 5, .inl (G.2 2, 288, .inr (.inr (.inl kn)))), (md 6, .inl (G.2 1, 288, .inl (fun jj => bI (ik jj)))), (md 7, .inl (G.2 1, 288, .inl (fun jj => bI (im jj))))]) H := hP
                  have hD : va_D A ([(md 0, .inr (6, [.ref (md 1), .ref (md 2), .int (nI np), .ref (md 3), .int (nI ty), .int (nI aw), .int (bI true), .ref (md 4), .float up, .float lo, .int (nI su), .ref (md 5), .ref (md 6), .ref (md 7), .float fo])), (md 1, .inl (G.2 0, 354, .inl a)), (md 2, .inl (G.2 0, 2832, .inl pa)), (md 3, .inl (G.2 3, 60, .inl tb)), (md 4, .inl (G.2 0, 36, .inl qu)), (md 5, .inl (G.2 2, 288, .inr (.inr (.inl kn)))), (md 6, .inl (G.2 1, 288, .inl (fun jj => bI (ik jj)))), (md 7, .inl (G.2 1, 288, .inl (fun jj => bI (im jj))))]) := hD
                  refine lv_aload_n hx hb dX7_number_107 rfl (lv_at hl 0 rfl) ?_
                  refine lv_aload_n hx hb dX7_number_108 rfl (lv_at hl 0 rfl) ?_
                  refine va_get (D := G.1) (ci := 6) (v := .int (bI true)) (C := RX7) (T := TX7) (N := 15) hx hb hts (by decide +kernel) hown hK.1 hP 0 rfl rfl 6 (by decide) (hts (.fieldLink RX7 65 "PriceIndexCalculatorModel" "isWrong" "Z") (by decide +kernel)) (fun _ h9 => h9) rfl dX7_number_109 ?_
                  refine nb_if_eq (B := true) (tgt := 119) hx hb dX7_number_112 (by decide) (fun c_37 => ?_) (fun c_37 => ?_)
                  · exact absurd c_37 (by decide)
                  · refine lv_iload_n hx hb dX7_number_115 rfl (lv_at hl 2 rfl) ?_
                    refine lv_goto (tgt := 121) hx hb dX7_number_116 (by decide) ?_
                    refine va_put (D := G.1) (ci := 6) (v := .int (nI aw)) (ty := .int) (C := RX7) (T := TX7) (N := 15) hx hb hts (by decide +kernel) tyX7 tyX7_ok nmX7 hown hK.1 hP hD hS 0 rfl rfl 5 (by decide) (hts (.fieldLink RX7 59 "PriceIndexCalculatorModel" "at" "I") (by decide +kernel)) (fun _ h9 => h9) rfl (by decide +kernel) rfl rfl (Nat.le_of_ble_eq_true rfl) dX7_number_121 (fun H locs hP hD hS => ?_)
                    have hP : va_P G.1 vwCl ([(md 0, .inr (6, [.ref (md 1), .ref (md 2), .int (nI np), .ref (md 3), .int (nI ty), .int (nI aw), .int (bI true), .ref (md 4), .float up, .float lo, .int (nI su), .ref (md 5), .ref (md 6), .ref (md 7), .float fo])), (md 1, .inl (G.2 0, 354, .inl a)), (md 2, .inl (G.2 0, 2832, .inl pa)), (md 3, .inl (G.2 3, 60, .inl tb)), (md 4, .inl (G.2 0, 36, .inl qu)), (md 5, .inl (G.2 2, 288, .inr (.inr (.inl kn)))), (md 6, .inl (G.2 1, 288, .inl (fun jj => bI (ik jj)))), (md 7, .inl (G.2 1, 288, .inl (fun jj => bI (im jj))))]) H := hP
                    have hD : va_D A ([(md 0, .inr (6, [.ref (md 1), .ref (md 2), .int (nI np), .ref (md 3), .int (nI ty), .int (nI aw), .int (bI true), .ref (md 4), .float up, .float lo, .int (nI su), .ref (md 5), .ref (md 6), .ref (md 7), .float fo])), (md 1, .inl (G.2 0, 354, .inl a)), (md 2, .inl (G.2 0, 2832, .inl pa)), (md 3, .inl (G.2 3, 60, .inl tb)), (md 4, .inl (G.2 0, 36, .inl qu)), (md 5, .inl (G.2 2, 288, .inr (.inr (.inl kn)))), (md 6, .inl (G.2 1, 288, .inl (fun jj => bI (ik jj)))), (md 7, .inl (G.2 1, 288, .inl (fun jj => bI (im jj))))]) := hD
                    refine lv_iload_n hx hb dX7_number_124 rfl (lv_at hl 3 rfl) ?_
                    have hP9 : va_P G.1 vwCl (mcells G md a pa np tb ty (rnP c9 ty g aw) (!nOk c9 ty g aw) qu up lo su kn ik im fo) H := by unfold rnP; rw [hok]; exact hP
                    exact W.iret (v := nI v9) hx hb hr (fun t ht hW => ⟨⟨_, (), rfl, (congrArg nI hv.symm), bM_end ht hP9⟩, hS.F ht⟩) hS.2.2 dX7_number_125
    · have hdg : isDg (c9 i) = true := (Bool.and_eq_true_iff.mp c_23).2
      have h48 := isDg_48 hdg
      refine lv_iload hx hb dX7_number_19 (lv_at hl 4 rfl) ?_
      refine lv_iload_n hx hb dX7_number_21 rfl (lv_at hl 2 rfl) ?_
      refine n_sub hx hb (by omega) dX7_number_22 ?_
      refine lv_iconst (v := nI 5) hx hb dX7_number_23 (by decide) ?_
      refine n_icmp_ge (x := i - aw) (y := 5) (tgt := 45) hx hb (by omega) (by omega) dX7_number_24 (by decide) (fun c_38 => ?_) (fun c_38 => ?_)
      · refine lv_iload_n hx hb dX7_number_45 rfl (lv_at hl 3 rfl) ?_
        refine lv_istore_n (lv' := [(3, .int (nI v9)), (0, .ref (md 0)), (1, .int g), (2, .int (nI aw)), (4, .int (nI i))]) hx hb dX7_number_46 rfl hl (by decide) rfl (fun ls hl => ?_)
        refine lv_iinc (v := nI (i + 1)) (lv' := [(4, .int (nI (i + 1))), (3, .int (nI v9)), (0, .ref (md 0)), (1, .int g), (2, .int (nI aw))]) hx hb dX7_number_47 hl (k := 4) rfl (by exact nI_add _ _) (by decide) rfl (fun ls hl => ?_)
        refine lv_goto (tgt := 10) hx hb dX7_number_50 (by decide) ?_
        exact ih_1 v9 _ (⟨by omega, nV_keep hI_2.2.1 (by omega), dg_step hI_2.2.2 hdg⟩) (lv_sub hl [2, 3, 4, 1, 0] rfl)
      · refine lv_bipush (v := nI 10) hx hb dX7_number_27 (by decide) ?_
        refine lv_iload_n hx hb dX7_number_29 rfl (lv_at hl 3 rfl) ?_
        refine n_mul hx hb dX7_number_30 ?_
        refine lv_aload_n hx hb dX7_number_31 rfl (lv_at hl 0 rfl) ?_
        refine va_get (D := G.1) (ci := 6) (v := .ref (md 3)) (C := RX7) (T := TX7) (N := 15) hx hb hts (by decide +kernel) hown hK.1 hP 0 rfl rfl 3 (by decide) (hts (.fieldLink RX7 16 "PriceIndexCalculatorModel" "text" "[B") (by decide +kernel)) (fun _ h9 => h9) rfl dX7_number_32 ?_
        refine lv_iload hx hb dX7_number_35 (lv_at hl 4 rfl) ?_
        refine n_bald hx hb hK.1 hP 3 3 rfl rfl (j := i) (by omega) (by omega) dX7_number_37 ?_
        refine eq_i (y := nI (c9 i)) ((htb i (by omega)).1.trans (sbB_dig hdg)) ?_
        refine n_add hx hb dX7_number_38 ?_
        refine lv_bipush (v := nI 48) hx hb dX7_number_39 (by decide) ?_
        refine n_sub hx hb (by omega) dX7_number_41 ?_
        refine lv_goto (tgt := 46) hx hb dX7_number_42 (by decide) ?_
        refine lv_istore_n (lv' := [(3, .int (nI (((10 * v9) + (c9 i)) - 48))), (0, .ref (md 0)), (1, .int g), (2, .int (nI aw)), (4, .int (nI i))]) hx hb dX7_number_46 rfl hl (by decide) rfl (fun ls hl => ?_)
        refine lv_iinc (v := nI (i + 1)) (lv' := [(4, .int (nI (i + 1))), (3, .int (nI (((10 * v9) + (c9 i)) - 48))), (0, .ref (md 0)), (1, .int g), (2, .int (nI aw))]) hx hb dX7_number_47 hl (k := 4) rfl (by exact nI_add _ _) (by decide) rfl (fun ls hl => ?_)
        refine lv_goto (tgt := 10) hx hb dX7_number_50 (by decide) ?_
        exact ih_1 (((10 * v9) + (c9 i)) - 48) _ (⟨by omega, nV_step2 hI_2.1 hI_2.2.1 (by omega) h48, dg_step hI_2.2.2 hdg⟩) (lv_sub hl [2, 3, 4, 1, 0] rfl)
set_option maxHeartbeats 4000000 in
set_option maxRecDepth 100000 in
/-- Model.pass -/
theorem metX7_pass (l : Launch) (G : GG) (md : Nat → Nat) (a pa : Nat → Int32) (np : Nat) (tb : Nat → Int32) (ty aw : Nat) (iw : Bool) (qu : Nat → Int32) (up lo : UInt32) (su : Nat) (kn : Nat → UInt32) (ik im : Nat → Bool) (fo : UInt32) (c9 : Nat → Nat) (hty : ty ≤ 60) (htb : tbI tb c9 ty) (q : Nat) (hq : q < 128) (hz : aw ≤ ty)  : Met l yX7_pass wsX7_pass ({ frames := 0, cells := 0, slots := 0, locals := 0 }) (pM G (mcells G md a pa np tb ty aw iw qu up lo su kn ik im fo) [.ref (md 0), .int (nI q)]) (va_Qv (fun (_ : Unit) => True) (bM G (fun _ : Unit => mcells G md a pa np tb ty (cond iw aw (skP c9 ty q aw)) (cond iw true (!skp c9 ty q aw)) qu up lo su kn ik im fo)) (adr (mcells G md a pa np tb ty aw iw qu up lo su kn ik im fo))) 0 0 (adr (mcells G md a pa np tb ty aw iw qu up lo su kn ik im fo)) := by
  refine Met.ofW (cc := cX7_pass) (maxL := 2) (ret := none) (by decide) rfl ?_
  intro p e s m args below meth c s₁ B hml hv
  obtain ⟨rfl, hK, hP, hD0⟩ := hv
  have hx := B.exec
  have hb := B.bytes
  have hr := B.returns
  have hlocks := B.notSynchronized
  have hts := atoms_spec (ws := wsX7_pass) B.pre
  have hown : s.vm.findClass RX7 = some m.cls := findClass_of_methodNamed B.named
  have hD := hD0.own
  generalize hAe : adr (mcells G md a pa np tb ty aw iw qu up lo su kn ik im fo) = A at hD ⊢
  have hS : va_S A s.heap s.heap [] := va_S.rf
  have hl := lv_entry ([.ref (md 0), .int (nI q)]) (n := 2) (Nat.le_of_ble_eq_true rfl)
  rw [lg_entry_eq]
  generalize (lg_sl ([.ref (md 0), .int (nI q)]) ++ List.replicate (2 - (lg_sl ([.ref (md 0), .int (nI q)])).length) Slot.unset).toArray = ls at hl ⊢
  have hl : lv_has ls 2 [(0, .ref (md 0)), (1, .int (nI q))] := hl
  have hP : va_P G.1 vwCl ([(md 0, .inr (6, [.ref (md 1), .ref (md 2), .int (nI np), .ref (md 3), .int (nI ty), .int (nI aw), .int (bI iw), .ref (md 4), .float up, .float lo, .int (nI su), .ref (md 5), .ref (md 6), .ref (md 7), .float fo])), (md 1, .inl (G.2 0, 354, .inl a)), (md 2, .inl (G.2 0, 2832, .inl pa)), (md 3, .inl (G.2 3, 60, .inl tb)), (md 4, .inl (G.2 0, 36, .inl qu)), (md 5, .inl (G.2 2, 288, .inr (.inr (.inl kn)))), (md 6, .inl (G.2 1, 288, .inl (fun jj => bI (ik jj)))), (md 7, .inl (G.2 1, 288, .inl (fun jj => bI (im jj))))]) s.heap := hP
  have hD : va_D A ([(md 0, .inr (6, [.ref (md 1), .ref (md 2), .int (nI np), .ref (md 3), .int (nI ty), .int (nI aw), .int (bI iw), .ref (md 4), .float up, .float lo, .int (nI su), .ref (md 5), .ref (md 6), .ref (md 7), .float fo])), (md 1, .inl (G.2 0, 354, .inl a)), (md 2, .inl (G.2 0, 2832, .inl pa)), (md 3, .inl (G.2 3, 60, .inl tb)), (md 4, .inl (G.2 0, 36, .inl qu)), (md 5, .inl (G.2 2, 288, .inr (.inr (.inl kn)))), (md 6, .inl (G.2 1, 288, .inl (fun jj => bI (ik jj)))), (md 7, .inl (G.2 1, 288, .inl (fun jj => bI (im jj))))]) := hD
  refine lv_aload_n hx hb dX7_pass_0 rfl (lv_at hl 0 rfl) ?_
  refine va_get (D := G.1) (ci := 6) (v := .int (bI iw)) (C := RX7) (T := TX7) (N := 15) hx hb hts (by decide +kernel) hown hK.1 hP 0 rfl rfl 6 (by decide) (hts (.fieldLink RX7 65 "PriceIndexCalculatorModel" "isWrong" "Z") (by decide +kernel)) (fun _ h9 => h9) rfl dX7_pass_1 ?_
  refine nb_if_ne (B := iw) (tgt := 61) hx hb dX7_pass_4 (by decide) (fun c_1 => ?_) (fun c_1 => ?_)
  · have hP9 : va_P G.1 vwCl (mcells G md a pa np tb ty (cond iw aw (skP c9 ty q aw)) (cond iw true (!skp c9 ty q aw)) qu up lo su kn ik im fo) s.heap := by rw [c_1] at hP ⊢; exact hP
    exact W.vret hx hb hr (fun t ht hW => ⟨⟨(), rfl, trivial, bM_end ht hP9⟩, hS.F ht⟩) hS.2.2 dX7_pass_61
  · refine lv_aload_n hx hb dX7_pass_7 rfl (lv_at hl 0 rfl) ?_
    refine lv_aload_n hx hb dX7_pass_8 rfl (lv_at hl 0 rfl) ?_
    refine va_get (D := G.1) (ci := 6) (v := .int (nI aw)) (C := RX7) (T := TX7) (N := 15) hx hb hts (by decide +kernel) hown hK.1 hP 0 rfl rfl 5 (by decide) (hts (.fieldLink RX7 59 "PriceIndexCalculatorModel" "at" "I") (by decide +kernel)) (fun _ h9 => h9) rfl dX7_pass_9 ?_
    refine lv_aload_n hx hb dX7_pass_12 rfl (lv_at hl 0 rfl) ?_
    refine va_get (D := G.1) (ci := 6) (v := .int (nI ty)) (C := RX7) (T := TX7) (N := 15) hx hb hts (by decide +kernel) hown hK.1 hP 0 rfl rfl 4 (by decide) (hts (.fieldLink RX7 56 "PriceIndexCalculatorModel" "typed" "I") (by decide +kernel)) (fun _ h9 => h9) rfl dX7_pass_13 ?_
    refine n_icmp_ge (x := aw) (y := ty) (tgt := 32) hx hb (by omega) (by omega) dX7_pass_16 (by decide) (fun c_2 => ?_) (fun c_2 => ?_)
    · refine lv_iconst (v := nI 1) hx hb dX7_pass_32 (by decide) ?_
      refine lv_goto (tgt := 37) hx hb dX7_pass_33 (by decide) ?_
      have hsk : skp c9 ty q aw = false := by unfold skp; rw [decide_eq_false (by omega : ¬ aw < ty)]; rfl
      refine eq_i (y := bI true) rfl ?_
      refine va_put (D := G.1) (ci := 6) (v := .int (bI true)) (ty := .boolean) (C := RX7) (T := TX7) (N := 15) hx hb hts (by decide +kernel) tyX7 tyX7_ok nmX7 hown hK.1 hP hD hS 0 rfl rfl 6 (by decide) (hts (.fieldLink RX7 65 "PriceIndexCalculatorModel" "isWrong" "Z") (by decide +kernel)) (fun _ h9 => h9) rfl (by decide +kernel) (by rfl) (by rfl) (Nat.le_of_ble_eq_true rfl) dX7_pass_37 (fun H locs hP hD hS => ?_)
      have hP : va_P G.1 vwCl ([(md 0, .inr (6, [.ref (md 1), .ref (md 2), .int (nI np), .ref (md 3), .int (nI ty), .int (nI aw), .int (bI true), .ref (md 4), .float up, .float lo, .int (nI su), .ref (md 5), .ref (md 6), .ref (md 7), .float fo])), (md 1, .inl (G.2 0, 354, .inl a)), (md 2, .inl (G.2 0, 2832, .inl pa)), (md 3, .inl (G.2 3, 60, .inl tb)), (md 4, .inl (G.2 0, 36, .inl qu)), (md 5, .inl (G.2 2, 288, .inr (.inr (.inl kn)))), (md 6, .inl (G.2 1, 288, .inl (fun jj => bI (ik jj)))), (md 7, .inl (G.2 1, 288, .inl (fun jj => bI (im jj))))]) H := hP
      have hD : va_D A ([(md 0, .inr (6, [.ref (md 1), .ref (md 2), .int (nI np), .ref (md 3), .int (nI ty), .int (nI aw), .int (bI true), .ref (md 4), .float up, .float lo, .int (nI su), .ref (md 5), .ref (md 6), .ref (md 7), .float fo])), (md 1, .inl (G.2 0, 354, .inl a)), (md 2, .inl (G.2 0, 2832, .inl pa)), (md 3, .inl (G.2 3, 60, .inl tb)), (md 4, .inl (G.2 0, 36, .inl qu)), (md 5, .inl (G.2 2, 288, .inr (.inr (.inl kn)))), (md 6, .inl (G.2 1, 288, .inl (fun jj => bI (ik jj)))), (md 7, .inl (G.2 1, 288, .inl (fun jj => bI (im jj))))]) := hD
      refine lv_aload_n hx hb dX7_pass_40 rfl (lv_at hl 0 rfl) ?_
      refine lv_dup hx hb dX7_pass_41 rfl ?_
      refine va_get (D := G.1) (ci := 6) (v := .int (nI aw)) (C := RX7) (T := TX7) (N := 15) hx hb hts (by decide +kernel) hown hK.1 hP 0 rfl rfl 5 (by decide) (hts (.fieldLink RX7 59 "PriceIndexCalculatorModel" "at" "I") (by decide +kernel)) (fun _ h9 => h9) rfl dX7_pass_42 ?_
      refine lv_aload_n hx hb dX7_pass_45 rfl (lv_at hl 0 rfl) ?_
      refine va_get (D := G.1) (ci := 6) (v := .int (bI true)) (C := RX7) (T := TX7) (N := 15) hx hb hts (by decide +kernel) hown hK.1 hP 0 rfl rfl 6 (by decide) (hts (.fieldLink RX7 65 "PriceIndexCalculatorModel" "isWrong" "Z") (by decide +kernel)) (fun _ h9 => h9) rfl dX7_pass_46 ?_
      refine nb_if_eq (B := true) (tgt := 56) hx hb dX7_pass_49 (by decide) (fun c_3 => ?_) (fun c_3 => ?_)
      · exact absurd c_3 (by decide)
      · refine lv_iconst (v := nI 0) hx hb dX7_pass_52 (by decide) ?_
        refine lv_goto (tgt := 57) hx hb dX7_pass_53 (by decide) ?_
        refine n_add hx hb dX7_pass_57 ?_
        refine va_put (D := G.1) (ci := 6) (v := .int (nI (aw + 0))) (ty := .int) (C := RX7) (T := TX7) (N := 15) hx hb hts (by decide +kernel) tyX7 tyX7_ok nmX7 hown hK.1 hP hD hS 0 rfl rfl 5 (by decide) (hts (.fieldLink RX7 59 "PriceIndexCalculatorModel" "at" "I") (by decide +kernel)) (fun _ h9 => h9) rfl (by decide +kernel) rfl rfl (Nat.le_of_ble_eq_true rfl) dX7_pass_58 (fun H locs hP hD hS => ?_)
        have hP : va_P G.1 vwCl ([(md 0, .inr (6, [.ref (md 1), .ref (md 2), .int (nI np), .ref (md 3), .int (nI ty), .int (nI (aw + 0)), .int (bI true), .ref (md 4), .float up, .float lo, .int (nI su), .ref (md 5), .ref (md 6), .ref (md 7), .float fo])), (md 1, .inl (G.2 0, 354, .inl a)), (md 2, .inl (G.2 0, 2832, .inl pa)), (md 3, .inl (G.2 3, 60, .inl tb)), (md 4, .inl (G.2 0, 36, .inl qu)), (md 5, .inl (G.2 2, 288, .inr (.inr (.inl kn)))), (md 6, .inl (G.2 1, 288, .inl (fun jj => bI (ik jj)))), (md 7, .inl (G.2 1, 288, .inl (fun jj => bI (im jj))))]) H := hP
        have hD : va_D A ([(md 0, .inr (6, [.ref (md 1), .ref (md 2), .int (nI np), .ref (md 3), .int (nI ty), .int (nI (aw + 0)), .int (bI true), .ref (md 4), .float up, .float lo, .int (nI su), .ref (md 5), .ref (md 6), .ref (md 7), .float fo])), (md 1, .inl (G.2 0, 354, .inl a)), (md 2, .inl (G.2 0, 2832, .inl pa)), (md 3, .inl (G.2 3, 60, .inl tb)), (md 4, .inl (G.2 0, 36, .inl qu)), (md 5, .inl (G.2 2, 288, .inr (.inr (.inl kn)))), (md 6, .inl (G.2 1, 288, .inl (fun jj => bI (ik jj)))), (md 7, .inl (G.2 1, 288, .inl (fun jj => bI (im jj))))]) := hD
        have hP9 : va_P G.1 vwCl (mcells G md a pa np tb ty (cond iw aw (skP c9 ty q aw)) (cond iw true (!skp c9 ty q aw)) qu up lo su kn ik im fo) H := by unfold skP; rw [c_1, hsk]; exact hP
        exact W.vret hx hb hr (fun t ht hW => ⟨⟨(), rfl, trivial, bM_end ht hP9⟩, hS.F ht⟩) hS.2.2 dX7_pass_61
    · refine lv_aload_n hx hb dX7_pass_19 rfl (lv_at hl 0 rfl) ?_
      refine va_get (D := G.1) (ci := 6) (v := .ref (md 3)) (C := RX7) (T := TX7) (N := 15) hx hb hts (by decide +kernel) hown hK.1 hP 0 rfl rfl 3 (by decide) (hts (.fieldLink RX7 16 "PriceIndexCalculatorModel" "text" "[B") (by decide +kernel)) (fun _ h9 => h9) rfl dX7_pass_20 ?_
      refine lv_aload_n hx hb dX7_pass_23 rfl (lv_at hl 0 rfl) ?_
      refine va_get (D := G.1) (ci := 6) (v := .int (nI aw)) (C := RX7) (T := TX7) (N := 15) hx hb hts (by decide +kernel) hown hK.1 hP 0 rfl rfl 5 (by decide) (hts (.fieldLink RX7 59 "PriceIndexCalculatorModel" "at" "I") (by decide +kernel)) (fun _ h9 => h9) rfl dX7_pass_24 ?_
      refine n_bald hx hb hK.1 hP 3 3 rfl rfl (j := aw) (by omega) (by omega) dX7_pass_27 ?_
      refine lv_iload_n hx hb dX7_pass_28 rfl (lv_at hl 1 rfl) ?_
      refine lv_icmp_eq (tgt := 36) hx hb dX7_pass_29 (by decide) (fun c_4 => ?_) (fun c_4 => ?_)
      · refine lv_iconst (v := nI 0) hx hb dX7_pass_36 (by decide) ?_
        have hcq : decide (c9 aw = q) = true := by have := c_4; rw [(htb aw (by omega)).1, sbB_eq _ (htb aw (by omega)).2 q hq] at this; simpa using this
        have hsk : skp c9 ty q aw = true := by unfold skp; rw [decide_eq_true (by omega : aw < ty), hcq]; rfl
        refine eq_i (y := bI false) rfl ?_
        refine va_put (D := G.1) (ci := 6) (v := .int (bI false)) (ty := .boolean) (C := RX7) (T := TX7) (N := 15) hx hb hts (by decide +kernel) tyX7 tyX7_ok nmX7 hown hK.1 hP hD hS 0 rfl rfl 6 (by decide) (hts (.fieldLink RX7 65 "PriceIndexCalculatorModel" "isWrong" "Z") (by decide +kernel)) (fun _ h9 => h9) rfl (by decide +kernel) (by rfl) (by rfl) (Nat.le_of_ble_eq_true rfl) dX7_pass_37 (fun H locs hP hD hS => ?_)
        have hP : va_P G.1 vwCl ([(md 0, .inr (6, [.ref (md 1), .ref (md 2), .int (nI np), .ref (md 3), .int (nI ty), .int (nI aw), .int (bI false), .ref (md 4), .float up, .float lo, .int (nI su), .ref (md 5), .ref (md 6), .ref (md 7), .float fo])), (md 1, .inl (G.2 0, 354, .inl a)), (md 2, .inl (G.2 0, 2832, .inl pa)), (md 3, .inl (G.2 3, 60, .inl tb)), (md 4, .inl (G.2 0, 36, .inl qu)), (md 5, .inl (G.2 2, 288, .inr (.inr (.inl kn)))), (md 6, .inl (G.2 1, 288, .inl (fun jj => bI (ik jj)))), (md 7, .inl (G.2 1, 288, .inl (fun jj => bI (im jj))))]) H := hP
        have hD : va_D A ([(md 0, .inr (6, [.ref (md 1), .ref (md 2), .int (nI np), .ref (md 3), .int (nI ty), .int (nI aw), .int (bI false), .ref (md 4), .float up, .float lo, .int (nI su), .ref (md 5), .ref (md 6), .ref (md 7), .float fo])), (md 1, .inl (G.2 0, 354, .inl a)), (md 2, .inl (G.2 0, 2832, .inl pa)), (md 3, .inl (G.2 3, 60, .inl tb)), (md 4, .inl (G.2 0, 36, .inl qu)), (md 5, .inl (G.2 2, 288, .inr (.inr (.inl kn)))), (md 6, .inl (G.2 1, 288, .inl (fun jj => bI (ik jj)))), (md 7, .inl (G.2 1, 288, .inl (fun jj => bI (im jj))))]) := hD
        refine lv_aload_n hx hb dX7_pass_40 rfl (lv_at hl 0 rfl) ?_
        refine lv_dup hx hb dX7_pass_41 rfl ?_
        refine va_get (D := G.1) (ci := 6) (v := .int (nI aw)) (C := RX7) (T := TX7) (N := 15) hx hb hts (by decide +kernel) hown hK.1 hP 0 rfl rfl 5 (by decide) (hts (.fieldLink RX7 59 "PriceIndexCalculatorModel" "at" "I") (by decide +kernel)) (fun _ h9 => h9) rfl dX7_pass_42 ?_
        refine lv_aload_n hx hb dX7_pass_45 rfl (lv_at hl 0 rfl) ?_
        refine va_get (D := G.1) (ci := 6) (v := .int (bI false)) (C := RX7) (T := TX7) (N := 15) hx hb hts (by decide +kernel) hown hK.1 hP 0 rfl rfl 6 (by decide) (hts (.fieldLink RX7 65 "PriceIndexCalculatorModel" "isWrong" "Z") (by decide +kernel)) (fun _ h9 => h9) rfl dX7_pass_46 ?_
        refine nb_if_eq (B := false) (tgt := 56) hx hb dX7_pass_49 (by decide) (fun c_5 => ?_) (fun c_5 => ?_)
        · refine lv_iconst (v := nI 1) hx hb dX7_pass_56 (by decide) ?_
          refine n_add hx hb dX7_pass_57 ?_
          refine va_put (D := G.1) (ci := 6) (v := .int (nI (aw + 1))) (ty := .int) (C := RX7) (T := TX7) (N := 15) hx hb hts (by decide +kernel) tyX7 tyX7_ok nmX7 hown hK.1 hP hD hS 0 rfl rfl 5 (by decide) (hts (.fieldLink RX7 59 "PriceIndexCalculatorModel" "at" "I") (by decide +kernel)) (fun _ h9 => h9) rfl (by decide +kernel) rfl rfl (Nat.le_of_ble_eq_true rfl) dX7_pass_58 (fun H locs hP hD hS => ?_)
          have hP : va_P G.1 vwCl ([(md 0, .inr (6, [.ref (md 1), .ref (md 2), .int (nI np), .ref (md 3), .int (nI ty), .int (nI (aw + 1)), .int (bI false), .ref (md 4), .float up, .float lo, .int (nI su), .ref (md 5), .ref (md 6), .ref (md 7), .float fo])), (md 1, .inl (G.2 0, 354, .inl a)), (md 2, .inl (G.2 0, 2832, .inl pa)), (md 3, .inl (G.2 3, 60, .inl tb)), (md 4, .inl (G.2 0, 36, .inl qu)), (md 5, .inl (G.2 2, 288, .inr (.inr (.inl kn)))), (md 6, .inl (G.2 1, 288, .inl (fun jj => bI (ik jj)))), (md 7, .inl (G.2 1, 288, .inl (fun jj => bI (im jj))))]) H := hP
          have hD : va_D A ([(md 0, .inr (6, [.ref (md 1), .ref (md 2), .int (nI np), .ref (md 3), .int (nI ty), .int (nI (aw + 1)), .int (bI false), .ref (md 4), .float up, .float lo, .int (nI su), .ref (md 5), .ref (md 6), .ref (md 7), .float fo])), (md 1, .inl (G.2 0, 354, .inl a)), (md 2, .inl (G.2 0, 2832, .inl pa)), (md 3, .inl (G.2 3, 60, .inl tb)), (md 4, .inl (G.2 0, 36, .inl qu)), (md 5, .inl (G.2 2, 288, .inr (.inr (.inl kn)))), (md 6, .inl (G.2 1, 288, .inl (fun jj => bI (ik jj)))), (md 7, .inl (G.2 1, 288, .inl (fun jj => bI (im jj))))]) := hD
          have hP9 : va_P G.1 vwCl (mcells G md a pa np tb ty (cond iw aw (skP c9 ty q aw)) (cond iw true (!skp c9 ty q aw)) qu up lo su kn ik im fo) H := by unfold skP; rw [c_1, hsk]; exact hP
          exact W.vret hx hb hr (fun t ht hW => ⟨⟨(), rfl, trivial, bM_end ht hP9⟩, hS.F ht⟩) hS.2.2 dX7_pass_61
        · exact absurd c_5 (by decide)
      · refine lv_iconst (v := nI 1) hx hb dX7_pass_32 (by decide) ?_
        refine lv_goto (tgt := 37) hx hb dX7_pass_33 (by decide) ?_
        have hcq : decide (c9 aw = q) = false := by have := c_4; rw [(htb aw (by omega)).1, sbB_eq _ (htb aw (by omega)).2 q hq] at this; simpa using this
        have hsk : skp c9 ty q aw = false := by unfold skp; rw [decide_eq_true (by omega : aw < ty), hcq]; rfl
        refine eq_i (y := bI true) rfl ?_
        refine va_put (D := G.1) (ci := 6) (v := .int (bI true)) (ty := .boolean) (C := RX7) (T := TX7) (N := 15) hx hb hts (by decide +kernel) tyX7 tyX7_ok nmX7 hown hK.1 hP hD hS 0 rfl rfl 6 (by decide) (hts (.fieldLink RX7 65 "PriceIndexCalculatorModel" "isWrong" "Z") (by decide +kernel)) (fun _ h9 => h9) rfl (by decide +kernel) (by rfl) (by rfl) (Nat.le_of_ble_eq_true rfl) dX7_pass_37 (fun H locs hP hD hS => ?_)
        have hP : va_P G.1 vwCl ([(md 0, .inr (6, [.ref (md 1), .ref (md 2), .int (nI np), .ref (md 3), .int (nI ty), .int (nI aw), .int (bI true), .ref (md 4), .float up, .float lo, .int (nI su), .ref (md 5), .ref (md 6), .ref (md 7), .float fo])), (md 1, .inl (G.2 0, 354, .inl a)), (md 2, .inl (G.2 0, 2832, .inl pa)), (md 3, .inl (G.2 3, 60, .inl tb)), (md 4, .inl (G.2 0, 36, .inl qu)), (md 5, .inl (G.2 2, 288, .inr (.inr (.inl kn)))), (md 6, .inl (G.2 1, 288, .inl (fun jj => bI (ik jj)))), (md 7, .inl (G.2 1, 288, .inl (fun jj => bI (im jj))))]) H := hP
        have hD : va_D A ([(md 0, .inr (6, [.ref (md 1), .ref (md 2), .int (nI np), .ref (md 3), .int (nI ty), .int (nI aw), .int (bI true), .ref (md 4), .float up, .float lo, .int (nI su), .ref (md 5), .ref (md 6), .ref (md 7), .float fo])), (md 1, .inl (G.2 0, 354, .inl a)), (md 2, .inl (G.2 0, 2832, .inl pa)), (md 3, .inl (G.2 3, 60, .inl tb)), (md 4, .inl (G.2 0, 36, .inl qu)), (md 5, .inl (G.2 2, 288, .inr (.inr (.inl kn)))), (md 6, .inl (G.2 1, 288, .inl (fun jj => bI (ik jj)))), (md 7, .inl (G.2 1, 288, .inl (fun jj => bI (im jj))))]) := hD
        refine lv_aload_n hx hb dX7_pass_40 rfl (lv_at hl 0 rfl) ?_
        refine lv_dup hx hb dX7_pass_41 rfl ?_
        refine va_get (D := G.1) (ci := 6) (v := .int (nI aw)) (C := RX7) (T := TX7) (N := 15) hx hb hts (by decide +kernel) hown hK.1 hP 0 rfl rfl 5 (by decide) (hts (.fieldLink RX7 59 "PriceIndexCalculatorModel" "at" "I") (by decide +kernel)) (fun _ h9 => h9) rfl dX7_pass_42 ?_
        refine lv_aload_n hx hb dX7_pass_45 rfl (lv_at hl 0 rfl) ?_
        refine va_get (D := G.1) (ci := 6) (v := .int (bI true)) (C := RX7) (T := TX7) (N := 15) hx hb hts (by decide +kernel) hown hK.1 hP 0 rfl rfl 6 (by decide) (hts (.fieldLink RX7 65 "PriceIndexCalculatorModel" "isWrong" "Z") (by decide +kernel)) (fun _ h9 => h9) rfl dX7_pass_46 ?_
        refine nb_if_eq (B := true) (tgt := 56) hx hb dX7_pass_49 (by decide) (fun c_6 => ?_) (fun c_6 => ?_)
        · exact absurd c_6 (by decide)
        · refine lv_iconst (v := nI 0) hx hb dX7_pass_52 (by decide) ?_
          refine lv_goto (tgt := 57) hx hb dX7_pass_53 (by decide) ?_
          refine n_add hx hb dX7_pass_57 ?_
          refine va_put (D := G.1) (ci := 6) (v := .int (nI (aw + 0))) (ty := .int) (C := RX7) (T := TX7) (N := 15) hx hb hts (by decide +kernel) tyX7 tyX7_ok nmX7 hown hK.1 hP hD hS 0 rfl rfl 5 (by decide) (hts (.fieldLink RX7 59 "PriceIndexCalculatorModel" "at" "I") (by decide +kernel)) (fun _ h9 => h9) rfl (by decide +kernel) rfl rfl (Nat.le_of_ble_eq_true rfl) dX7_pass_58 (fun H locs hP hD hS => ?_)
          have hP : va_P G.1 vwCl ([(md 0, .inr (6, [.ref (md 1), .ref (md 2), .int (nI np), .ref (md 3), .int (nI ty), .int (nI (aw + 0)), .int (bI true), .ref (md 4), .float up, .float lo, .int (nI su), .ref (md 5), .ref (md 6), .ref (md 7), .float fo])), (md 1, .inl (G.2 0, 354, .inl a)), (md 2, .inl (G.2 0, 2832, .inl pa)), (md 3, .inl (G.2 3, 60, .inl tb)), (md 4, .inl (G.2 0, 36, .inl qu)), (md 5, .inl (G.2 2, 288, .inr (.inr (.inl kn)))), (md 6, .inl (G.2 1, 288, .inl (fun jj => bI (ik jj)))), (md 7, .inl (G.2 1, 288, .inl (fun jj => bI (im jj))))]) H := hP
          have hD : va_D A ([(md 0, .inr (6, [.ref (md 1), .ref (md 2), .int (nI np), .ref (md 3), .int (nI ty), .int (nI (aw + 0)), .int (bI true), .ref (md 4), .float up, .float lo, .int (nI su), .ref (md 5), .ref (md 6), .ref (md 7), .float fo])), (md 1, .inl (G.2 0, 354, .inl a)), (md 2, .inl (G.2 0, 2832, .inl pa)), (md 3, .inl (G.2 3, 60, .inl tb)), (md 4, .inl (G.2 0, 36, .inl qu)), (md 5, .inl (G.2 2, 288, .inr (.inr (.inl kn)))), (md 6, .inl (G.2 1, 288, .inl (fun jj => bI (ik jj)))), (md 7, .inl (G.2 1, 288, .inl (fun jj => bI (im jj))))]) := hD
          have hP9 : va_P G.1 vwCl (mcells G md a pa np tb ty (cond iw aw (skP c9 ty q aw)) (cond iw true (!skp c9 ty q aw)) qu up lo su kn ik im fo) H := by unfold skP; rw [c_1, hsk]; exact hP
          exact W.vret hx hb hr (fun t ht hW => ⟨⟨(), rfl, trivial, bM_end ht hP9⟩, hS.F ht⟩) hS.2.2 dX7_pass_61
