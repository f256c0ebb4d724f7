set_option maxHeartbeats 4000000 in
set_option maxRecDepth 100000 in
/-- Model.edit -/
theorem metX7_edit (l : Launch) (G : GG) (md : Nat → Nat) (a pa : Nat → Int32) (np : Nat) (tb : Nat → Int32) (ty aw : Nat) (iw : Bool) (qu : Nat → Int32) (up lo : UInt32) (su : Nat) (kn : Nat → UInt32) (ik im : Nat → Bool) (fo : UInt32) (hn : np ≤ 8) : Met l yX7_edit wsX7_edit ({ frames := 0, cells := 0, slots := 0, locals := 0 }) (pM G (mcells G md a pa np tb ty aw iw qu up lo su kn ik im fo) [.ref (md 0)]) (va_Qv (fun (_ : Unit) => True) (bM G (fun _ : Unit => mcells G md a (edP pa a np) (kp8 np) tb ty aw iw qu up lo su kn ik im fo)) (adr (mcells G md a pa np tb ty aw iw qu up lo su kn ik im fo))) 0 0 (adr (mcells G md a pa np tb ty aw iw qu up lo su kn ik im fo)) := by
  refine Met.ofW (cc := cX7_edit) (maxL := 2) (ret := none) (by decide) rfl ?_
  intro p e s m args below meth c s₁ B hml hv
  obtain ⟨rfl, hK, hP, hD0⟩ := hv
  have hx := B.exec
  have hb := B.bytes
  have hr := B.returns
  have hlocks := B.notSynchronized
  have hts := atoms_spec (ws := wsX7_edit) B.pre
  have hown : s.vm.findClass RX7 = some m.cls := findClass_of_methodNamed B.named
  have hD := hD0.own
  generalize hAe : adr (mcells G md a pa np tb ty aw iw qu up lo su kn ik im fo) = A at hD ⊢
  have hS : va_S A s.heap s.heap [] := va_S.rf
  have hl := lv_entry ([.ref (md 0)]) (n := 2) (Nat.le_of_ble_eq_true rfl)
  rw [lg_entry_eq]
  generalize (lg_sl ([.ref (md 0)]) ++ List.replicate (2 - (lg_sl ([.ref (md 0)])).length) Slot.unset).toArray = ls at hl ⊢
  have hl : lv_has ls 2 [(0, .ref (md 0))] := hl
  have hP : va_P G.1 vwCl ([(md 0, .inr (6, [.ref (md 1), .ref (md 2), .int (nI np), .ref (md 3), .int (nI ty), .int (nI aw), .int (bI iw), .ref (md 4), .float up, .float lo, .int (nI su), .ref (md 5), .ref (md 6), .ref (md 7), .float fo])), (md 1, .inl (G.2 0, 354, .inl a)), (md 2, .inl (G.2 0, 2832, .inl pa)), (md 3, .inl (G.2 3, 60, .inl tb)), (md 4, .inl (G.2 0, 36, .inl qu)), (md 5, .inl (G.2 2, 288, .inr (.inr (.inl kn)))), (md 6, .inl (G.2 1, 288, .inl (fun jj => bI (ik jj)))), (md 7, .inl (G.2 1, 288, .inl (fun jj => bI (im jj))))]) s.heap := hP
  have hD : va_D A ([(md 0, .inr (6, [.ref (md 1), .ref (md 2), .int (nI np), .ref (md 3), .int (nI ty), .int (nI aw), .int (bI iw), .ref (md 4), .float up, .float lo, .int (nI su), .ref (md 5), .ref (md 6), .ref (md 7), .float fo])), (md 1, .inl (G.2 0, 354, .inl a)), (md 2, .inl (G.2 0, 2832, .inl pa)), (md 3, .inl (G.2 3, 60, .inl tb)), (md 4, .inl (G.2 0, 36, .inl qu)), (md 5, .inl (G.2 2, 288, .inr (.inr (.inl kn)))), (md 6, .inl (G.2 1, 288, .inl (fun jj => bI (ik jj)))), (md 7, .inl (G.2 1, 288, .inl (fun jj => bI (im jj))))]) := hD
  refine lv_aload_n hx hb dX7_edit_0 rfl (lv_at hl 0 rfl) ?_
  refine va_get (D := G.1) (ci := 6) (v := .int (nI np)) (C := RX7) (T := TX7) (N := 15) hx hb hts (by decide +kernel) hown hK.1 hP 0 rfl rfl 2 (by decide) (hts (.fieldLink RX7 34 "PriceIndexCalculatorModel" "pasts" "I") (by decide +kernel)) (fun _ h9 => h9) rfl dX7_edit_1 ?_
  refine lv_bipush (v := nI 8) hx hb dX7_edit_4 (by decide) ?_
  refine n_icmp_ne (x := np) (y := 8) (tgt := 50) hx hb (by omega) (by omega) dX7_edit_6 (by decide) (fun c_1 => ?_) (fun c_1 => ?_)
  · refine lv_iconst (v := nI 0) hx hb dX7_edit_50 (by decide) ?_
    refine lv_istore_n (lv' := [(1, .int (nI 0)), (0, .ref (md 0))]) hx hb dX7_edit_51 rfl hl (by decide) rfl (fun ls hl => ?_)
    refine lpM (S := (Nat → Int32)) (354) (fun i u H locs => (∀ j, u j = if 354 * np ≤ j ∧ j < 354 * np + i then a (j - 354 * np) else pa j) ∧ va_P G.1 vwCl ([(md 0, .inr (6, [.ref (md 1), .ref (md 2), .int (nI np), .ref (md 3), .int (nI ty), .int (nI aw), .int (bI iw), .ref (md 4), .float up, .float lo, .int (nI su), .ref (md 5), .ref (md 6), .ref (md 7), .float fo])), (md 1, .inl (G.2 0, 354, .inl a)), (md 2, .inl (G.2 0, 2832, .inl u)), (md 3, .inl (G.2 3, 60, .inl tb)), (md 4, .inl (G.2 0, 36, .inl qu)), (md 5, .inl (G.2 2, 288, .inr (.inr (.inl kn)))), (md 6, .inl (G.2 1, 288, .inl (fun jj => bI (ik jj)))), (md 7, .inl (G.2 1, 288, .inl (fun jj => bI (im jj))))]) H ∧ va_D A ([(md 0, .inr (6, [.ref (md 1), .ref (md 2), .int (nI np), .ref (md 3), .int (nI ty), .int (nI aw), .int (bI iw), .ref (md 4), .float up, .float lo, .int (nI su), .ref (md 5), .ref (md 6), .ref (md 7), .float fo])), (md 1, .inl (G.2 0, 354, .inl a)), (md 2, .inl (G.2 0, 2832, .inl u)), (md 3, .inl (G.2 3, 60, .inl tb)), (md 4, .inl (G.2 0, 36, .inl qu)), (md 5, .inl (G.2 2, 288, .inr (.inr (.inl kn)))), (md 6, .inl (G.2 1, 288, .inl (fun jj => bI (ik jj)))), (md 7, .inl (G.2 1, 288, .inl (fun jj => bI (im jj))))]) ∧ va_S A s.heap H locs) (fun i u => [(0, .ref (md 0)), (1, .int (nI i))]) (fun u H locs ls hI0 hl => ?_) (fun i u H locs ls hi_4 hI0 hl ih_2 => ?_) (0) pa (by omega) ⟨(fun j => by rw [if_neg (by omega)]), hP, hD, hS⟩ (lv_sub hl [1, 0] rfl)
    · obtain ⟨q2, rfl⟩ : ∃ z, z = u := ⟨_, rfl⟩
      obtain ⟨hI_3, hP, hD, hS⟩ := hI0
      try dsimp only at hI_3
      have hl : lv_has ls 2 [(0, .ref (md 0)), (1, .int (nI 354))] := hl
      have hP : va_P G.1 vwCl ([(md 0, .inr (6, [.ref (md 1), .ref (md 2), .int (nI np), .ref (md 3), .int (nI ty), .int (nI aw), .int (bI iw), .ref (md 4), .float up, .float lo, .int (nI su), .ref (md 5), .ref (md 6), .ref (md 7), .float fo])), (md 1, .inl (G.2 0, 354, .inl a)), (md 2, .inl (G.2 0, 2832, .inl q2)), (md 3, .inl (G.2 3, 60, .inl tb)), (md 4, .inl (G.2 0, 36, .inl qu)), (md 5, .inl (G.2 2, 288, .inr (.inr (.inl kn)))), (md 6, .inl (G.2 1, 288, .inl (fun jj => bI (ik jj)))), (md 7, .inl (G.2 1, 288, .inl (fun jj => bI (im jj))))]) H := hP
      have hD : va_D A ([(md 0, .inr (6, [.ref (md 1), .ref (md 2), .int (nI np), .ref (md 3), .int (nI ty), .int (nI aw), .int (bI iw), .ref (md 4), .float up, .float lo, .int (nI su), .ref (md 5), .ref (md 6), .ref (md 7), .float fo])), (md 1, .inl (G.2 0, 354, .inl a)), (md 2, .inl (G.2 0, 2832, .inl q2)), (md 3, .inl (G.2 3, 60, .inl tb)), (md 4, .inl (G.2 0, 36, .inl qu)), (md 5, .inl (G.2 2, 288, .inr (.inr (.inl kn)))), (md 6, .inl (G.2 1, 288, .inl (fun jj => bI (ik jj)))), (md 7, .inl (G.2 1, 288, .inl (fun jj => bI (im jj))))]) := hD
      refine lv_iload_n hx hb dX7_edit_52 rfl (lv_at hl 1 rfl) ?_
      refine lv_sipush (v := nI 354) hx hb dX7_edit_53 (by decide) ?_
      refine n_icmp_ge (x := 354) (y := 354) (tgt := 86) hx hb (by omega) (by omega) dX7_edit_56 (by decide) (fun c_5 => ?_) (fun c_5 => ?_)
      · refine lv_aload_n hx hb dX7_edit_86 rfl (lv_at hl 0 rfl) ?_
        refine lv_dup hx hb dX7_edit_87 rfl ?_
        refine va_get (D := G.1) (ci := 6) (v := .int (nI np)) (C := RX7) (T := TX7) (N := 15) hx hb hts (by decide +kernel) hown hK.1 hP 0 rfl rfl 2 (by decide) (hts (.fieldLink RX7 34 "PriceIndexCalculatorModel" "pasts" "I") (by decide +kernel)) (fun _ h9 => h9) rfl dX7_edit_88 ?_
        refine lv_iconst (v := nI 1) hx hb dX7_edit_91 (by decide) ?_
        refine n_add hx hb dX7_edit_92 ?_
        refine va_put (D := G.1) (ci := 6) (v := .int (nI (np + 1))) (ty := .int) (C := RX7) (T := TX7) (N := 15) hx hb hts (by decide +kernel) tyX7 tyX7_ok nmX7 hown hK.1 hP hD hS 0 rfl rfl 2 (by decide) (hts (.fieldLink RX7 34 "PriceIndexCalculatorModel" "pasts" "I") (by decide +kernel)) (fun _ h9 => h9) rfl (by decide +kernel) rfl rfl (Nat.le_of_ble_eq_true rfl) dX7_edit_93 (fun H locs hP hD hS => ?_)
        have hP : va_P G.1 vwCl ([(md 0, .inr (6, [.ref (md 1), .ref (md 2), .int (nI (np + 1)), .ref (md 3), .int (nI ty), .int (nI aw), .int (bI iw), .ref (md 4), .float up, .float lo, .int (nI su), .ref (md 5), .ref (md 6), .ref (md 7), .float fo])), (md 1, .inl (G.2 0, 354, .inl a)), (md 2, .inl (G.2 0, 2832, .inl q2)), (md 3, .inl (G.2 3, 60, .inl tb)), (md 4, .inl (G.2 0, 36, .inl qu)), (md 5, .inl (G.2 2, 288, .inr (.inr (.inl kn)))), (md 6, .inl (G.2 1, 288, .inl (fun jj => bI (ik jj)))), (md 7, .inl (G.2 1, 288, .inl (fun jj => bI (im jj))))]) H := hP
        have hD : va_D A ([(md 0, .inr (6, [.ref (md 1), .ref (md 2), .int (nI (np + 1)), .ref (md 3), .int (nI ty), .int (nI aw), .int (bI iw), .ref (md 4), .float up, .float lo, .int (nI su), .ref (md 5), .ref (md 6), .ref (md 7), .float fo])), (md 1, .inl (G.2 0, 354, .inl a)), (md 2, .inl (G.2 0, 2832, .inl q2)), (md 3, .inl (G.2 3, 60, .inl tb)), (md 4, .inl (G.2 0, 36, .inl qu)), (md 5, .inl (G.2 2, 288, .inr (.inr (.inl kn)))), (md 6, .inl (G.2 1, 288, .inl (fun jj => bI (ik jj)))), (md 7, .inl (G.2 1, 288, .inl (fun jj => bI (im jj))))]) := hD
        have ek : kp8 np = np + 1 := by unfold kp8; split <;> omega
        have ee : edP pa a np = q2 := edP_n c_1 hI_3
        have hP9 : va_P G.1 vwCl (mcells G md a (edP pa a np) (kp8 np) tb ty aw iw qu up lo su kn ik im fo) H := by rw [ee, ek]; exact hP
        exact W.vret hx hb hr (fun t ht hW => ⟨⟨(), rfl, trivial, bM_end ht hP9⟩, hS.F ht⟩) hS.2.2 dX7_edit_96
      · exact absurd c_5 (by omega)
    · obtain ⟨q2, rfl⟩ : ∃ z, z = u := ⟨_, rfl⟩
      obtain ⟨hI_3, hP, hD, hS⟩ := hI0
      try dsimp only at hI_3
      have hl : lv_has ls 2 [(0, .ref (md 0)), (1, .int (nI i))] := hl
      have hP : va_P G.1 vwCl ([(md 0, .inr (6, [.ref (md 1), .ref (md 2), .int (nI np), .ref (md 3), .int (nI ty), .int (nI aw), .int (bI iw), .ref (md 4), .float up, .float lo, .int (nI su), .ref (md 5), .ref (md 6), .ref (md 7), .float fo])), (md 1, .inl (G.2 0, 354, .inl a)), (md 2, .inl (G.2 0, 2832, .inl q2)), (md 3, .inl (G.2 3, 60, .inl tb)), (md 4, .inl (G.2 0, 36, .inl qu)), (md 5, .inl (G.2 2, 288, .inr (.inr (.inl kn)))), (md 6, .inl (G.2 1, 288, .inl (fun jj => bI (ik jj)))), (md 7, .inl (G.2 1, 288, .inl (fun jj => bI (im jj))))]) H := hP
      have hD : va_D A ([(md 0, .inr (6, [.ref (md 1), .ref (md 2), .int (nI np), .ref (md 3), .int (nI ty), .int (nI aw), .int (bI iw), .ref (md 4), .float up, .float lo, .int (nI su), .ref (md 5), .ref (md 6), .ref (md 7), .float fo])), (md 1, .inl (G.2 0, 354, .inl a)), (md 2, .inl (G.2 0, 2832, .inl q2)), (md 3, .inl (G.2 3, 60, .inl tb)), (md 4, .inl (G.2 0, 36, .inl qu)), (md 5, .inl (G.2 2, 288, .inr (.inr (.inl kn)))), (md 6, .inl (G.2 1, 288, .inl (fun jj => bI (ik jj)))), (md 7, .inl (G.2 1, 288, .inl (fun jj => bI (im jj))))]) := hD
      refine lv_iload_n hx hb dX7_edit_52 rfl (lv_at hl 1 rfl) ?_
      refine lv_sipush (v := nI 354) hx hb dX7_edit_53 (by decide) ?_
      refine n_icmp_ge (x := i) (y := 354) (tgt := 86) hx hb (by omega) (by omega) dX7_edit_56 (by decide) (fun c_6 => ?_) (fun c_6 => ?_)
      · exact absurd c_6 (by omega)
      · refine lv_aload_n hx hb dX7_edit_59 rfl (lv_at hl 0 rfl) ?_
        refine va_get (D := G.1) (ci := 6) (v := .ref (md 2)) (C := RX7) (T := TX7) (N := 15) hx hb hts (by decide +kernel) hown hK.1 hP 0 rfl rfl 1 (by decide) (hts (.fieldLink RX7 13 "PriceIndexCalculatorModel" "past" "[I") (by decide +kernel)) (fun _ h9 => h9) rfl dX7_edit_60 ?_
        refine lv_sipush (v := nI 354) hx hb dX7_edit_63 (by decide) ?_
        refine lv_aload_n hx hb dX7_edit_66 rfl (lv_at hl 0 rfl) ?_
        refine va_get (D := G.1) (ci := 6) (v := .int (nI np)) (C := RX7) (T := TX7) (N := 15) hx hb hts (by decide +kernel) hown hK.1 hP 0 rfl rfl 2 (by decide) (hts (.fieldLink RX7 34 "PriceIndexCalculatorModel" "pasts" "I") (by decide +kernel)) (fun _ h9 => h9) rfl dX7_edit_67 ?_
        refine n_mul hx hb dX7_edit_70 ?_
        refine lv_iload_n hx hb dX7_edit_71 rfl (lv_at hl 1 rfl) ?_
        refine n_add hx hb dX7_edit_72 ?_
        refine lv_aload_n hx hb dX7_edit_73 rfl (lv_at hl 0 rfl) ?_
        refine va_get (D := G.1) (ci := 6) (v := .ref (md 1)) (C := RX7) (T := TX7) (N := 15) hx hb hts (by decide +kernel) hown hK.1 hP 0 rfl rfl 0 (by decide) (hts (.fieldLink RX7 7 "PriceIndexCalculatorModel" "s" "[I") (by decide +kernel)) (fun _ h9 => h9) rfl dX7_edit_74 ?_
        refine lv_iload_n hx hb dX7_edit_77 rfl (lv_at hl 1 rfl) ?_
        refine n_iald hx hb hK.1 hP 1 0 rfl rfl (j := i) (by omega) (by omega) dX7_edit_78 ?_
        refine n_iast hx hb hK.1 hP hD hS 2 0 rfl rfl (j := (354 * np) + i) (by omega) (by omega) dX7_edit_79 (fun H locs hP hD hS => ?_)
        have hP : va_P G.1 vwCl ([(md 0, .inr (6, [.ref (md 1), .ref (md 2), .int (nI np), .ref (md 3), .int (nI ty), .int (nI aw), .int (bI iw), .ref (md 4), .float up, .float lo, .int (nI su), .ref (md 5), .ref (md 6), .ref (md 7), .float fo])), (md 1, .inl (G.2 0, 354, .inl a)), (md 2, .inl (G.2 0, 2832, .inl (upd q2 ((354 * np) + i) (a i)))), (md 3, .inl (G.2 3, 60, .inl tb)), (md 4, .inl (G.2 0, 36, .inl qu)), (md 5, .inl (G.2 2, 288, .inr (.inr (.inl kn)))), (md 6, .inl (G.2 1, 288, .inl (fun jj => bI (ik jj)))), (md 7, .inl (G.2 1, 288, .inl (fun jj => bI (im jj))))]) H := hP
        have hD : va_D A ([(md 0, .inr (6, [.ref (md 1), .ref (md 2), .int (nI np), .ref (md 3), .int (nI ty), .int (nI aw), .int (bI iw), .ref (md 4), .float up, .float lo, .int (nI su), .ref (md 5), .ref (md 6), .ref (md 7), .float fo])), (md 1, .inl (G.2 0, 354, .inl a)), (md 2, .inl (G.2 0, 2832, .inl (upd q2 ((354 * np) + i) (a i)))), (md 3, .inl (G.2 3, 60, .inl tb)), (md 4, .inl (G.2 0, 36, .inl qu)), (md 5, .inl (G.2 2, 288, .inr (.inr (.inl kn)))), (md 6, .inl (G.2 1, 288, .inl (fun jj => bI (ik jj)))), (md 7, .inl (G.2 1, 288, .inl (fun jj => bI (im jj))))]) := hD
        refine lv_iinc (v := nI (i + 1)) (lv' := [(1, .int (nI (i + 1))), (0, .ref (md 0))]) hx hb dX7_edit_80 hl (k := 1) rfl (by exact nI_add _ _) (by decide) rfl (fun ls hl => ?_)
        refine lv_goto (tgt := 52) hx hb dX7_edit_83 (by decide) ?_
        exact ih_2 (upd q2 ((354 * np) + i) (a i)) _ _ _ ⟨pu_step hI_3, hP, hD, hS⟩ (lv_sub hl [1, 0] rfl)
  · refine lv_iconst (v := nI 0) hx hb dX7_edit_9 (by decide) ?_
    refine lv_istore_n (lv' := [(1, .int (nI 0)), (0, .ref (md 0))]) hx hb dX7_edit_10 rfl hl (by decide) rfl (fun ls hl => ?_)
    refine lpM (S := (Nat → Int32)) (2478) (fun i u H locs => (∀ j, u j = if j < i then pa (j + 354) else pa j) ∧ va_P G.1 vwCl ([(md 0, .inr (6, [.ref (md 1), .ref (md 2), .int (nI np), .ref (md 3), .int (nI ty), .int (nI aw), .int (bI iw), .ref (md 4), .float up, .float lo, .int (nI su), .ref (md 5), .ref (md 6), .ref (md 7), .float fo])), (md 1, .inl (G.2 0, 354, .inl a)), (md 2, .inl (G.2 0, 2832, .inl u)), (md 3, .inl (G.2 3, 60, .inl tb)), (md 4, .inl (G.2 0, 36, .inl qu)), (md 5, .inl (G.2 2, 288, .inr (.inr (.inl kn)))), (md 6, .inl (G.2 1, 288, .inl (fun jj => bI (ik jj)))), (md 7, .inl (G.2 1, 288, .inl (fun jj => bI (im jj))))]) H ∧ va_D A ([(md 0, .inr (6, [.ref (md 1), .ref (md 2), .int (nI np), .ref (md 3), .int (nI ty), .int (nI aw), .int (bI iw), .ref (md 4), .float up, .float lo, .int (nI su), .ref (md 5), .ref (md 6), .ref (md 7), .float fo])), (md 1, .inl (G.2 0, 354, .inl a)), (md 2, .inl (G.2 0, 2832, .inl u)), (md 3, .inl (G.2 3, 60, .inl tb)), (md 4, .inl (G.2 0, 36, .inl qu)), (md 5, .inl (G.2 2, 288, .inr (.inr (.inl kn)))), (md 6, .inl (G.2 1, 288, .inl (fun jj => bI (ik jj)))), (md 7, .inl (G.2 1, 288, .inl (fun jj => bI (im jj))))]) ∧ va_S A s.heap H locs) (fun i u => [(0, .ref (md 0)), (1, .int (nI i))]) (fun u H locs ls hI0 hl => ?_) (fun i u H locs ls hi_9 hI0 hl ih_7 => ?_) (0) pa (by omega) ⟨(fun j => by rw [if_neg (Nat.not_lt_zero j)]), hP, hD, hS⟩ (lv_sub hl [1, 0] rfl)
    · obtain ⟨q1, rfl⟩ : ∃ z, z = u := ⟨_, rfl⟩
      obtain ⟨hI_8, hP, hD, hS⟩ := hI0
      try dsimp only at hI_8
      have hl : lv_has ls 2 [(0, .ref (md 0)), (1, .int (nI 2478))] := hl
      have hP : va_P G.1 vwCl ([(md 0, .inr (6, [.ref (md 1), .ref (md 2), .int (nI np), .ref (md 3), .int (nI ty), .int (nI aw), .int (bI iw), .ref (md 4), .float up, .float lo, .int (nI su), .ref (md 5), .ref (md 6), .ref (md 7), .float fo])), (md 1, .inl (G.2 0, 354, .inl a)), (md 2, .inl (G.2 0, 2832, .inl q1)), (md 3, .inl (G.2 3, 60, .inl tb)), (md 4, .inl (G.2 0, 36, .inl qu)), (md 5, .inl (G.2 2, 288, .inr (.inr (.inl kn)))), (md 6, .inl (G.2 1, 288, .inl (fun jj => bI (ik jj)))), (md 7, .inl (G.2 1, 288, .inl (fun jj => bI (im jj))))]) H := hP
      have hD : va_D A ([(md 0, .inr (6, [.ref (md 1), .ref (md 2), .int (nI np), .ref (md 3), .int (nI ty), .int (nI aw), .int (bI iw), .ref (md 4), .float up, .float lo, .int (nI su), .ref (md 5), .ref (md 6), .ref (md 7), .float fo])), (md 1, .inl (G.2 0, 354, .inl a)), (md 2, .inl (G.2 0, 2832, .inl q1)), (md 3, .inl (G.2 3, 60, .inl tb)), (md 4, .inl (G.2 0, 36, .inl qu)), (md 5, .inl (G.2 2, 288, .inr (.inr (.inl kn)))), (md 6, .inl (G.2 1, 288, .inl (fun jj => bI (ik jj)))), (md 7, .inl (G.2 1, 288, .inl (fun jj => bI (im jj))))]) := hD
      refine lv_iload_n hx hb dX7_edit_11 rfl (lv_at hl 1 rfl) ?_
      refine lv_sipush (v := nI 2478) hx hb dX7_edit_12 (by decide) ?_
      refine n_icmp_ge (x := 2478) (y := 2478) (tgt := 40) hx hb (by omega) (by omega) dX7_edit_15 (by decide) (fun c_10 => ?_) (fun c_10 => ?_)
      · refine lv_aload_n hx hb dX7_edit_40 rfl (lv_at hl 0 rfl) ?_
        refine lv_dup hx hb dX7_edit_41 rfl ?_
        refine va_get (D := G.1) (ci := 6) (v := .int (nI np)) (C := RX7) (T := TX7) (N := 15) hx hb hts (by decide +kernel) hown hK.1 hP 0 rfl rfl 2 (by decide) (hts (.fieldLink RX7 34 "PriceIndexCalculatorModel" "pasts" "I") (by decide +kernel)) (fun _ h9 => h9) rfl dX7_edit_42 ?_
        refine lv_iconst (v := nI 1) hx hb dX7_edit_45 (by decide) ?_
        refine n_sub hx hb (by omega) dX7_edit_46 ?_
        refine va_put (D := G.1) (ci := 6) (v := .int (nI (np - 1))) (ty := .int) (C := RX7) (T := TX7) (N := 15) hx hb hts (by decide +kernel) tyX7 tyX7_ok nmX7 hown hK.1 hP hD hS 0 rfl rfl 2 (by decide) (hts (.fieldLink RX7 34 "PriceIndexCalculatorModel" "pasts" "I") (by decide +kernel)) (fun _ h9 => h9) rfl (by decide +kernel) rfl rfl (Nat.le_of_ble_eq_true rfl) dX7_edit_47 (fun H locs hP hD hS => ?_)
        have hP : va_P G.1 vwCl ([(md 0, .inr (6, [.ref (md 1), .ref (md 2), .int (nI (np - 1)), .ref (md 3), .int (nI ty), .int (nI aw), .int (bI iw), .ref (md 4), .float up, .float lo, .int (nI su), .ref (md 5), .ref (md 6), .ref (md 7), .float fo])), (md 1, .inl (G.2 0, 354, .inl a)), (md 2, .inl (G.2 0, 2832, .inl q1)), (md 3, .inl (G.2 3, 60, .inl tb)), (md 4, .inl (G.2 0, 36, .inl qu)), (md 5, .inl (G.2 2, 288, .inr (.inr (.inl kn)))), (md 6, .inl (G.2 1, 288, .inl (fun jj => bI (ik jj)))), (md 7, .inl (G.2 1, 288, .inl (fun jj => bI (im jj))))]) H := hP
        have hD : va_D A ([(md 0, .inr (6, [.ref (md 1), .ref (md 2), .int (nI (np - 1)), .ref (md 3), .int (nI ty), .int (nI aw), .int (bI iw), .ref (md 4), .float up, .float lo, .int (nI su), .ref (md 5), .ref (md 6), .ref (md 7), .float fo])), (md 1, .inl (G.2 0, 354, .inl a)), (md 2, .inl (G.2 0, 2832, .inl q1)), (md 3, .inl (G.2 3, 60, .inl tb)), (md 4, .inl (G.2 0, 36, .inl qu)), (md 5, .inl (G.2 2, 288, .inr (.inr (.inl kn)))), (md 6, .inl (G.2 1, 288, .inl (fun jj => bI (ik jj)))), (md 7, .inl (G.2 1, 288, .inl (fun jj => bI (im jj))))]) := hD
        refine lv_iconst (v := nI 0) hx hb dX7_edit_50 (by decide) ?_
        refine lv_istore_n (lv' := [(1, .int (nI 0)), (0, .ref (md 0))]) hx hb dX7_edit_51 rfl hl (by decide) rfl (fun ls hl => ?_)
        refine lpM (S := (Nat → Int32)) (354) (fun i u H locs => (∀ j, u j = if 354 * (np - 1) ≤ j ∧ j < 354 * (np - 1) + i then a (j - 354 * (np - 1)) else q1 j) ∧ va_P G.1 vwCl ([(md 0, .inr (6, [.ref (md 1), .ref (md 2), .int (nI (np - 1)), .ref (md 3), .int (nI ty), .int (nI aw), .int (bI iw), .ref (md 4), .float up, .float lo, .int (nI su), .ref (md 5), .ref (md 6), .ref (md 7), .float fo])), (md 1, .inl (G.2 0, 354, .inl a)), (md 2, .inl (G.2 0, 2832, .inl u)), (md 3, .inl (G.2 3, 60, .inl tb)), (md 4, .inl (G.2 0, 36, .inl qu)), (md 5, .inl (G.2 2, 288, .inr (.inr (.inl kn)))), (md 6, .inl (G.2 1, 288, .inl (fun jj => bI (ik jj)))), (md 7, .inl (G.2 1, 288, .inl (fun jj => bI (im jj))))]) H ∧ va_D A ([(md 0, .inr (6, [.ref (md 1), .ref (md 2), .int (nI (np - 1)), .ref (md 3), .int (nI ty), .int (nI aw), .int (bI iw), .ref (md 4), .float up, .float lo, .int (nI su), .ref (md 5), .ref (md 6), .ref (md 7), .float fo])), (md 1, .inl (G.2 0, 354, .inl a)), (md 2, .inl (G.2 0, 2832, .inl u)), (md 3, .inl (G.2 3, 60, .inl tb)), (md 4, .inl (G.2 0, 36, .inl qu)), (md 5, .inl (G.2 2, 288, .inr (.inr (.inl kn)))), (md 6, .inl (G.2 1, 288, .inl (fun jj => bI (ik jj)))), (md 7, .inl (G.2 1, 288, .inl (fun jj => bI (im jj))))]) ∧ va_S A s.heap H locs) (fun i u => [(0, .ref (md 0)), (1, .int (nI i))]) (fun u H locs ls hI0 hl => ?_) (fun i u H locs ls hi_13 hI0 hl ih_11 => ?_) (0) q1 (by omega) ⟨(fun j => by rw [if_neg (by omega)]), hP, hD, hS⟩ (lv_sub hl [1, 0] rfl)
        · obtain ⟨q2, rfl⟩ : ∃ z, z = u := ⟨_, rfl⟩
          obtain ⟨hI_12, hP, hD, hS⟩ := hI0
          try dsimp only at hI_12
          have hl : lv_has ls 2 [(0, .ref (md 0)), (1, .int (nI 354))] := hl
          have hP : va_P G.1 vwCl ([(md 0, .inr (6, [.ref (md 1), .ref (md 2), .int (nI (np - 1)), .ref (md 3), .int (nI ty), .int (nI aw), .int (bI iw), .ref (md 4), .float up, .float lo, .int (nI su), .ref (md 5), .ref (md 6), .ref (md 7), .float fo])), (md 1, .inl (G.2 0, 354, .inl a)), (md 2, .inl (G.2 0, 2832, .inl q2)), (md 3, .inl (G.2 3, 60, .inl tb)), (md 4, .inl (G.2 0, 36, .inl qu)), (md 5, .inl (G.2 2, 288, .inr (.inr (.inl kn)))), (md 6, .inl (G.2 1, 288, .inl (fun jj => bI (ik jj)))), (md 7, .inl (G.2 1, 288, .inl (fun jj => bI (im jj))))]) H := hP
          have hD : va_D A ([(md 0, .inr (6, [.ref (md 1), .ref (md 2), .int (nI (np - 1)), .ref (md 3), .int (nI ty), .int (nI aw), .int (bI iw), .ref (md 4), .float up, .float lo, .int (nI su), .ref (md 5), .ref (md 6), .ref (md 7), .float fo])), (md 1, .inl (G.2 0, 354, .inl a)), (md 2, .inl (G.2 0, 2832, .inl q2)), (md 3, .inl (G.2 3, 60, .inl tb)), (md 4, .inl (G.2 0, 36, .inl qu)), (md 5, .inl (G.2 2, 288, .inr (.inr (.inl kn)))), (md 6, .inl (G.2 1, 288, .inl (fun jj => bI (ik jj)))), (md 7, .inl (G.2 1, 288, .inl (fun jj => bI (im jj))))]) := hD
          refine lv_iload_n hx hb dX7_edit_52 rfl (lv_at hl 1 rfl) ?_
          refine lv_sipush (v := nI 354) hx hb dX7_edit_53 (by decide) ?_
          refine n_icmp_ge (x := 354) (y := 354) (tgt := 86) hx hb (by omega) (by omega) dX7_edit_56 (by decide) (fun c_14 => ?_) (fun c_14 => ?_)
          · refine lv_aload_n hx hb dX7_edit_86 rfl (lv_at hl 0 rfl) ?_
            refine lv_dup hx hb dX7_edit_87 rfl ?_
            refine va_get (D := G.1) (ci := 6) (v := .int (nI (np - 1))) (C := RX7) (T := TX7) (N := 15) hx hb hts (by decide +kernel) hown hK.1 hP 0 rfl rfl 2 (by decide) (hts (.fieldLink RX7 34 "PriceIndexCalculatorModel" "pasts" "I") (by decide +kernel)) (fun _ h9 => h9) rfl dX7_edit_88 ?_
            refine lv_iconst (v := nI 1) hx hb dX7_edit_91 (by decide) ?_
            refine n_add hx hb dX7_edit_92 ?_
            refine va_put (D := G.1) (ci := 6) (v := .int (nI ((np - 1) + 1))) (ty := .int) (C := RX7) (T := TX7) (N := 15) hx hb hts (by decide +kernel) tyX7 tyX7_ok nmX7 hown hK.1 hP hD hS 0 rfl rfl 2 (by decide) (hts (.fieldLink RX7 34 "PriceIndexCalculatorModel" "pasts" "I") (by decide +kernel)) (fun _ h9 => h9) rfl (by decide +kernel) rfl rfl (Nat.le_of_ble_eq_true rfl) dX7_edit_93 (fun H locs hP hD hS => ?_)
            have hP : va_P G.1 vwCl ([(md 0, .inr (6, [.ref (md 1), .ref (md 2), .int (nI ((np - 1) + 1)), .ref (md 3), .int (nI ty), .int (nI aw), .int (bI iw), .ref (md 4), .float up, .float lo, .int (nI su), .ref (md 5), .ref (md 6), .ref (md 7), .float fo])), (md 1, .inl (G.2 0, 354, .inl a)), (md 2, .inl (G.2 0, 2832, .inl q2)), (md 3, .inl (G.2 3, 60, .inl tb)), (md 4, .inl (G.2 0, 36, .inl qu)), (md 5, .inl (G.2 2, 288, .inr (.inr (.inl kn)))), (md 6, .inl (G.2 1, 288, .inl (fun jj => bI (ik jj)))), (md 7, .inl (G.2 1, 288, .inl (fun jj => bI (im jj))))]) H := hP
            have hD : va_D A ([(md 0, .inr (6, [.ref (md 1), .ref (md 2), .int (nI ((np - 1) + 1)), .ref (md 3), .int (nI ty), .int (nI aw), .int (bI iw), .ref (md 4), .float up, .float lo, .int (nI su), .ref (md 5), .ref (md 6), .ref (md 7), .float fo])), (md 1, .inl (G.2 0, 354, .inl a)), (md 2, .inl (G.2 0, 2832, .inl q2)), (md 3, .inl (G.2 3, 60, .inl tb)), (md 4, .inl (G.2 0, 36, .inl qu)), (md 5, .inl (G.2 2, 288, .inr (.inr (.inl kn)))), (md 6, .inl (G.2 1, 288, .inl (fun jj => bI (ik jj)))), (md 7, .inl (G.2 1, 288, .inl (fun jj => bI (im jj))))]) := hD
            have ek : kp8 np = (np - 1) + 1 := by unfold kp8; split <;> omega
            have ee : edP pa a np = q2 := edP_8 c_1 hI_8 hI_12
            have hP9 : va_P G.1 vwCl (mcells G md a (edP pa a np) (kp8 np) tb ty aw iw qu up lo su kn ik im fo) H := by rw [ee, ek]; exact hP
            exact W.vret hx hb hr (fun t ht hW => ⟨⟨(), rfl, trivial, bM_end ht hP9⟩, hS.F ht⟩) hS.2.2 dX7_edit_96
          · exact absurd c_14 (by omega)
        · obtain ⟨q2, rfl⟩ : ∃ z, z = u := ⟨_, rfl⟩
          obtain ⟨hI_12, hP, hD, hS⟩ := hI0
          try dsimp only at hI_12
          have hl : lv_has ls 2 [(0, .ref (md 0)), (1, .int (nI i))] := hl
          have hP : va_P G.1 vwCl ([(md 0, .inr (6, [.ref (md 1), .ref (md 2), .int (nI (np - 1)), .ref (md 3), .int (nI ty), .int (nI aw), .int (bI iw), .ref (md 4), .float up, .float lo, .int (nI su), .ref (md 5), .ref (md 6), .ref (md 7), .float fo])), (md 1, .inl (G.2 0, 354, .inl a)), (md 2, .inl (G.2 0, 2832, .inl q2)), (md 3, .inl (G.2 3, 60, .inl tb)), (md 4, .inl (G.2 0, 36, .inl qu)), (md 5, .inl (G.2 2, 288, .inr (.inr (.inl kn)))), (md 6, .inl (G.2 1, 288, .inl (fun jj => bI (ik jj)))), (md 7, .inl (G.2 1, 288, .inl (fun jj => bI (im jj))))]) H := hP
          have hD : va_D A ([(md 0, .inr (6, [.ref (md 1), .ref (md 2), .int (nI (np - 1)), .ref (md 3), .int (nI ty), .int (nI aw), .int (bI iw), .ref (md 4), .float up, .float lo, .int (nI su), .ref (md 5), .ref (md 6), .ref (md 7), .float fo])), (md 1, .inl (G.2 0, 354, .inl a)), (md 2, .inl (G.2 0, 2832, .inl q2)), (md 3, .inl (G.2 3, 60, .inl tb)), (md 4, .inl (G.2 0, 36, .inl qu)), (md 5, .inl (G.2 2, 288, .inr (.inr (.inl kn)))), (md 6, .inl (G.2 1, 288, .inl (fun jj => bI (ik jj)))), (md 7, .inl (G.2 1, 288, .inl (fun jj => bI (im jj))))]) := hD
          refine lv_iload_n hx hb dX7_edit_52 rfl (lv_at hl 1 rfl) ?_
          refine lv_sipush (v := nI 354) hx hb dX7_edit_53 (by decide) ?_
          refine n_icmp_ge (x := i) (y := 354) (tgt := 86) hx hb (by omega) (by omega) dX7_edit_56 (by decide) (fun c_15 => ?_) (fun c_15 => ?_)
          · exact absurd c_15 (by omega)
          · refine lv_aload_n hx hb dX7_edit_59 rfl (lv_at hl 0 rfl) ?_
            refine va_get (D := G.1) (ci := 6) (v := .ref (md 2)) (C := RX7) (T := TX7) (N := 15) hx hb hts (by decide +kernel) hown hK.1 hP 0 rfl rfl 1 (by decide) (hts (.fieldLink RX7 13 "PriceIndexCalculatorModel" "past" "[I") (by decide +kernel)) (fun _ h9 => h9) rfl dX7_edit_60 ?_
            refine lv_sipush (v := nI 354) hx hb dX7_edit_63 (by decide) ?_
            refine lv_aload_n hx hb dX7_edit_66 rfl (lv_at hl 0 rfl) ?_
            refine va_get (D := G.1) (ci := 6) (v := .int (nI (np - 1))) (C := RX7) (T := TX7) (N := 15) hx hb hts (by decide +kernel) hown hK.1 hP 0 rfl rfl 2 (by decide) (hts (.fieldLink RX7 34 "PriceIndexCalculatorModel" "pasts" "I") (by decide +kernel)) (fun _ h9 => h9) rfl dX7_edit_67 ?_
            refine n_mul hx hb dX7_edit_70 ?_
            refine lv_iload_n hx hb dX7_edit_71 rfl (lv_at hl 1 rfl) ?_
            refine n_add hx hb dX7_edit_72 ?_
            refine lv_aload_n hx hb dX7_edit_73 rfl (lv_at hl 0 rfl) ?_
            refine va_get (D := G.1) (ci := 6) (v := .ref (md 1)) (C := RX7) (T := TX7) (N := 15) hx hb hts (by decide +kernel) hown hK.1 hP 0 rfl rfl 0 (by decide) (hts (.fieldLink RX7 7 "PriceIndexCalculatorModel" "s" "[I") (by decide +kernel)) (fun _ h9 => h9) rfl dX7_edit_74 ?_
            refine lv_iload_n hx hb dX7_edit_77 rfl (lv_at hl 1 rfl) ?_
            refine n_iald hx hb hK.1 hP 1 0 rfl rfl (j := i) (by omega) (by omega) dX7_edit_78 ?_
            refine n_iast hx hb hK.1 hP hD hS 2 0 rfl rfl (j := (354 * (np - 1)) + i) (by omega) (by omega) dX7_edit_79 (fun H locs hP hD hS => ?_)
            have hP : va_P G.1 vwCl ([(md 0, .inr (6, [.ref (md 1), .ref (md 2), .int (nI (np - 1)), .ref (md 3), .int (nI ty), .int (nI aw), .int (bI iw), .ref (md 4), .float up, .float lo, .int (nI su), .ref (md 5), .ref (md 6), .ref (md 7), .float fo])), (md 1, .inl (G.2 0, 354, .inl a)), (md 2, .inl (G.2 0, 2832, .inl (upd q2 ((354 * (np - 1)) + i) (a i)))), (md 3, .inl (G.2 3, 60, .inl tb)), (md 4, .inl (G.2 0, 36, .inl qu)), (md 5, .inl (G.2 2, 288, .inr (.inr (.inl kn)))), (md 6, .inl (G.2 1, 288, .inl (fun jj => bI (ik jj)))), (md 7, .inl (G.2 1, 288, .inl (fun jj => bI (im jj))))]) H := hP
            have hD : va_D A ([(md 0, .inr (6, [.ref (md 1), .ref (md 2), .int (nI (np - 1)), .ref (md 3), .int (nI ty), .int (nI aw), .int (bI iw), .ref (md 4), .float up, .float lo, .int (nI su), .ref (md 5), .ref (md 6), .ref (md 7), .float fo])), (md 1, .inl (G.2 0, 354, .inl a)), (md 2, .inl (G.2 0, 2832, .inl (upd q2 ((354 * (np - 1)) + i) (a i)))), (md 3, .inl (G.2 3, 60, .inl tb)), (md 4, .inl (G.2 0, 36, .inl qu)), (md 5, .inl (G.2 2, 288, .inr (.inr (.inl kn)))), (md 6, .inl (G.2 1, 288, .inl (fun jj => bI (ik jj)))), (md 7, .inl (G.2 1, 288, .inl (fun jj => bI (im jj))))]) := hD
            refine lv_iinc (v := nI (i + 1)) (lv' := [(1, .int (nI (i + 1))), (0, .ref (md 0))]) hx hb dX7_edit_80 hl (k := 1) rfl (by exact nI_add _ _) (by decide) rfl (fun ls hl => ?_)
            refine lv_goto (tgt := 52) hx hb dX7_edit_83 (by decide) ?_
            exact ih_11 (upd q2 ((354 * (np - 1)) + i) (a i)) _ _ _ ⟨pu_step hI_12, hP, hD, hS⟩ (lv_sub hl [1, 0] rfl)
      · exact absurd c_10 (by omega)
    · obtain ⟨q1, rfl⟩ : ∃ z, z = u := ⟨_, rfl⟩
      obtain ⟨hI_8, hP, hD, hS⟩ := hI0
      try dsimp only at hI_8
      have hl : lv_has ls 2 [(0, .ref (md 0)), (1, .int (nI i))] := hl
      have hP : va_P G.1 vwCl ([(md 0, .inr (6, [.ref (md 1), .ref (md 2), .int (nI np), .ref (md 3), .int (nI ty), .int (nI aw), .int (bI iw), .ref (md 4), .float up, .float lo, .int (nI su), .ref (md 5), .ref (md 6), .ref (md 7), .float fo])), (md 1, .inl (G.2 0, 354, .inl a)), (md 2, .inl (G.2 0, 2832, .inl q1)), (md 3, .inl (G.2 3, 60, .inl tb)), (md 4, .inl (G.2 0, 36, .inl qu)), (md 5, .inl (G.2 2, 288, .inr (.inr (.inl kn)))), (md 6, .inl (G.2 1, 288, .inl (fun jj => bI (ik jj)))), (md 7, .inl (G.2 1, 288, .inl (fun jj => bI (im jj))))]) H := hP
      have hD : va_D A ([(md 0, .inr (6, [.ref (md 1), .ref (md 2), .int (nI np), .ref (md 3), .int (nI ty), .int (nI aw), .int (bI iw), .ref (md 4), .float up, .float lo, .int (nI su), .ref (md 5), .ref (md 6), .ref (md 7), .float fo])), (md 1, .inl (G.2 0, 354, .inl a)), (md 2, .inl (G.2 0, 2832, .inl q1)), (md 3, .inl (G.2 3, 60, .inl tb)), (md 4, .inl (G.2 0, 36, .inl qu)), (md 5, .inl (G.2 2, 288, .inr (.inr (.inl kn)))), (md 6, .inl (G.2 1, 288, .inl (fun jj => bI (ik jj)))), (md 7, .inl (G.2 1, 288, .inl (fun jj => bI (im jj))))]) := hD
      refine lv_iload_n hx hb dX7_edit_11 rfl (lv_at hl 1 rfl) ?_
      refine lv_sipush (v := nI 2478) hx hb dX7_edit_12 (by decide) ?_
      refine n_icmp_ge (x := i) (y := 2478) (tgt := 40) hx hb (by omega) (by omega) dX7_edit_15 (by decide) (fun c_16 => ?_) (fun c_16 => ?_)
      · exact absurd c_16 (by omega)
      · refine lv_aload_n hx hb dX7_edit_18 rfl (lv_at hl 0 rfl) ?_
        refine va_get (D := G.1) (ci := 6) (v := .ref (md 2)) (C := RX7) (T := TX7) (N := 15) hx hb hts (by decide +kernel) hown hK.1 hP 0 rfl rfl 1 (by decide) (hts (.fieldLink RX7 13 "PriceIndexCalculatorModel" "past" "[I") (by decide +kernel)) (fun _ h9 => h9) rfl dX7_edit_19 ?_
        refine lv_iload_n hx hb dX7_edit_22 rfl (lv_at hl 1 rfl) ?_
        refine lv_aload_n hx hb dX7_edit_23 rfl (lv_at hl 0 rfl) ?_
        refine va_get (D := G.1) (ci := 6) (v := .ref (md 2)) (C := RX7) (T := TX7) (N := 15) hx hb hts (by decide +kernel) hown hK.1 hP 0 rfl rfl 1 (by decide) (hts (.fieldLink RX7 13 "PriceIndexCalculatorModel" "past" "[I") (by decide +kernel)) (fun _ h9 => h9) rfl dX7_edit_24 ?_
        refine lv_iload_n hx hb dX7_edit_27 rfl (lv_at hl 1 rfl) ?_
        refine lv_sipush (v := nI 354) hx hb dX7_edit_28 (by decide) ?_
        refine n_add hx hb dX7_edit_31 ?_
        refine n_iald hx hb hK.1 hP 2 0 rfl rfl (j := i + 354) (by omega) (by omega) dX7_edit_32 ?_
        refine n_iast hx hb hK.1 hP hD hS 2 0 rfl rfl (j := i) (by omega) (by omega) dX7_edit_33 (fun H locs hP hD hS => ?_)
        have hP : va_P G.1 vwCl ([(md 0, .inr (6, [.ref (md 1), .ref (md 2), .int (nI np), .ref (md 3), .int (nI ty), .int (nI aw), .int (bI iw), .ref (md 4), .float up, .float lo, .int (nI su), .ref (md 5), .ref (md 6), .ref (md 7), .float fo])), (md 1, .inl (G.2 0, 354, .inl a)), (md 2, .inl (G.2 0, 2832, .inl (upd q1 i (q1 (i + 354))))), (md 3, .inl (G.2 3, 60, .inl tb)), (md 4, .inl (G.2 0, 36, .inl qu)), (md 5, .inl (G.2 2, 288, .inr (.inr (.inl kn)))), (md 6, .inl (G.2 1, 288, .inl (fun jj => bI (ik jj)))), (md 7, .inl (G.2 1, 288, .inl (fun jj => bI (im jj))))]) H := hP
        have hD : va_D A ([(md 0, .inr (6, [.ref (md 1), .ref (md 2), .int (nI np), .ref (md 3), .int (nI ty), .int (nI aw), .int (bI iw), .ref (md 4), .float up, .float lo, .int (nI su), .ref (md 5), .ref (md 6), .ref (md 7), .float fo])), (md 1, .inl (G.2 0, 354, .inl a)), (md 2, .inl (G.2 0, 2832, .inl (upd q1 i (q1 (i + 354))))), (md 3, .inl (G.2 3, 60, .inl tb)), (md 4, .inl (G.2 0, 36, .inl qu)), (md 5, .inl (G.2 2, 288, .inr (.inr (.inl kn)))), (md 6, .inl (G.2 1, 288, .inl (fun jj => bI (ik jj)))), (md 7, .inl (G.2 1, 288, .inl (fun jj => bI (im jj))))]) := hD
        refine lv_iinc (v := nI (i + 1)) (lv' := [(1, .int (nI (i + 1))), (0, .ref (md 0))]) hx hb dX7_edit_34 hl (k := 1) rfl (by exact nI_add _ _) (by decide) rfl (fun ls hl => ?_)
        refine lv_goto (tgt := 11) hx hb dX7_edit_37 (by decide) ?_
        exact ih_7 (upd q1 i (q1 (i + 354))) _ _ _ ⟨sh_step hI_8, hP, hD, hS⟩ (lv_sub hl [1, 0] rfl)
set_option maxHeartbeats 4000000 in
set_option maxRecDepth 100000 in
/-- Model.undo -/
theorem metX7_undo (l : Launch) (G : GG) (md : Nat → Nat) (a pa : Nat → Int32) (np : Nat) (tb : Nat → Int32) (ty aw : Nat) (iw : Bool) (qu : Nat → Int32) (up lo : UInt32) (su : Nat) (kn : Nat → UInt32) (ik im : Nat → Bool) (fo : UInt32) (hn : np ≤ 8) : Met l yX7_undo wsX7_undo ({ frames := 0, cells := 0, slots := 0, locals := 0 }) (pM G (mcells G md a pa np tb ty aw iw qu up lo su kn ik im fo) [.ref (md 0)]) (va_Qi (fun r (_ : Unit) => r = mUNf np) (bM G (fun _ : Unit => mcells G md (cond (decide (0 < np)) (unP pa (np - 1) a) a) pa (np - 1) tb ty aw iw qu up lo su kn ik im fo)) (adr (mcells G md a pa np tb ty aw iw qu up lo su kn ik im fo))) 0 0 (adr (mcells G md a pa np tb ty aw iw qu up lo su kn ik im fo)) := by
  refine Met.ofW (cc := cX7_undo) (maxL := 2) (ret := (some .int)) (by decide) rfl ?_
  intro p e s m args below meth c s₁ B hml hv
  obtain ⟨rfl, hK, hP, hD0⟩ := hv
  have hx := B.exec
  have hb := B.bytes
  have hr := B.returns
  have hlocks := B.notSynchronized
  have hts := atoms_spec (ws := wsX7_undo) B.pre
  have hown : s.vm.findClass RX7 = some m.cls := findClass_of_methodNamed B.named
  have hD := hD0.own
  generalize hAe : adr (mcells G md a pa np tb ty aw iw qu up lo su kn ik im fo) = A at hD ⊢
  have hS : va_S A s.heap s.heap [] := va_S.rf
  have hl := lv_entry ([.ref (md 0)]) (n := 2) (Nat.le_of_ble_eq_true rfl)
  rw [lg_entry_eq]
  generalize (lg_sl ([.ref (md 0)]) ++ List.replicate (2 - (lg_sl ([.ref (md 0)])).length) Slot.unset).toArray = ls at hl ⊢
  have hl : lv_has ls 2 [(0, .ref (md 0))] := hl
  have hP : va_P G.1 vwCl ([(md 0, .inr (6, [.ref (md 1), .ref (md 2), .int (nI np), .ref (md 3), .int (nI ty), .int (nI aw), .int (bI iw), .ref (md 4), .float up, .float lo, .int (nI su), .ref (md 5), .ref (md 6), .ref (md 7), .float fo])), (md 1, .inl (G.2 0, 354, .inl a)), (md 2, .inl (G.2 0, 2832, .inl pa)), (md 3, .inl (G.2 3, 60, .inl tb)), (md 4, .inl (G.2 0, 36, .inl qu)), (md 5, .inl (G.2 2, 288, .inr (.inr (.inl kn)))), (md 6, .inl (G.2 1, 288, .inl (fun jj => bI (ik jj)))), (md 7, .inl (G.2 1, 288, .inl (fun jj => bI (im jj))))]) s.heap := hP
  have hD : va_D A ([(md 0, .inr (6, [.ref (md 1), .ref (md 2), .int (nI np), .ref (md 3), .int (nI ty), .int (nI aw), .int (bI iw), .ref (md 4), .float up, .float lo, .int (nI su), .ref (md 5), .ref (md 6), .ref (md 7), .float fo])), (md 1, .inl (G.2 0, 354, .inl a)), (md 2, .inl (G.2 0, 2832, .inl pa)), (md 3, .inl (G.2 3, 60, .inl tb)), (md 4, .inl (G.2 0, 36, .inl qu)), (md 5, .inl (G.2 2, 288, .inr (.inr (.inl kn)))), (md 6, .inl (G.2 1, 288, .inl (fun jj => bI (ik jj)))), (md 7, .inl (G.2 1, 288, .inl (fun jj => bI (im jj))))]) := hD
  refine lv_aload_n hx hb dX7_undo_0 rfl (lv_at hl 0 rfl) ?_
  refine va_get (D := G.1) (ci := 6) (v := .int (nI np)) (C := RX7) (T := TX7) (N := 15) hx hb hts (by decide +kernel) hown hK.1 hP 0 rfl rfl 2 (by decide) (hts (.fieldLink RX7 34 "PriceIndexCalculatorModel" "pasts" "I") (by decide +kernel)) (fun _ h9 => h9) rfl dX7_undo_1 ?_
  refine n_if_ne (x := np) (tgt := 10) hx hb (by omega) dX7_undo_4 (by decide) (fun c_1 => ?_) (fun c_1 => ?_)
  · refine lv_aload_n hx hb dX7_undo_10 rfl (lv_at hl 0 rfl) ?_
    refine lv_dup hx hb dX7_undo_11 rfl ?_
    refine va_get (D := G.1) (ci := 6) (v := .int (nI np)) (C := RX7) (T := TX7) (N := 15) hx hb hts (by decide +kernel) hown hK.1 hP 0 rfl rfl 2 (by decide) (hts (.fieldLink RX7 34 "PriceIndexCalculatorModel" "pasts" "I") (by decide +kernel)) (fun _ h9 => h9) rfl dX7_undo_12 ?_
    refine lv_iconst (v := nI 1) hx hb dX7_undo_15 (by decide) ?_
    refine n_sub hx hb (by omega) dX7_undo_16 ?_
    refine va_put (D := G.1) (ci := 6) (v := .int (nI (np - 1))) (ty := .int) (C := RX7) (T := TX7) (N := 15) hx hb hts (by decide +kernel) tyX7 tyX7_ok nmX7 hown hK.1 hP hD hS 0 rfl rfl 2 (by decide) (hts (.fieldLink RX7 34 "PriceIndexCalculatorModel" "pasts" "I") (by decide +kernel)) (fun _ h9 => h9) rfl (by decide +kernel) rfl rfl (Nat.le_of_ble_eq_true rfl) dX7_undo_17 (fun H locs hP hD hS => ?_)
    have hP : va_P G.1 vwCl ([(md 0, .inr (6, [.ref (md 1), .ref (md 2), .int (nI (np - 1)), .ref (md 3), .int (nI ty), .int (nI aw), .int (bI iw), .ref (md 4), .float up, .float lo, .int (nI su), .ref (md 5), .ref (md 6), .ref (md 7), .float fo])), (md 1, .inl (G.2 0, 354, .inl a)), (md 2, .inl (G.2 0, 2832, .inl pa)), (md 3, .inl (G.2 3, 60, .inl tb)), (md 4, .inl (G.2 0, 36, .inl qu)), (md 5, .inl (G.2 2, 288, .inr (.inr (.inl kn)))), (md 6, .inl (G.2 1, 288, .inl (fun jj => bI (ik jj)))), (md 7, .inl (G.2 1, 288, .inl (fun jj => bI (im jj))))]) H := hP
    have hD : va_D A ([(md 0, .inr (6, [.ref (md 1), .ref (md 2), .int (nI (np - 1)), .ref (md 3), .int (nI ty), .int (nI aw), .int (bI iw), .ref (md 4), .float up, .float lo, .int (nI su), .ref (md 5), .ref (md 6), .ref (md 7), .float fo])), (md 1, .inl (G.2 0, 354, .inl a)), (md 2, .inl (G.2 0, 2832, .inl pa)), (md 3, .inl (G.2 3, 60, .inl tb)), (md 4, .inl (G.2 0, 36, .inl qu)), (md 5, .inl (G.2 2, 288, .inr (.inr (.inl kn)))), (md 6, .inl (G.2 1, 288, .inl (fun jj => bI (ik jj)))), (md 7, .inl (G.2 1, 288, .inl (fun jj => bI (im jj))))]) := hD
    refine lv_iconst (v := nI 0) hx hb dX7_undo_20 (by decide) ?_
    refine lv_istore_n (lv' := [(1, .int (nI 0)), (0, .ref (md 0))]) hx hb dX7_undo_21 rfl hl (by decide) rfl (fun ls hl => ?_)
    refine lpM (S := (Nat → Int32)) (354) (fun i u H locs => (∀ j, u j = if j < i then pa (354 * (np - 1) + j) else a j) ∧ va_P G.1 vwCl ([(md 0, .inr (6, [.ref (md 1), .ref (md 2), .int (nI (np - 1)), .ref (md 3), .int (nI ty), .int (nI aw), .int (bI iw), .ref (md 4), .float up, .float lo, .int (nI su), .ref (md 5), .ref (md 6), .ref (md 7), .float fo])), (md 1, .inl (G.2 0, 354, .inl u)), (md 2, .inl (G.2 0, 2832, .inl pa)), (md 3, .inl (G.2 3, 60, .inl tb)), (md 4, .inl (G.2 0, 36, .inl qu)), (md 5, .inl (G.2 2, 288, .inr (.inr (.inl kn)))), (md 6, .inl (G.2 1, 288, .inl (fun jj => bI (ik jj)))), (md 7, .inl (G.2 1, 288, .inl (fun jj => bI (im jj))))]) H ∧ va_D A ([(md 0, .inr (6, [.ref (md 1), .ref (md 2), .int (nI (np - 1)), .ref (md 3), .int (nI ty), .int (nI aw), .int (bI iw), .ref (md 4), .float up, .float lo, .int (nI su), .ref (md 5), .ref (md 6), .ref (md 7), .float fo])), (md 1, .inl (G.2 0, 354, .inl u)), (md 2, .inl (G.2 0, 2832, .inl pa)), (md 3, .inl (G.2 3, 60, .inl tb)), (md 4, .inl (G.2 0, 36, .inl qu)), (md 5, .inl (G.2 2, 288, .inr (.inr (.inl kn)))), (md 6, .inl (G.2 1, 288, .inl (fun jj => bI (ik jj)))), (md 7, .inl (G.2 1, 288, .inl (fun jj => bI (im jj))))]) ∧ va_S A s.heap H locs) (fun i u => [(0, .ref (md 0)), (1, .int (nI i))]) (fun u H locs ls hI0 hl => ?_) (fun i u H locs ls hi_4 hI0 hl ih_2 => ?_) (0) a (by omega) ⟨(fun j => by rw [if_neg (Nat.not_lt_zero j)]), hP, hD, hS⟩ (lv_sub hl [1, 0] rfl)
    · obtain ⟨q1, rfl⟩ : ∃ z, z = u := ⟨_, rfl⟩
      obtain ⟨hI_3, hP, hD, hS⟩ := hI0
      try dsimp only at hI_3
      have hl : lv_has ls 2 [(0, .ref (md 0)), (1, .int (nI 354))] := hl
      have hP : va_P G.1 vwCl ([(md 0, .inr (6, [.ref (md 1), .ref (md 2), .int (nI (np - 1)), .ref (md 3), .int (nI ty), .int (nI aw), .int (bI iw), .ref (md 4), .float up, .float lo, .int (nI su), .ref (md 5), .ref (md 6), .ref (md 7), .float fo])), (md 1, .inl (G.2 0, 354, .inl q1)), (md 2, .inl (G.2 0, 2832, .inl pa)), (md 3, .inl (G.2 3, 60, .inl tb)), (md 4, .inl (G.2 0, 36, .inl qu)), (md 5, .inl (G.2 2, 288, .inr (.inr (.inl kn)))), (md 6, .inl (G.2 1, 288, .inl (fun jj => bI (ik jj)))), (md 7, .inl (G.2 1, 288, .inl (fun jj => bI (im jj))))]) H := hP
      have hD : va_D A ([(md 0, .inr (6, [.ref (md 1), .ref (md 2), .int (nI (np - 1)), .ref (md 3), .int (nI ty), .int (nI aw), .int (bI iw), .ref (md 4), .float up, .float lo, .int (nI su), .ref (md 5), .ref (md 6), .ref (md 7), .float fo])), (md 1, .inl (G.2 0, 354, .inl q1)), (md 2, .inl (G.2 0, 2832, .inl pa)), (md 3, .inl (G.2 3, 60, .inl tb)), (md 4, .inl (G.2 0, 36, .inl qu)), (md 5, .inl (G.2 2, 288, .inr (.inr (.inl kn)))), (md 6, .inl (G.2 1, 288, .inl (fun jj => bI (ik jj)))), (md 7, .inl (G.2 1, 288, .inl (fun jj => bI (im jj))))]) := hD
      refine lv_iload_n hx hb dX7_undo_22 rfl (lv_at hl 1 rfl) ?_
      refine lv_sipush (v := nI 354) hx hb dX7_undo_23 (by decide) ?_
      refine n_icmp_ge (x := 354) (y := 354) (tgt := 56) hx hb (by omega) (by omega) dX7_undo_26 (by decide) (fun c_5 => ?_) (fun c_5 => ?_)
      · refine lv_aload_n hx hb dX7_undo_56 rfl (lv_at hl 0 rfl) ?_
        refine va_get (D := G.1) (ci := 6) (v := .int (nI (np - 1))) (C := RX7) (T := TX7) (N := 15) hx hb hts (by decide +kernel) hown hK.1 hP 0 rfl rfl 2 (by decide) (hts (.fieldLink RX7 34 "PriceIndexCalculatorModel" "pasts" "I") (by decide +kernel)) (fun _ h9 => h9) rfl dX7_undo_57 ?_
        have hed : decide (0 < np) = true := by simp [c_1]
        have hP9 : va_P G.1 vwCl (mcells G md (cond (decide (0 < np)) (unP pa (np - 1) a) a) pa (np - 1) tb ty aw iw qu up lo su kn ik im fo) H := by rw [hed, unP_eq hI_3]; exact hP
        exact W.iret (v := nI (np - 1)) hx hb hr (fun t ht hW => ⟨⟨_, (), rfl, (by rw [mUNf, if_neg (by omega)]), bM_end ht hP9⟩, hS.F ht⟩) hS.2.2 dX7_undo_60
      · exact absurd c_5 (by omega)
    · obtain ⟨q1, rfl⟩ : ∃ z, z = u := ⟨_, rfl⟩
      obtain ⟨hI_3, hP, hD, hS⟩ := hI0
      try dsimp only at hI_3
      have hl : lv_has ls 2 [(0, .ref (md 0)), (1, .int (nI i))] := hl
      have hP : va_P G.1 vwCl ([(md 0, .inr (6, [.ref (md 1), .ref (md 2), .int (nI (np - 1)), .ref (md 3), .int (nI ty), .int (nI aw), .int (bI iw), .ref (md 4), .float up, .float lo, .int (nI su), .ref (md 5), .ref (md 6), .ref (md 7), .float fo])), (md 1, .inl (G.2 0, 354, .inl q1)), (md 2, .inl (G.2 0, 2832, .inl pa)), (md 3, .inl (G.2 3, 60, .inl tb)), (md 4, .inl (G.2 0, 36, .inl qu)), (md 5, .inl (G.2 2, 288, .inr (.inr (.inl kn)))), (md 6, .inl (G.2 1, 288, .inl (fun jj => bI (ik jj)))), (md 7, .inl (G.2 1, 288, .inl (fun jj => bI (im jj))))]) H := hP
      have hD : va_D A ([(md 0, .inr (6, [.ref (md 1), .ref (md 2), .int (nI (np - 1)), .ref (md 3), .int (nI ty), .int (nI aw), .int (bI iw), .ref (md 4), .float up, .float lo, .int (nI su), .ref (md 5), .ref (md 6), .ref (md 7), .float fo])), (md 1, .inl (G.2 0, 354, .inl q1)), (md 2, .inl (G.2 0, 2832, .inl pa)), (md 3, .inl (G.2 3, 60, .inl tb)), (md 4, .inl (G.2 0, 36, .inl qu)), (md 5, .inl (G.2 2, 288, .inr (.inr (.inl kn)))), (md 6, .inl (G.2 1, 288, .inl (fun jj => bI (ik jj)))), (md 7, .inl (G.2 1, 288, .inl (fun jj => bI (im jj))))]) := hD
      refine lv_iload_n hx hb dX7_undo_22 rfl (lv_at hl 1 rfl) ?_
      refine lv_sipush (v := nI 354) hx hb dX7_undo_23 (by decide) ?_
      refine n_icmp_ge (x := i) (y := 354) (tgt := 56) hx hb (by omega) (by omega) dX7_undo_26 (by decide) (fun c_6 => ?_) (fun c_6 => ?_)
      · exact absurd c_6 (by omega)
      · refine lv_aload_n hx hb dX7_undo_29 rfl (lv_at hl 0 rfl) ?_
        refine va_get (D := G.1) (ci := 6) (v := .ref (md 1)) (C := RX7) (T := TX7) (N := 15) hx hb hts (by decide +kernel) hown hK.1 hP 0 rfl rfl 0 (by decide) (hts (.fieldLink RX7 7 "PriceIndexCalculatorModel" "s" "[I") (by decide +kernel)) (fun _ h9 => h9) rfl dX7_undo_30 ?_
        refine lv_iload_n hx hb dX7_undo_33 rfl (lv_at hl 1 rfl) ?_
        refine lv_aload_n hx hb dX7_undo_34 rfl (lv_at hl 0 rfl) ?_
        refine va_get (D := G.1) (ci := 6) (v := .ref (md 2)) (C := RX7) (T := TX7) (N := 15) hx hb hts (by decide +kernel) hown hK.1 hP 0 rfl rfl 1 (by decide) (hts (.fieldLink RX7 13 "PriceIndexCalculatorModel" "past" "[I") (by decide +kernel)) (fun _ h9 => h9) rfl dX7_undo_35 ?_
        refine lv_sipush (v := nI 354) hx hb dX7_undo_38 (by decide) ?_
        refine lv_aload_n hx hb dX7_undo_41 rfl (lv_at hl 0 rfl) ?_
        refine va_get (D := G.1) (ci := 6) (v := .int (nI (np - 1))) (C := RX7) (T := TX7) (N := 15) hx hb hts (by decide +kernel) hown hK.1 hP 0 rfl rfl 2 (by decide) (hts (.fieldLink RX7 34 "PriceIndexCalculatorModel" "pasts" "I") (by decide +kernel)) (fun _ h9 => h9) rfl dX7_undo_42 ?_
        refine n_mul hx hb dX7_undo_45 ?_
        refine lv_iload_n hx hb dX7_undo_46 rfl (lv_at hl 1 rfl) ?_
        refine n_add hx hb dX7_undo_47 ?_
        refine n_iald hx hb hK.1 hP 2 0 rfl rfl (j := (354 * (np - 1)) + i) (by omega) (by omega) dX7_undo_48 ?_
        refine n_iast hx hb hK.1 hP hD hS 1 0 rfl rfl (j := i) (by omega) (by omega) dX7_undo_49 (fun H locs hP hD hS => ?_)
        have hP : va_P G.1 vwCl ([(md 0, .inr (6, [.ref (md 1), .ref (md 2), .int (nI (np - 1)), .ref (md 3), .int (nI ty), .int (nI aw), .int (bI iw), .ref (md 4), .float up, .float lo, .int (nI su), .ref (md 5), .ref (md 6), .ref (md 7), .float fo])), (md 1, .inl (G.2 0, 354, .inl (upd q1 i (pa ((354 * (np - 1)) + i))))), (md 2, .inl (G.2 0, 2832, .inl pa)), (md 3, .inl (G.2 3, 60, .inl tb)), (md 4, .inl (G.2 0, 36, .inl qu)), (md 5, .inl (G.2 2, 288, .inr (.inr (.inl kn)))), (md 6, .inl (G.2 1, 288, .inl (fun jj => bI (ik jj)))), (md 7, .inl (G.2 1, 288, .inl (fun jj => bI (im jj))))]) H := hP
        have hD : va_D A ([(md 0, .inr (6, [.ref (md 1), .ref (md 2), .int (nI (np - 1)), .ref (md 3), .int (nI ty), .int (nI aw), .int (bI iw), .ref (md 4), .float up, .float lo, .int (nI su), .ref (md 5), .ref (md 6), .ref (md 7), .float fo])), (md 1, .inl (G.2 0, 354, .inl (upd q1 i (pa ((354 * (np - 1)) + i))))), (md 2, .inl (G.2 0, 2832, .inl pa)), (md 3, .inl (G.2 3, 60, .inl tb)), (md 4, .inl (G.2 0, 36, .inl qu)), (md 5, .inl (G.2 2, 288, .inr (.inr (.inl kn)))), (md 6, .inl (G.2 1, 288, .inl (fun jj => bI (ik jj)))), (md 7, .inl (G.2 1, 288, .inl (fun jj => bI (im jj))))]) := hD
        refine lv_iinc (v := nI (i + 1)) (lv' := [(1, .int (nI (i + 1))), (0, .ref (md 0))]) hx hb dX7_undo_50 hl (k := 1) rfl (by exact nI_add _ _) (by decide) rfl (fun ls hl => ?_)
        refine lv_goto (tgt := 22) hx hb dX7_undo_53 (by decide) ?_
        exact ih_2 (upd q1 i (pa ((354 * (np - 1)) + i))) _ _ _ ⟨un_step hI_3, hP, hD, hS⟩ (lv_sub hl [1, 0] rfl)
  · refine lv_bipush (v := (-2)) hx hb dX7_undo_7 (by decide) ?_
    have hed : decide (0 < np) = false := by simp [c_1]
    have hP9 : va_P G.1 vwCl (mcells G md (cond (decide (0 < np)) (unP pa (np - 1) a) a) pa (np - 1) tb ty aw iw qu up lo su kn ik im fo) s.heap := by rw [hed, show np - 1 = np by omega]; exact hP
    exact W.iret (v := (-2)) hx hb hr (fun t ht hW => ⟨⟨_, (), rfl, (by simp [mUNf, c_1]), bM_end ht hP9⟩, hS.F ht⟩) hS.2.2 dX7_undo_9
set_option maxHeartbeats 4000000 in
set_option maxRecDepth 100000 in
/-- Model.addItem -/
theorem metX7_addItem (l : Launch) (G : GG) (md : Nat → Nat) (a pa : Nat → Int32) (np : Nat) (tb : Nat → Int32) (ty aw : Nat) (iw : Bool) (qu : Nat → Int32) (up lo : UInt32) (su : Nat) (kn : Nat → UInt32) (ik im : Nat → Bool) (fo : UInt32) (hn : np ≤ 8) (hA : mWF a) (y1 y2 y3 : Int32) : Met l yX7_addItem wsX7_addItem ({ frames := 3, cells := 0, slots := 0, locals := 90 }) (pM G (mcells G md a pa np tb ty aw iw qu up lo su kn ik im fo) [.ref (md 0), .int y1, .int y2, .int y3]) (va_Qi (fun r (_ : Unit) => r = mAIf a y1 y2 y3) (bM G (fun _ : Unit => mcells G md (cond (mAIe a y1 y2 y3) (mAIa a y1 y2 y3) a) (cond (mAIe a y1 y2 y3) (edP pa a np) pa) (cond (mAIe a y1 y2 y3) (kp8 np) np) tb ty aw iw qu up lo su kn ik im fo)) (adr (mcells G md a pa np tb ty aw iw qu up lo su kn ik im fo))) 0 0 (adr (mcells G md a pa np tb ty aw iw qu up lo su kn ik im fo)) := by
  refine Met.ofW (cc := cX7_addItem) (maxL := 5) (ret := (some .int)) (by decide) rfl ?_
  intro p e s m args below meth c s₁ B hml hv
  obtain ⟨rfl, hK, hP, hD0⟩ := hv
  have hx := B.exec
  have hb := B.bytes
  have hr := B.returns
  have hlocks := B.notSynchronized
  have hts := atoms_spec (ws := wsX7_addItem) B.pre
  have hown : s.vm.findClass RX7 = some m.cls := findClass_of_methodNamed B.named
  have hD := hD0.own
  generalize hAe : adr (mcells G md a pa np tb ty aw iw qu up lo su kn ik im fo) = A at hD ⊢
  have hS : va_S A s.heap s.heap [] := va_S.rf
  have hl := lv_entry ([.ref (md 0), .int y1, .int y2, .int y3]) (n := 5) (Nat.le_of_ble_eq_true rfl)
  rw [lg_entry_eq]
  generalize (lg_sl ([.ref (md 0), .int y1, .int y2, .int y3]) ++ List.replicate (5 - (lg_sl ([.ref (md 0), .int y1, .int y2, .int y3])).length) Slot.unset).toArray = ls at hl ⊢
  have hl : lv_has ls 5 [(0, .ref (md 0)), (1, .int y1), (2, .int y2), (3, .int y3)] := hl
  have hP : va_P G.1 vwCl ([(md 0, .inr (6, [.ref (md 1), .ref (md 2), .int (nI np), .ref (md 3), .int (nI ty), .int (nI aw), .int (bI iw), .ref (md 4), .float up, .float lo, .int (nI su), .ref (md 5), .ref (md 6), .ref (md 7), .float fo])), (md 1, .inl (G.2 0, 354, .inl a)), (md 2, .inl (G.2 0, 2832, .inl pa)), (md 3, .inl (G.2 3, 60, .inl tb)), (md 4, .inl (G.2 0, 36, .inl qu)), (md 5, .inl (G.2 2, 288, .inr (.inr (.inl kn)))), (md 6, .inl (G.2 1, 288, .inl (fun jj => bI (ik jj)))), (md 7, .inl (G.2 1, 288, .inl (fun jj => bI (im jj))))]) s.heap := hP
  have hD : va_D A ([(md 0, .inr (6, [.ref (md 1), .ref (md 2), .int (nI np), .ref (md 3), .int (nI ty), .int (nI aw), .int (bI iw), .ref (md 4), .float up, .float lo, .int (nI su), .ref (md 5), .ref (md 6), .ref (md 7), .float fo])), (md 1, .inl (G.2 0, 354, .inl a)), (md 2, .inl (G.2 0, 2832, .inl pa)), (md 3, .inl (G.2 3, 60, .inl tb)), (md 4, .inl (G.2 0, 36, .inl qu)), (md 5, .inl (G.2 2, 288, .inr (.inr (.inl kn)))), (md 6, .inl (G.2 1, 288, .inl (fun jj => bI (ik jj)))), (md 7, .inl (G.2 1, 288, .inl (fun jj => bI (im jj))))]) := hD
  have hC := hA.1
  have hit := hA.1.2
  refine lv_iload_n hx hb dX7_addItem_0 rfl (lv_at hl 1 rfl) ?_
  refine cr_i (va_runS (As := [.int y1]) (rest := []) ⟨hx, hb, hml, hown, hts⟩ (metX7_isStratum l G y1) (cwS 1 hts gX7_addItem_X7_isStratum rfl rfl rfl (by decide +kernel) ⟨Nat.le_of_ble_eq_true rfl, Nat.le_of_ble_eq_true rfl⟩) (pR_S hK (va_P_nil _ _ _)) rfl rfl hl.1 rfl (lv_room (Nat.le_of_ble_eq_true rfl)) dX7_addItem_1 ⟨Nat.zero_le _, Nat.zero_le _⟩) (fun r_1 hr_2 => ?_)
  subst hr_2
  refine nb_if_eq (B := isStrM y1) (tgt := 29) hx hb dX7_addItem_4 (by decide) (fun c_3 => ?_) (fun c_3 => ?_)
  · refine lv_iconst (v := (-1)) hx hb dX7_addItem_29 (by decide) ?_
    have hed : (mAIe a y1 y2 y3) = false := by simp [mAIf, mAIe, mAIok, c_3]
    have hP9 : va_P G.1 vwCl (mcells G md (cond (mAIe a y1 y2 y3) (mAIa a y1 y2 y3) a) (cond (mAIe a y1 y2 y3) (edP pa a np) pa) (cond (mAIe a y1 y2 y3) (kp8 np) np) tb ty aw iw qu up lo su kn ik im fo) s.heap := by rw [hed]; exact hP
    exact W.iret (v := (-1)) hx hb hr (fun t ht hW => ⟨⟨_, (), rfl, (by simp [mAIf, mAIe, mAIok, c_3]), bM_end ht hP9⟩, hS.F ht⟩) hS.2.2 dX7_addItem_30
  · refine lv_iload_n hx hb dX7_addItem_7 rfl (lv_at hl 2 rfl) ?_
    refine lv_iconst (v := nI 1) hx hb dX7_addItem_8 (by decide) ?_
    refine lv_sipush (v := nI 1000) hx hb dX7_addItem_9 (by decide) ?_
    refine cr_i (va_runS (As := [.int y2, .int (nI 1), .int (nI 1000)]) (rest := []) ⟨hx, hb, hml, hown, hts⟩ (metX7_in l G y2 (nI 1) (nI 1000)) (cwS 3 hts gX7_addItem_X7_in rfl rfl rfl (by decide +kernel) ⟨Nat.le_of_ble_eq_true rfl, Nat.le_of_ble_eq_true rfl⟩) (pR_S hK (va_P_nil _ _ _)) rfl rfl hl.1 rfl (lv_room (Nat.le_of_ble_eq_true rfl)) dX7_addItem_12 ⟨Nat.zero_le _, Nat.zero_le _⟩) (fun r_4 hr_5 => ?_)
    subst hr_5
    refine nb_if_eq (B := inR y2 (nI 1) (nI 1000)) (tgt := 29) hx hb dX7_addItem_15 (by decide) (fun c_6 => ?_) (fun c_6 => ?_)
    · refine lv_iconst (v := (-1)) hx hb dX7_addItem_29 (by decide) ?_
      have hed : (mAIe a y1 y2 y3) = false := by simp [mAIf, mAIe, mAIok, c_3, c_6]
      have hP9 : va_P G.1 vwCl (mcells G md (cond (mAIe a y1 y2 y3) (mAIa a y1 y2 y3) a) (cond (mAIe a y1 y2 y3) (edP pa a np) pa) (cond (mAIe a y1 y2 y3) (kp8 np) np) tb ty aw iw qu up lo su kn ik im fo) s.heap := by rw [hed]; exact hP
      exact W.iret (v := (-1)) hx hb hr (fun t ht hW => ⟨⟨_, (), rfl, (by simp [mAIf, mAIe, mAIok, c_3, c_6]), bM_end ht hP9⟩, hS.F ht⟩) hS.2.2 dX7_addItem_30
    · refine lv_iload_n hx hb dX7_addItem_18 rfl (lv_at hl 3 rfl) ?_
      refine lv_iconst (v := nI 1) hx hb dX7_addItem_19 (by decide) ?_
      refine lv_sipush (v := nI 4095) hx hb dX7_addItem_20 (by decide) ?_
      refine cr_i (va_runS (As := [.int y3, .int (nI 1), .int (nI 4095)]) (rest := []) ⟨hx, hb, hml, hown, hts⟩ (metX7_in l G y3 (nI 1) (nI 4095)) (cwS 3 hts gX7_addItem_X7_in rfl rfl rfl (by decide +kernel) ⟨Nat.le_of_ble_eq_true rfl, Nat.le_of_ble_eq_true rfl⟩) (pR_S hK (va_P_nil _ _ _)) rfl rfl hl.1 rfl (lv_room (Nat.le_of_ble_eq_true rfl)) dX7_addItem_23 ⟨Nat.zero_le _, Nat.zero_le _⟩) (fun r_7 hr_8 => ?_)
      subst hr_8
      refine nb_if_ne (B := inR y3 (nI 1) (nI 4095)) (tgt := 31) hx hb dX7_addItem_26 (by decide) (fun c_9 => ?_) (fun c_9 => ?_)
      · refine lv_aload_n hx hb dX7_addItem_31 rfl (lv_at hl 0 rfl) ?_
        refine va_get (D := G.1) (ci := 6) (v := .ref (md 1)) (C := RX7) (T := TX7) (N := 15) hx hb hts (by decide +kernel) hown hK.1 hP 0 rfl rfl 0 (by decide) (hts (.fieldLink RX7 7 "PriceIndexCalculatorModel" "s" "[I") (by decide +kernel)) (fun _ h9 => h9) rfl dX7_addItem_32 ?_
        refine lv_iconst (v := nI 5) hx hb dX7_addItem_35 (by decide) ?_
        refine n_iald hx hb hK.1 hP 1 0 rfl rfl (j := 5) (by omega) (by omega) dX7_addItem_36 ?_
        refine eq_i (y := nI (mN a)) (hC.1) ?_
        refine lv_istore (lv' := [(4, .int (nI (mN a))), (0, .ref (md 0)), (1, .int y1), (2, .int y2), (3, .int y3)]) hx hb dX7_addItem_37 hl (by decide) rfl (fun ls hl => ?_)
        refine lv_iload hx hb dX7_addItem_39 (lv_at hl 0 rfl) ?_
        refine lv_bipush (v := nI 12) hx hb dX7_addItem_41 (by decide) ?_
        refine n_icmp_ne (x := mN a) (y := 12) (tgt := 49) hx hb (by omega) (by omega) dX7_addItem_43 (by decide) (fun c_10 => ?_) (fun c_10 => ?_)
        · refine lv_aload_n hx hb dX7_addItem_49 rfl (lv_at hl 1 rfl) ?_
          refine cw_v (va_runV (As := []) (rest := []) ⟨hx, hb, hml, hown, hts⟩ (metX7_edit l G md a pa np tb ty aw iw qu up lo su kn ik im fo hn) (cwV 0 hts gX7_addItem_X7_edit rfl rfl rfl (by decide +kernel) ⟨Nat.le_of_ble_eq_true rfl, Nat.le_of_ble_eq_true rfl⟩) (pM_V (w := mcells G md a pa np tb ty aw iw qu up lo su kn ik im fo) (q0 := 0) hK hP hD rfl rfl) rfl rfl hl.1 rfl (lv_room (Nat.le_of_ble_eq_true rfl)) dX7_addItem_50 ⟨Nat.zero_le _, Nat.zero_le _⟩) hD hS (fun _ => rfl) (fun  u_11 H locs hw_12 hP hD hS => ?_)
          have hP : va_P G.1 vwCl ([(md 0, .inr (6, [.ref (md 1), .ref (md 2), .int (nI (kp8 np)), .ref (md 3), .int (nI ty), .int (nI aw), .int (bI iw), .ref (md 4), .float up, .float lo, .int (nI su), .ref (md 5), .ref (md 6), .ref (md 7), .float fo])), (md 1, .inl (G.2 0, 354, .inl a)), (md 2, .inl (G.2 0, 2832, .inl (edP pa a np))), (md 3, .inl (G.2 3, 60, .inl tb)), (md 4, .inl (G.2 0, 36, .inl qu)), (md 5, .inl (G.2 2, 288, .inr (.inr (.inl kn)))), (md 6, .inl (G.2 1, 288, .inl (fun jj => bI (ik jj)))), (md 7, .inl (G.2 1, 288, .inl (fun jj => bI (im jj))))]) H := hP
          have hD : va_D A ([(md 0, .inr (6, [.ref (md 1), .ref (md 2), .int (nI (kp8 np)), .ref (md 3), .int (nI ty), .int (nI aw), .int (bI iw), .ref (md 4), .float up, .float lo, .int (nI su), .ref (md 5), .ref (md 6), .ref (md 7), .float fo])), (md 1, .inl (G.2 0, 354, .inl a)), (md 2, .inl (G.2 0, 2832, .inl (edP pa a np))), (md 3, .inl (G.2 3, 60, .inl tb)), (md 4, .inl (G.2 0, 36, .inl qu)), (md 5, .inl (G.2 2, 288, .inr (.inr (.inl kn)))), (md 6, .inl (G.2 1, 288, .inl (fun jj => bI (ik jj)))), (md 7, .inl (G.2 1, 288, .inl (fun jj => bI (im jj))))]) := hD
          refine lv_aload_n hx hb dX7_addItem_53 rfl (lv_at hl 1 rfl) ?_
          refine va_get (D := G.1) (ci := 6) (v := .ref (md 1)) (C := RX7) (T := TX7) (N := 15) hx hb hts (by decide +kernel) hown hK.1 hP 0 rfl rfl 0 (by decide) (hts (.fieldLink RX7 7 "PriceIndexCalculatorModel" "s" "[I") (by decide +kernel)) (fun _ h9 => h9) rfl dX7_addItem_54 ?_
          refine lv_bipush (v := nI 6) hx hb dX7_addItem_57 (by decide) ?_
          refine lv_iload hx hb dX7_addItem_59 (lv_at hl 0 rfl) ?_
          refine n_add hx hb dX7_addItem_61 ?_
          refine lv_iload_n hx hb dX7_addItem_62 rfl (lv_at hl 2 rfl) ?_
          refine n_iast hx hb hK.1 hP hD hS 1 0 rfl rfl (j := 6 + (mN a)) (by omega) (by omega) dX7_addItem_63 (fun H locs hP hD hS => ?_)
          have hP : va_P G.1 vwCl ([(md 0, .inr (6, [.ref (md 1), .ref (md 2), .int (nI (kp8 np)), .ref (md 3), .int (nI ty), .int (nI aw), .int (bI iw), .ref (md 4), .float up, .float lo, .int (nI su), .ref (md 5), .ref (md 6), .ref (md 7), .float fo])), (md 1, .inl (G.2 0, 354, .inl (upd a (6 + (mN a)) y1))), (md 2, .inl (G.2 0, 2832, .inl (edP pa a np))), (md 3, .inl (G.2 3, 60, .inl tb)), (md 4, .inl (G.2 0, 36, .inl qu)), (md 5, .inl (G.2 2, 288, .inr (.inr (.inl kn)))), (md 6, .inl (G.2 1, 288, .inl (fun jj => bI (ik jj)))), (md 7, .inl (G.2 1, 288, .inl (fun jj => bI (im jj))))]) H := hP
          have hD : va_D A ([(md 0, .inr (6, [.ref (md 1), .ref (md 2), .int (nI (kp8 np)), .ref (md 3), .int (nI ty), .int (nI aw), .int (bI iw), .ref (md 4), .float up, .float lo, .int (nI su), .ref (md 5), .ref (md 6), .ref (md 7), .float fo])), (md 1, .inl (G.2 0, 354, .inl (upd a (6 + (mN a)) y1))), (md 2, .inl (G.2 0, 2832, .inl (edP pa a np))), (md 3, .inl (G.2 3, 60, .inl tb)), (md 4, .inl (G.2 0, 36, .inl qu)), (md 5, .inl (G.2 2, 288, .inr (.inr (.inl kn)))), (md 6, .inl (G.2 1, 288, .inl (fun jj => bI (ik jj)))), (md 7, .inl (G.2 1, 288, .inl (fun jj => bI (im jj))))]) := hD
          refine lv_aload_n hx hb dX7_addItem_64 rfl (lv_at hl 1 rfl) ?_
          refine va_get (D := G.1) (ci := 6) (v := .ref (md 1)) (C := RX7) (T := TX7) (N := 15) hx hb hts (by decide +kernel) hown hK.1 hP 0 rfl rfl 0 (by decide) (hts (.fieldLink RX7 7 "PriceIndexCalculatorModel" "s" "[I") (by decide +kernel)) (fun _ h9 => h9) rfl dX7_addItem_65 ?_
          refine lv_bipush (v := nI 18) hx hb dX7_addItem_68 (by decide) ?_
          refine lv_iload hx hb dX7_addItem_70 (lv_at hl 0 rfl) ?_
          refine n_add hx hb dX7_addItem_72 ?_
          refine lv_iload_n hx hb dX7_addItem_73 rfl (lv_at hl 3 rfl) ?_
          refine n_iast hx hb hK.1 hP hD hS 1 0 rfl rfl (j := 18 + (mN a)) (by omega) (by omega) dX7_addItem_74 (fun H locs hP hD hS => ?_)
          have hP : va_P G.1 vwCl ([(md 0, .inr (6, [.ref (md 1), .ref (md 2), .int (nI (kp8 np)), .ref (md 3), .int (nI ty), .int (nI aw), .int (bI iw), .ref (md 4), .float up, .float lo, .int (nI su), .ref (md 5), .ref (md 6), .ref (md 7), .float fo])), (md 1, .inl (G.2 0, 354, .inl (upd (upd a (6 + (mN a)) y1) (18 + (mN a)) y2))), (md 2, .inl (G.2 0, 2832, .inl (edP pa a np))), (md 3, .inl (G.2 3, 60, .inl tb)), (md 4, .inl (G.2 0, 36, .inl qu)), (md 5, .inl (G.2 2, 288, .inr (.inr (.inl kn)))), (md 6, .inl (G.2 1, 288, .inl (fun jj => bI (ik jj)))), (md 7, .inl (G.2 1, 288, .inl (fun jj => bI (im jj))))]) H := hP
          have hD : va_D A ([(md 0, .inr (6, [.ref (md 1), .ref (md 2), .int (nI (kp8 np)), .ref (md 3), .int (nI ty), .int (nI aw), .int (bI iw), .ref (md 4), .float up, .float lo, .int (nI su), .ref (md 5), .ref (md 6), .ref (md 7), .float fo])), (md 1, .inl (G.2 0, 354, .inl (upd (upd a (6 + (mN a)) y1) (18 + (mN a)) y2))), (md 2, .inl (G.2 0, 2832, .inl (edP pa a np))), (md 3, .inl (G.2 3, 60, .inl tb)), (md 4, .inl (G.2 0, 36, .inl qu)), (md 5, .inl (G.2 2, 288, .inr (.inr (.inl kn)))), (md 6, .inl (G.2 1, 288, .inl (fun jj => bI (ik jj)))), (md 7, .inl (G.2 1, 288, .inl (fun jj => bI (im jj))))]) := hD
          refine lv_aload_n hx hb dX7_addItem_75 rfl (lv_at hl 1 rfl) ?_
          refine va_get (D := G.1) (ci := 6) (v := .ref (md 1)) (C := RX7) (T := TX7) (N := 15) hx hb hts (by decide +kernel) hown hK.1 hP 0 rfl rfl 0 (by decide) (hts (.fieldLink RX7 7 "PriceIndexCalculatorModel" "s" "[I") (by decide +kernel)) (fun _ h9 => h9) rfl dX7_addItem_76 ?_
          refine lv_bipush (v := nI 30) hx hb dX7_addItem_79 (by decide) ?_
          refine lv_iload hx hb dX7_addItem_81 (lv_at hl 0 rfl) ?_
          refine n_add hx hb dX7_addItem_83 ?_
          refine lv_iload_n hx hb dX7_addItem_84 rfl (lv_at hl 4 rfl) ?_
          refine n_iast hx hb hK.1 hP hD hS 1 0 rfl rfl (j := 30 + (mN a)) (by omega) (by omega) dX7_addItem_85 (fun H locs hP hD hS => ?_)
          have hP : va_P G.1 vwCl ([(md 0, .inr (6, [.ref (md 1), .ref (md 2), .int (nI (kp8 np)), .ref (md 3), .int (nI ty), .int (nI aw), .int (bI iw), .ref (md 4), .float up, .float lo, .int (nI su), .ref (md 5), .ref (md 6), .ref (md 7), .float fo])), (md 1, .inl (G.2 0, 354, .inl (upd (upd (upd a (6 + (mN a)) y1) (18 + (mN a)) y2) (30 + (mN a)) y3))), (md 2, .inl (G.2 0, 2832, .inl (edP pa a np))), (md 3, .inl (G.2 3, 60, .inl tb)), (md 4, .inl (G.2 0, 36, .inl qu)), (md 5, .inl (G.2 2, 288, .inr (.inr (.inl kn)))), (md 6, .inl (G.2 1, 288, .inl (fun jj => bI (ik jj)))), (md 7, .inl (G.2 1, 288, .inl (fun jj => bI (im jj))))]) H := hP
          have hD : va_D A ([(md 0, .inr (6, [.ref (md 1), .ref (md 2), .int (nI (kp8 np)), .ref (md 3), .int (nI ty), .int (nI aw), .int (bI iw), .ref (md 4), .float up, .float lo, .int (nI su), .ref (md 5), .ref (md 6), .ref (md 7), .float fo])), (md 1, .inl (G.2 0, 354, .inl (upd (upd (upd a (6 + (mN a)) y1) (18 + (mN a)) y2) (30 + (mN a)) y3))), (md 2, .inl (G.2 0, 2832, .inl (edP pa a np))), (md 3, .inl (G.2 3, 60, .inl tb)), (md 4, .inl (G.2 0, 36, .inl qu)), (md 5, .inl (G.2 2, 288, .inr (.inr (.inl kn)))), (md 6, .inl (G.2 1, 288, .inl (fun jj => bI (ik jj)))), (md 7, .inl (G.2 1, 288, .inl (fun jj => bI (im jj))))]) := hD
          refine lv_aload_n hx hb dX7_addItem_86 rfl (lv_at hl 1 rfl) ?_
          refine va_get (D := G.1) (ci := 6) (v := .ref (md 1)) (C := RX7) (T := TX7) (N := 15) hx hb hts (by decide +kernel) hown hK.1 hP 0 rfl rfl 0 (by decide) (hts (.fieldLink RX7 7 "PriceIndexCalculatorModel" "s" "[I") (by decide +kernel)) (fun _ h9 => h9) rfl dX7_addItem_87 ?_
          refine lv_iconst (v := nI 5) hx hb dX7_addItem_90 (by decide) ?_
          refine lv_dup2_11 hx hb dX7_addItem_91 rfl rfl ?_
          refine n_iald hx hb hK.1 hP 1 0 rfl rfl (j := 5) (by omega) (by omega) dX7_addItem_92 ?_
          refine eq_i (y := nI (mN a)) (by simp [upd]; rw [if_neg (by omega), if_neg (by omega), if_neg (by omega)]; exact hC.1) ?_
          refine lv_iconst (v := nI 1) hx hb dX7_addItem_93 (by decide) ?_
          refine n_add hx hb dX7_addItem_94 ?_
          refine n_iast hx hb hK.1 hP hD hS 1 0 rfl rfl (j := 5) (by omega) (by omega) dX7_addItem_95 (fun H locs hP hD hS => ?_)
          have hP : va_P G.1 vwCl ([(md 0, .inr (6, [.ref (md 1), .ref (md 2), .int (nI (kp8 np)), .ref (md 3), .int (nI ty), .int (nI aw), .int (bI iw), .ref (md 4), .float up, .float lo, .int (nI su), .ref (md 5), .ref (md 6), .ref (md 7), .float fo])), (md 1, .inl (G.2 0, 354, .inl (upd (upd (upd (upd a (6 + (mN a)) y1) (18 + (mN a)) y2) (30 + (mN a)) y3) 5 (nI ((mN a) + 1))))), (md 2, .inl (G.2 0, 2832, .inl (edP pa a np))), (md 3, .inl (G.2 3, 60, .inl tb)), (md 4, .inl (G.2 0, 36, .inl qu)), (md 5, .inl (G.2 2, 288, .inr (.inr (.inl kn)))), (md 6, .inl (G.2 1, 288, .inl (fun jj => bI (ik jj)))), (md 7, .inl (G.2 1, 288, .inl (fun jj => bI (im jj))))]) H := hP
          have hD : va_D A ([(md 0, .inr (6, [.ref (md 1), .ref (md 2), .int (nI (kp8 np)), .ref (md 3), .int (nI ty), .int (nI aw), .int (bI iw), .ref (md 4), .float up, .float lo, .int (nI su), .ref (md 5), .ref (md 6), .ref (md 7), .float fo])), (md 1, .inl (G.2 0, 354, .inl (upd (upd (upd (upd a (6 + (mN a)) y1) (18 + (mN a)) y2) (30 + (mN a)) y3) 5 (nI ((mN a) + 1))))), (md 2, .inl (G.2 0, 2832, .inl (edP pa a np))), (md 3, .inl (G.2 3, 60, .inl tb)), (md 4, .inl (G.2 0, 36, .inl qu)), (md 5, .inl (G.2 2, 288, .inr (.inr (.inl kn)))), (md 6, .inl (G.2 1, 288, .inl (fun jj => bI (ik jj)))), (md 7, .inl (G.2 1, 288, .inl (fun jj => bI (im jj))))]) := hD
          refine lv_iload hx hb dX7_addItem_96 (lv_at hl 0 rfl) ?_
          have hed : (mAIe a y1 y2 y3) = true := by simp [mAIf, mAIe, mAIok, c_3, c_6, c_9, c_10]
          have ea : (mAIa a y1 y2 y3) = upd (upd (upd (upd a (6 + (mN a)) y1) (18 + (mN a)) y2) (30 + (mN a)) y3) 5 (nI ((mN a) + 1)) := by rfl
          have hP9 : va_P G.1 vwCl (mcells G md (cond (mAIe a y1 y2 y3) (mAIa a y1 y2 y3) a) (cond (mAIe a y1 y2 y3) (edP pa a np) pa) (cond (mAIe a y1 y2 y3) (kp8 np) np) tb ty aw iw qu up lo su kn ik im fo) H := by rw [hed]; show va_P G.1 vwCl (mcells G md (mAIa a y1 y2 y3) (edP pa a np) (kp8 np) tb ty aw iw qu up lo su kn ik im fo) H; rw [ea]; exact hP
          exact W.iret (v := nI (mN a)) hx hb hr (fun t ht hW => ⟨⟨_, (), rfl, (by simp [mAIf, mAIe, mAIok, c_3, c_6, c_9, c_10]), bM_end ht hP9⟩, hS.F ht⟩) hS.2.2 dX7_addItem_98
        · refine lv_bipush (v := (-3)) hx hb dX7_addItem_46 (by decide) ?_
          have hed : (mAIe a y1 y2 y3) = false := by simp [mAIf, mAIe, mAIok, c_3, c_6, c_9, c_10]
          have hP9 : va_P G.1 vwCl (mcells G md (cond (mAIe a y1 y2 y3) (mAIa a y1 y2 y3) a) (cond (mAIe a y1 y2 y3) (edP pa a np) pa) (cond (mAIe a y1 y2 y3) (kp8 np) np) tb ty aw iw qu up lo su kn ik im fo) s.heap := by rw [hed]; exact hP
          exact W.iret (v := (-3)) hx hb hr (fun t ht hW => ⟨⟨_, (), rfl, (by rw [mAIf, if_pos (by simp [mAIok, c_3, c_6, c_9, c_10]), if_pos c_10]), bM_end ht hP9⟩, hS.F ht⟩) hS.2.2 dX7_addItem_48
      · refine lv_iconst (v := (-1)) hx hb dX7_addItem_29 (by decide) ?_
        have hed : (mAIe a y1 y2 y3) = false := by simp [mAIf, mAIe, mAIok, c_3, c_6, c_9]
        have hP9 : va_P G.1 vwCl (mcells G md (cond (mAIe a y1 y2 y3) (mAIa a y1 y2 y3) a) (cond (mAIe a y1 y2 y3) (edP pa a np) pa) (cond (mAIe a y1 y2 y3) (kp8 np) np) tb ty aw iw qu up lo su kn ik im fo) s.heap := by rw [hed]; exact hP
        exact W.iret (v := (-1)) hx hb hr (fun t ht hW => ⟨⟨_, (), rfl, (by simp [mAIf, mAIe, mAIok, c_3, c_6, c_9]), bM_end ht hP9⟩, hS.F ht⟩) hS.2.2 dX7_addItem_30
set_option maxHeartbeats 4000000 in
set_option maxRecDepth 100000 in
/-- Model.setPrice -/
theorem metX7_setPrice (l : Launch) (G : GG) (md : Nat → Nat) (a pa : Nat → Int32) (np : Nat) (tb : Nat → Int32) (ty aw : Nat) (iw : Bool) (qu : Nat → Int32) (up lo : UInt32) (su : Nat) (kn : Nat → UInt32) (ik im : Nat → Bool) (fo : UInt32) (hn : np ≤ 8) (hA : mWF a) (y1 y2 y3 : Int32) : Met l yX7_setPrice wsX7_setPrice ({ frames := 3, cells := 0, slots := 0, locals := 90 }) (pM G (mcells G md a pa np tb ty aw iw qu up lo su kn ik im fo) [.ref (md 0), .int y1, .int y2, .int y3]) (va_Qi (fun r (_ : Unit) => r = mSPf a y1 y2 y3) (bM G (fun _ : Unit => mcells G md (cond (mSPok a y1 y2 y3) (mSPa a y1 y2 y3) a) (cond (mSPok a y1 y2 y3) (edP pa a np) pa) (cond (mSPok a y1 y2 y3) (kp8 np) np) tb ty aw iw qu up lo su kn ik im fo)) (adr (mcells G md a pa np tb ty aw iw qu up lo su kn ik im fo))) 0 0 (adr (mcells G md a pa np tb ty aw iw qu up lo su kn ik im fo)) := by
  refine Met.ofW (cc := cX7_setPrice) (maxL := 5) (ret := (some .int)) (by decide) rfl ?_
  intro p e s m args below meth c s₁ B hml hv
  obtain ⟨rfl, hK, hP, hD0⟩ := hv
  have hx := B.exec
  have hb := B.bytes
  have hr := B.returns
  have hlocks := B.notSynchronized
  have hts := atoms_spec (ws := wsX7_setPrice) B.pre
  have hown : s.vm.findClass RX7 = some m.cls := findClass_of_methodNamed B.named
  have hD := hD0.own
  generalize hAe : adr (mcells G md a pa np tb ty aw iw qu up lo su kn ik im fo) = A at hD ⊢
  have hS : va_S A s.heap s.heap [] := va_S.rf
  have hl := lv_entry ([.ref (md 0), .int y1, .int y2, .int y3]) (n := 5) (Nat.le_of_ble_eq_true rfl)
  rw [lg_entry_eq]
  generalize (lg_sl ([.ref (md 0), .int y1, .int y2, .int y3]) ++ List.replicate (5 - (lg_sl ([.ref (md 0), .int y1, .int y2, .int y3])).length) Slot.unset).toArray = ls at hl ⊢
  have hl : lv_has ls 5 [(0, .ref (md 0)), (1, .int y1), (2, .int y2), (3, .int y3)] := hl
  have hP : va_P G.1 vwCl ([(md 0, .inr (6, [.ref (md 1), .ref (md 2), .int (nI np), .ref (md 3), .int (nI ty), .int (nI aw), .int (bI iw), .ref (md 4), .float up, .float lo, .int (nI su), .ref (md 5), .ref (md 6), .ref (md 7), .float fo])), (md 1, .inl (G.2 0, 354, .inl a)), (md 2, .inl (G.2 0, 2832, .inl pa)), (md 3, .inl (G.2 3, 60, .inl tb)), (md 4, .inl (G.2 0, 36, .inl qu)), (md 5, .inl (G.2 2, 288, .inr (.inr (.inl kn)))), (md 6, .inl (G.2 1, 288, .inl (fun jj => bI (ik jj)))), (md 7, .inl (G.2 1, 288, .inl (fun jj => bI (im jj))))]) s.heap := hP
  have hD : va_D A ([(md 0, .inr (6, [.ref (md 1), .ref (md 2), .int (nI np), .ref (md 3), .int (nI ty), .int (nI aw), .int (bI iw), .ref (md 4), .float up, .float lo, .int (nI su), .ref (md 5), .ref (md 6), .ref (md 7), .float fo])), (md 1, .inl (G.2 0, 354, .inl a)), (md 2, .inl (G.2 0, 2832, .inl pa)), (md 3, .inl (G.2 3, 60, .inl tb)), (md 4, .inl (G.2 0, 36, .inl qu)), (md 5, .inl (G.2 2, 288, .inr (.inr (.inl kn)))), (md 6, .inl (G.2 1, 288, .inl (fun jj => bI (ik jj)))), (md 7, .inl (G.2 1, 288, .inl (fun jj => bI (im jj))))]) := hD
  have hC := hA.1
  have hit := hA.1.2
  refine lv_aload_n hx hb dX7_setPrice_0 rfl (lv_at hl 0 rfl) ?_
  refine lv_iload_n hx hb dX7_setPrice_1 rfl (lv_at hl 1 rfl) ?_
  refine cr_i (va_runV (As := [.int y1]) (rest := []) ⟨hx, hb, hml, hown, hts⟩ (metX7_isItem l G md [.ref (md 2), .int (nI np), .ref (md 3), .int (nI ty), .int (nI aw), .int (bI iw), .ref (md 4), .float up, .float lo, .int (nI su), .ref (md 5), .ref (md 6), .ref (md 7), .float fo] a hA.1 y1) (cwV 1 hts gX7_setPrice_X7_isItem rfl rfl rfl (by decide +kernel) ⟨Nat.le_of_ble_eq_true rfl, Nat.le_of_ble_eq_true rfl⟩) (pR_V (q0 := 0) hK (hP.sub (ws' := scells G md [.ref (md 2), .int (nI np), .ref (md 3), .int (nI ty), .int (nI aw), .int (bI iw), .ref (md 4), .float up, .float lo, .int (nI su), .ref (md 5), .ref (md 6), .ref (md 7), .float fo] a) [0, 1] rfl) rfl rfl) rfl rfl hl.1 rfl (lv_room (Nat.le_of_ble_eq_true rfl)) dX7_setPrice_2 ⟨Nat.zero_le _, Nat.zero_le _⟩) (fun r_1 hr_2 => ?_)
  subst hr_2
  refine nb_if_eq (B := isItM a y1) (tgt := 25) hx hb dX7_setPrice_5 (by decide) (fun c_3 => ?_) (fun c_3 => ?_)
  · refine lv_iconst (v := (-1)) hx hb dX7_setPrice_25 (by decide) ?_
    have hed : (mSPok a y1 y2 y3) = false := by simp [mSPf, mSPok, c_3]
    have hP9 : va_P G.1 vwCl (mcells G md (cond (mSPok a y1 y2 y3) (mSPa a y1 y2 y3) a) (cond (mSPok a y1 y2 y3) (edP pa a np) pa) (cond (mSPok a y1 y2 y3) (kp8 np) np) tb ty aw iw qu up lo su kn ik im fo) s.heap := by rw [hed]; exact hP
    exact W.iret (v := (-1)) hx hb hr (fun t ht hW => ⟨⟨_, (), rfl, (by simp [mSPf, mSPok, c_3]), bM_end ht hP9⟩, hS.F ht⟩) hS.2.2 dX7_setPrice_26
  · refine lv_iload_n hx hb dX7_setPrice_8 rfl (lv_at hl 2 rfl) ?_
    refine cr_i (va_runS (As := [.int y2]) (rest := []) ⟨hx, hb, hml, hown, hts⟩ (metX7_isMonth l G y2) (cwS 1 hts gX7_setPrice_X7_isMonth rfl rfl rfl (by decide +kernel) ⟨Nat.le_of_ble_eq_true rfl, Nat.le_of_ble_eq_true rfl⟩) (pR_S hK (va_P_nil _ _ _)) rfl rfl hl.1 rfl (lv_room (Nat.le_of_ble_eq_true rfl)) dX7_setPrice_9 ⟨Nat.zero_le _, Nat.zero_le _⟩) (fun r_4 hr_5 => ?_)
    subst hr_5
    refine nb_if_eq (B := isMonM y2) (tgt := 25) hx hb dX7_setPrice_12 (by decide) (fun c_6 => ?_) (fun c_6 => ?_)
    · refine lv_iconst (v := (-1)) hx hb dX7_setPrice_25 (by decide) ?_
      have hed : (mSPok a y1 y2 y3) = false := by simp [mSPf, mSPok, c_3, c_6]
      have hP9 : va_P G.1 vwCl (mcells G md (cond (mSPok a y1 y2 y3) (mSPa a y1 y2 y3) a) (cond (mSPok a y1 y2 y3) (edP pa a np) pa) (cond (mSPok a y1 y2 y3) (kp8 np) np) tb ty aw iw qu up lo su kn ik im fo) s.heap := by rw [hed]; exact hP
      exact W.iret (v := (-1)) hx hb hr (fun t ht hW => ⟨⟨_, (), rfl, (by simp [mSPf, mSPok, c_3, c_6]), bM_end ht hP9⟩, hS.F ht⟩) hS.2.2 dX7_setPrice_26
    · refine lv_iload_n hx hb dX7_setPrice_15 rfl (lv_at hl 3 rfl) ?_
      refine lv_iconst (v := nI 0) hx hb dX7_setPrice_16 (by decide) ?_
      refine lv_ldc (v := nI 99999) hx hb hown (hts (.constant RX7 55 (99999)) (by decide +kernel)) dX7_setPrice_17 ?_
      refine cr_i (va_runS (As := [.int y3, .int (nI 0), .int (nI 99999)]) (rest := []) ⟨hx, hb, hml, hown, hts⟩ (metX7_in l G y3 (nI 0) (nI 99999)) (cwS 3 hts gX7_setPrice_X7_in rfl rfl rfl (by decide +kernel) ⟨Nat.le_of_ble_eq_true rfl, Nat.le_of_ble_eq_true rfl⟩) (pR_S hK (va_P_nil _ _ _)) rfl rfl hl.1 rfl (lv_room (Nat.le_of_ble_eq_true rfl)) dX7_setPrice_19 ⟨Nat.zero_le _, Nat.zero_le _⟩) (fun r_7 hr_8 => ?_)
      subst hr_8
      refine nb_if_ne (B := inR y3 (nI 0) (nI 99999)) (tgt := 27) hx hb dX7_setPrice_22 (by decide) (fun c_9 => ?_) (fun c_9 => ?_)
      · obtain ⟨k1, hk1, rfl⟩ := isItM_nat hA.1 c_3
        obtain ⟨k2, hk2, rfl⟩ := isMon_nat ((isMonM_eq _).symm.trans c_6)
        have hit := hA.1.2
        have hl : lv_has ls 5 [(0, .ref (md 0)), (1, .int (nI k1)), (2, .int (nI k2)), (3, .int y3)] := hl
        refine lv_aload_n hx hb dX7_setPrice_27 rfl (lv_at hl 0 rfl) ?_
        refine cw_v (va_runV (As := []) (rest := []) ⟨hx, hb, hml, hown, hts⟩ (metX7_edit l G md a pa np tb ty aw iw qu up lo su kn ik im fo hn) (cwV 0 hts gX7_setPrice_X7_edit rfl rfl rfl (by decide +kernel) ⟨Nat.le_of_ble_eq_true rfl, Nat.le_of_ble_eq_true rfl⟩) (pM_V (w := mcells G md a pa np tb ty aw iw qu up lo su kn ik im fo) (q0 := 0) hK hP hD rfl rfl) rfl rfl hl.1 rfl (lv_room (Nat.le_of_ble_eq_true rfl)) dX7_setPrice_28 ⟨Nat.zero_le _, Nat.zero_le _⟩) hD hS (fun _ => rfl) (fun  u_10 H locs hw_11 hP hD hS => ?_)
        have hP : va_P G.1 vwCl ([(md 0, .inr (6, [.ref (md 1), .ref (md 2), .int (nI (kp8 np)), .ref (md 3), .int (nI ty), .int (nI aw), .int (bI iw), .ref (md 4), .float up, .float lo, .int (nI su), .ref (md 5), .ref (md 6), .ref (md 7), .float fo])), (md 1, .inl (G.2 0, 354, .inl a)), (md 2, .inl (G.2 0, 2832, .inl (edP pa a np))), (md 3, .inl (G.2 3, 60, .inl tb)), (md 4, .inl (G.2 0, 36, .inl qu)), (md 5, .inl (G.2 2, 288, .inr (.inr (.inl kn)))), (md 6, .inl (G.2 1, 288, .inl (fun jj => bI (ik jj)))), (md 7, .inl (G.2 1, 288, .inl (fun jj => bI (im jj))))]) H := hP
        have hD : va_D A ([(md 0, .inr (6, [.ref (md 1), .ref (md 2), .int (nI (kp8 np)), .ref (md 3), .int (nI ty), .int (nI aw), .int (bI iw), .ref (md 4), .float up, .float lo, .int (nI su), .ref (md 5), .ref (md 6), .ref (md 7), .float fo])), (md 1, .inl (G.2 0, 354, .inl a)), (md 2, .inl (G.2 0, 2832, .inl (edP pa a np))), (md 3, .inl (G.2 3, 60, .inl tb)), (md 4, .inl (G.2 0, 36, .inl qu)), (md 5, .inl (G.2 2, 288, .inr (.inr (.inl kn)))), (md 6, .inl (G.2 1, 288, .inl (fun jj => bI (ik jj)))), (md 7, .inl (G.2 1, 288, .inl (fun jj => bI (im jj))))]) := hD
        refine lv_aload_n hx hb dX7_setPrice_31 rfl (lv_at hl 0 rfl) ?_
        refine va_get (D := G.1) (ci := 6) (v := .ref (md 1)) (C := RX7) (T := TX7) (N := 15) hx hb hts (by decide +kernel) hown hK.1 hP 0 rfl rfl 0 (by decide) (hts (.fieldLink RX7 7 "PriceIndexCalculatorModel" "s" "[I") (by decide +kernel)) (fun _ h9 => h9) rfl dX7_setPrice_32 ?_
        refine lv_bipush (v := nI 66) hx hb dX7_setPrice_35 (by decide) ?_
        refine lv_bipush (v := nI 24) hx hb dX7_setPrice_37 (by decide) ?_
        refine lv_iload_n hx hb dX7_setPrice_39 rfl (lv_at hl 1 rfl) ?_
        refine n_mul hx hb dX7_setPrice_40 ?_
        refine n_add hx hb dX7_setPrice_41 ?_
        refine lv_iload_n hx hb dX7_setPrice_42 rfl (lv_at hl 2 rfl) ?_
        refine n_add hx hb dX7_setPrice_43 ?_
        refine n_iald hx hb hK.1 hP 1 0 rfl rfl (j := (66 + (24 * k1)) + k2) (by omega) (by omega) dX7_setPrice_44 ?_
        refine lv_istore (lv' := [(4, .int (a ((66 + (24 * k1)) + k2))), (0, .ref (md 0)), (1, .int (nI k1)), (2, .int (nI k2)), (3, .int y3)]) hx hb dX7_setPrice_45 hl (by decide) rfl (fun ls hl => ?_)
        refine lv_aload_n hx hb dX7_setPrice_47 rfl (lv_at hl 1 rfl) ?_
        refine va_get (D := G.1) (ci := 6) (v := .ref (md 1)) (C := RX7) (T := TX7) (N := 15) hx hb hts (by decide +kernel) hown hK.1 hP 0 rfl rfl 0 (by decide) (hts (.fieldLink RX7 7 "PriceIndexCalculatorModel" "s" "[I") (by decide +kernel)) (fun _ h9 => h9) rfl dX7_setPrice_48 ?_
        refine lv_bipush (v := nI 66) hx hb dX7_setPrice_51 (by decide) ?_
        refine lv_bipush (v := nI 24) hx hb dX7_setPrice_53 (by decide) ?_
        refine lv_iload_n hx hb dX7_setPrice_55 rfl (lv_at hl 2 rfl) ?_
        refine n_mul hx hb dX7_setPrice_56 ?_
        refine n_add hx hb dX7_setPrice_57 ?_
        refine lv_iload_n hx hb dX7_setPrice_58 rfl (lv_at hl 3 rfl) ?_
        refine n_add hx hb dX7_setPrice_59 ?_
        refine lv_iload_n hx hb dX7_setPrice_60 rfl (lv_at hl 4 rfl) ?_
        refine n_iast hx hb hK.1 hP hD hS 1 0 rfl rfl (j := (66 + (24 * k1)) + k2) (by omega) (by omega) dX7_setPrice_61 (fun H locs hP hD hS => ?_)
        have hP : va_P G.1 vwCl ([(md 0, .inr (6, [.ref (md 1), .ref (md 2), .int (nI (kp8 np)), .ref (md 3), .int (nI ty), .int (nI aw), .int (bI iw), .ref (md 4), .float up, .float lo, .int (nI su), .ref (md 5), .ref (md 6), .ref (md 7), .float fo])), (md 1, .inl (G.2 0, 354, .inl (upd a ((66 + (24 * k1)) + k2) y3))), (md 2, .inl (G.2 0, 2832, .inl (edP pa a np))), (md 3, .inl (G.2 3, 60, .inl tb)), (md 4, .inl (G.2 0, 36, .inl qu)), (md 5, .inl (G.2 2, 288, .inr (.inr (.inl kn)))), (md 6, .inl (G.2 1, 288, .inl (fun jj => bI (ik jj)))), (md 7, .inl (G.2 1, 288, .inl (fun jj => bI (im jj))))]) H := hP
        have hD : va_D A ([(md 0, .inr (6, [.ref (md 1), .ref (md 2), .int (nI (kp8 np)), .ref (md 3), .int (nI ty), .int (nI aw), .int (bI iw), .ref (md 4), .float up, .float lo, .int (nI su), .ref (md 5), .ref (md 6), .ref (md 7), .float fo])), (md 1, .inl (G.2 0, 354, .inl (upd a ((66 + (24 * k1)) + k2) y3))), (md 2, .inl (G.2 0, 2832, .inl (edP pa a np))), (md 3, .inl (G.2 3, 60, .inl tb)), (md 4, .inl (G.2 0, 36, .inl qu)), (md 5, .inl (G.2 2, 288, .inr (.inr (.inl kn)))), (md 6, .inl (G.2 1, 288, .inl (fun jj => bI (ik jj)))), (md 7, .inl (G.2 1, 288, .inl (fun jj => bI (im jj))))]) := hD
        refine lv_iload hx hb dX7_setPrice_62 (lv_at hl 0 rfl) ?_
        have hed : (mSPok a (nI k1) (nI k2) y3) = true := by simp [mSPf, mSPok, c_3, c_6, c_9, nC_nI (k := k1) (by omega), nC_nI (k := k2) (by omega)]
        have ea : (mSPa a (nI k1) (nI k2) y3) = upd a ((66 + (24 * k1)) + k2) y3 := by unfold mSPa; rw [nC_nI (k := k1) (by omega), nC_nI (k := k2) (by omega)]
        have hP9 : va_P G.1 vwCl (mcells G md (cond (mSPok a (nI k1) (nI k2) y3) (mSPa a (nI k1) (nI k2) y3) a) (cond (mSPok a (nI k1) (nI k2) y3) (edP pa a np) pa) (cond (mSPok a (nI k1) (nI k2) y3) (kp8 np) np) tb ty aw iw qu up lo su kn ik im fo) H := by rw [hed]; show va_P G.1 vwCl (mcells G md (mSPa a (nI k1) (nI k2) y3) (edP pa a np) (kp8 np) tb ty aw iw qu up lo su kn ik im fo) H; rw [ea]; exact hP
        exact W.iret (v := a ((66 + (24 * k1)) + k2)) hx hb hr (fun t ht hW => ⟨⟨_, (), rfl, (by simp [mSPf, mSPok, c_3, c_6, c_9, nC_nI (k := k1) (by omega), nC_nI (k := k2) (by omega)]), bM_end ht hP9⟩, hS.F ht⟩) hS.2.2 dX7_setPrice_64
      · refine lv_iconst (v := (-1)) hx hb dX7_setPrice_25 (by decide) ?_
        have hed : (mSPok a y1 y2 y3) = false := by simp [mSPf, mSPok, c_3, c_6, c_9]
        have hP9 : va_P G.1 vwCl (mcells G md (cond (mSPok a y1 y2 y3) (mSPa a y1 y2 y3) a) (cond (mSPok a y1 y2 y3) (edP pa a np) pa) (cond (mSPok a y1 y2 y3) (kp8 np) np) tb ty aw iw qu up lo su kn ik im fo) s.heap := by rw [hed]; exact hP
        exact W.iret (v := (-1)) hx hb hr (fun t ht hW => ⟨⟨_, (), rfl, (by simp [mSPf, mSPok, c_3, c_6, c_9]), bM_end ht hP9⟩, hS.F ht⟩) hS.2.2 dX7_setPrice_26
set_option maxHeartbeats 4000000 in
set_option maxRecDepth 100000 in
/-- Model.setWeight -/
theorem metX7_setWeight (l : Launch) (G : GG) (md : Nat → Nat) (a pa : Nat → Int32) (np : Nat) (tb : Nat → Int32) (ty aw : Nat) (iw : Bool) (qu : Nat → Int32) (up lo : UInt32) (su : Nat) (kn : Nat → UInt32) (ik im : Nat → Bool) (fo : UInt32) (hn : np ≤ 8) (hA : mWF a) (y1 y2 : Int32) : Met l yX7_setWeight wsX7_setWeight ({ frames := 3, cells := 0, slots := 0, locals := 90 }) (pM G (mcells G md a pa np tb ty aw iw qu up lo su kn ik im fo) [.ref (md 0), .int y1, .int y2]) (va_Qi (fun r (_ : Unit) => r = mSWf a y1 y2) (bM G (fun _ : Unit => mcells G md (cond (mSWok y1 y2) (upd a (0 + nC y1) y2) a) (cond (mSWok y1 y2) (edP pa a np) pa) (cond (mSWok y1 y2) (kp8 np) np) tb ty aw iw qu up lo su kn ik im fo)) (adr (mcells G md a pa np tb ty aw iw qu up lo su kn ik im fo))) 0 0 (adr (mcells G md a pa np tb ty aw iw qu up lo su kn ik im fo)) := by
  refine Met.ofW (cc := cX7_setWeight) (maxL := 4) (ret := (some .int)) (by decide) rfl ?_
  intro p e s m args below meth c s₁ B hml hv
  obtain ⟨rfl, hK, hP, hD0⟩ := hv
  have hx := B.exec
  have hb := B.bytes
  have hr := B.returns
  have hlocks := B.notSynchronized
  have hts := atoms_spec (ws := wsX7_setWeight) B.pre
  have hown : s.vm.findClass RX7 = some m.cls := findClass_of_methodNamed B.named
  have hD := hD0.own
  generalize hAe : adr (mcells G md a pa np tb ty aw iw qu up lo su kn ik im fo) = A at hD ⊢
  have hS : va_S A s.heap s.heap [] := va_S.rf
  have hl := lv_entry ([.ref (md 0), .int y1, .int y2]) (n := 4) (Nat.le_of_ble_eq_true rfl)
  rw [lg_entry_eq]
  generalize (lg_sl ([.ref (md 0), .int y1, .int y2]) ++ List.replicate (4 - (lg_sl ([.ref (md 0), .int y1, .int y2])).length) Slot.unset).toArray = ls at hl ⊢
  have hl : lv_has ls 4 [(0, .ref (md 0)), (1, .int y1), (2, .int y2)] := hl
  have hP : va_P G.1 vwCl ([(md 0, .inr (6, [.ref (md 1), .ref (md 2), .int (nI np), .ref (md 3), .int (nI ty), .int (nI aw), .int (bI iw), .ref (md 4), .float up, .float lo, .int (nI su), .ref (md 5), .ref (md 6), .ref (md 7), .float fo])), (md 1, .inl (G.2 0, 354, .inl a)), (md 2, .inl (G.2 0, 2832, .inl pa)), (md 3, .inl (G.2 3, 60, .inl tb)), (md 4, .inl (G.2 0, 36, .inl qu)), (md 5, .inl (G.2 2, 288, .inr (.inr (.inl kn)))), (md 6, .inl (G.2 1, 288, .inl (fun jj => bI (ik jj)))), (md 7, .inl (G.2 1, 288, .inl (fun jj => bI (im jj))))]) s.heap := hP
  have hD : va_D A ([(md 0, .inr (6, [.ref (md 1), .ref (md 2), .int (nI np), .ref (md 3), .int (nI ty), .int (nI aw), .int (bI iw), .ref (md 4), .float up, .float lo, .int (nI su), .ref (md 5), .ref (md 6), .ref (md 7), .float fo])), (md 1, .inl (G.2 0, 354, .inl a)), (md 2, .inl (G.2 0, 2832, .inl pa)), (md 3, .inl (G.2 3, 60, .inl tb)), (md 4, .inl (G.2 0, 36, .inl qu)), (md 5, .inl (G.2 2, 288, .inr (.inr (.inl kn)))), (md 6, .inl (G.2 1, 288, .inl (fun jj => bI (ik jj)))), (md 7, .inl (G.2 1, 288, .inl (fun jj => bI (im jj))))]) := hD
  have hC := hA.1
  have hit := hA.1.2
  refine lv_iload_n hx hb dX7_setWeight_0 rfl (lv_at hl 1 rfl) ?_
  refine cr_i (va_runS (As := [.int y1]) (rest := []) ⟨hx, hb, hml, hown, hts⟩ (metX7_isStratum l G y1) (cwS 1 hts gX7_setWeight_X7_isStratum rfl rfl rfl (by decide +kernel) ⟨Nat.le_of_ble_eq_true rfl, Nat.le_of_ble_eq_true rfl⟩) (pR_S hK (va_P_nil _ _ _)) rfl rfl hl.1 rfl (lv_room (Nat.le_of_ble_eq_true rfl)) dX7_setWeight_1 ⟨Nat.zero_le _, Nat.zero_le _⟩) (fun r_1 hr_2 => ?_)
  subst hr_2
  refine nb_if_eq (B := isStrM y1) (tgt := 17) hx hb dX7_setWeight_4 (by decide) (fun c_3 => ?_) (fun c_3 => ?_)
  · refine lv_iconst (v := (-1)) hx hb dX7_setWeight_17 (by decide) ?_
    have hed : (mSWok y1 y2) = false := by simp [mSWf, mSWok, c_3]
    have hP9 : va_P G.1 vwCl (mcells G md (cond (mSWok y1 y2) (upd a (0 + nC y1) y2) a) (cond (mSWok y1 y2) (edP pa a np) pa) (cond (mSWok y1 y2) (kp8 np) np) tb ty aw iw qu up lo su kn ik im fo) s.heap := by rw [hed]; exact hP
    exact W.iret (v := (-1)) hx hb hr (fun t ht hW => ⟨⟨_, (), rfl, (by simp [mSWf, mSWok, c_3]), bM_end ht hP9⟩, hS.F ht⟩) hS.2.2 dX7_setWeight_18
  · refine lv_iload_n hx hb dX7_setWeight_7 rfl (lv_at hl 2 rfl) ?_
    refine lv_iconst (v := nI 0) hx hb dX7_setWeight_8 (by decide) ?_
    refine lv_bipush (v := nI 100) hx hb dX7_setWeight_9 (by decide) ?_
    refine cr_i (va_runS (As := [.int y2, .int (nI 0), .int (nI 100)]) (rest := []) ⟨hx, hb, hml, hown, hts⟩ (metX7_in l G y2 (nI 0) (nI 100)) (cwS 3 hts gX7_setWeight_X7_in rfl rfl rfl (by decide +kernel) ⟨Nat.le_of_ble_eq_true rfl, Nat.le_of_ble_eq_true rfl⟩) (pR_S hK (va_P_nil _ _ _)) rfl rfl hl.1 rfl (lv_room (Nat.le_of_ble_eq_true rfl)) dX7_setWeight_11 ⟨Nat.zero_le _, Nat.zero_le _⟩) (fun r_4 hr_5 => ?_)
    subst hr_5
    refine nb_if_ne (B := inR y2 (nI 0) (nI 100)) (tgt := 19) hx hb dX7_setWeight_14 (by decide) (fun c_6 => ?_) (fun c_6 => ?_)
    · obtain ⟨k1, hk1, rfl⟩ := isStr_nat ((isStrM_eq _).symm.trans c_3)
      have hit := hA.1.2
      have hl : lv_has ls 4 [(0, .ref (md 0)), (1, .int (nI k1)), (2, .int y2)] := hl
      refine lv_aload_n hx hb dX7_setWeight_19 rfl (lv_at hl 0 rfl) ?_
      refine cw_v (va_runV (As := []) (rest := []) ⟨hx, hb, hml, hown, hts⟩ (metX7_edit l G md a pa np tb ty aw iw qu up lo su kn ik im fo hn) (cwV 0 hts gX7_setWeight_X7_edit rfl rfl rfl (by decide +kernel) ⟨Nat.le_of_ble_eq_true rfl, Nat.le_of_ble_eq_true rfl⟩) (pM_V (w := mcells G md a pa np tb ty aw iw qu up lo su kn ik im fo) (q0 := 0) hK hP hD rfl rfl) rfl rfl hl.1 rfl (lv_room (Nat.le_of_ble_eq_true rfl)) dX7_setWeight_20 ⟨Nat.zero_le _, Nat.zero_le _⟩) hD hS (fun _ => rfl) (fun  u_7 H locs hw_8 hP hD hS => ?_)
      have hP : va_P G.1 vwCl ([(md 0, .inr (6, [.ref (md 1), .ref (md 2), .int (nI (kp8 np)), .ref (md 3), .int (nI ty), .int (nI aw), .int (bI iw), .ref (md 4), .float up, .float lo, .int (nI su), .ref (md 5), .ref (md 6), .ref (md 7), .float fo])), (md 1, .inl (G.2 0, 354, .inl a)), (md 2, .inl (G.2 0, 2832, .inl (edP pa a np))), (md 3, .inl (G.2 3, 60, .inl tb)), (md 4, .inl (G.2 0, 36, .inl qu)), (md 5, .inl (G.2 2, 288, .inr (.inr (.inl kn)))), (md 6, .inl (G.2 1, 288, .inl (fun jj => bI (ik jj)))), (md 7, .inl (G.2 1, 288, .inl (fun jj => bI (im jj))))]) H := hP
      have hD : va_D A ([(md 0, .inr (6, [.ref (md 1), .ref (md 2), .int (nI (kp8 np)), .ref (md 3), .int (nI ty), .int (nI aw), .int (bI iw), .ref (md 4), .float up, .float lo, .int (nI su), .ref (md 5), .ref (md 6), .ref (md 7), .float fo])), (md 1, .inl (G.2 0, 354, .inl a)), (md 2, .inl (G.2 0, 2832, .inl (edP pa a np))), (md 3, .inl (G.2 3, 60, .inl tb)), (md 4, .inl (G.2 0, 36, .inl qu)), (md 5, .inl (G.2 2, 288, .inr (.inr (.inl kn)))), (md 6, .inl (G.2 1, 288, .inl (fun jj => bI (ik jj)))), (md 7, .inl (G.2 1, 288, .inl (fun jj => bI (im jj))))]) := hD
      refine lv_aload_n hx hb dX7_setWeight_23 rfl (lv_at hl 0 rfl) ?_
      refine va_get (D := G.1) (ci := 6) (v := .ref (md 1)) (C := RX7) (T := TX7) (N := 15) hx hb hts (by decide +kernel) hown hK.1 hP 0 rfl rfl 0 (by decide) (hts (.fieldLink RX7 7 "PriceIndexCalculatorModel" "s" "[I") (by decide +kernel)) (fun _ h9 => h9) rfl dX7_setWeight_24 ?_
      refine lv_iconst (v := nI 0) hx hb dX7_setWeight_27 (by decide) ?_
      refine lv_iload_n hx hb dX7_setWeight_28 rfl (lv_at hl 1 rfl) ?_
      refine n_add hx hb dX7_setWeight_29 ?_
      refine n_iald hx hb hK.1 hP 1 0 rfl rfl (j := 0 + k1) (by omega) (by omega) dX7_setWeight_30 ?_
      refine lv_istore_n (lv' := [(3, .int (a (0 + k1))), (0, .ref (md 0)), (1, .int (nI k1)), (2, .int y2)]) hx hb dX7_setWeight_31 rfl hl (by decide) rfl (fun ls hl => ?_)
      refine lv_aload_n hx hb dX7_setWeight_32 rfl (lv_at hl 1 rfl) ?_
      refine va_get (D := G.1) (ci := 6) (v := .ref (md 1)) (C := RX7) (T := TX7) (N := 15) hx hb hts (by decide +kernel) hown hK.1 hP 0 rfl rfl 0 (by decide) (hts (.fieldLink RX7 7 "PriceIndexCalculatorModel" "s" "[I") (by decide +kernel)) (fun _ h9 => h9) rfl dX7_setWeight_33 ?_
      refine lv_iconst (v := nI 0) hx hb dX7_setWeight_36 (by decide) ?_
      refine lv_iload_n hx hb dX7_setWeight_37 rfl (lv_at hl 2 rfl) ?_
      refine n_add hx hb dX7_setWeight_38 ?_
      refine lv_iload_n hx hb dX7_setWeight_39 rfl (lv_at hl 3 rfl) ?_
      refine n_iast hx hb hK.1 hP hD hS 1 0 rfl rfl (j := 0 + k1) (by omega) (by omega) dX7_setWeight_40 (fun H locs hP hD hS => ?_)
      have hP : va_P G.1 vwCl ([(md 0, .inr (6, [.ref (md 1), .ref (md 2), .int (nI (kp8 np)), .ref (md 3), .int (nI ty), .int (nI aw), .int (bI iw), .ref (md 4), .float up, .float lo, .int (nI su), .ref (md 5), .ref (md 6), .ref (md 7), .float fo])), (md 1, .inl (G.2 0, 354, .inl (upd a (0 + k1) y2))), (md 2, .inl (G.2 0, 2832, .inl (edP pa a np))), (md 3, .inl (G.2 3, 60, .inl tb)), (md 4, .inl (G.2 0, 36, .inl qu)), (md 5, .inl (G.2 2, 288, .inr (.inr (.inl kn)))), (md 6, .inl (G.2 1, 288, .inl (fun jj => bI (ik jj)))), (md 7, .inl (G.2 1, 288, .inl (fun jj => bI (im jj))))]) H := hP
      have hD : va_D A ([(md 0, .inr (6, [.ref (md 1), .ref (md 2), .int (nI (kp8 np)), .ref (md 3), .int (nI ty), .int (nI aw), .int (bI iw), .ref (md 4), .float up, .float lo, .int (nI su), .ref (md 5), .ref (md 6), .ref (md 7), .float fo])), (md 1, .inl (G.2 0, 354, .inl (upd a (0 + k1) y2))), (md 2, .inl (G.2 0, 2832, .inl (edP pa a np))), (md 3, .inl (G.2 3, 60, .inl tb)), (md 4, .inl (G.2 0, 36, .inl qu)), (md 5, .inl (G.2 2, 288, .inr (.inr (.inl kn)))), (md 6, .inl (G.2 1, 288, .inl (fun jj => bI (ik jj)))), (md 7, .inl (G.2 1, 288, .inl (fun jj => bI (im jj))))]) := hD
      refine lv_iload_n hx hb dX7_setWeight_41 rfl (lv_at hl 0 rfl) ?_
      have hed : (mSWok (nI k1) y2) = true := by simp [mSWf, mSWok, c_3, c_6, nC_nI (k := k1) (by omega)]
      have ea : (upd a (0 + nC (nI k1)) y2) = upd a (0 + k1) y2 := by rw [nC_nI (k := k1) (by omega)]
      have hP9 : va_P G.1 vwCl (mcells G md (cond (mSWok (nI k1) y2) (upd a (0 + nC (nI k1)) y2) a) (cond (mSWok (nI k1) y2) (edP pa a np) pa) (cond (mSWok (nI k1) y2) (kp8 np) np) tb ty aw iw qu up lo su kn ik im fo) H := by rw [hed]; show va_P G.1 vwCl (mcells G md (upd a (0 + nC (nI k1)) y2) (edP pa a np) (kp8 np) tb ty aw iw qu up lo su kn ik im fo) H; rw [ea]; exact hP
      exact W.iret (v := a (0 + k1)) hx hb hr (fun t ht hW => ⟨⟨_, (), rfl, (by simp [mSWf, mSWok, c_3, c_6, nC_nI (k := k1) (by omega)]), bM_end ht hP9⟩, hS.F ht⟩) hS.2.2 dX7_setWeight_42
    · refine lv_iconst (v := (-1)) hx hb dX7_setWeight_17 (by decide) ?_
      have hed : (mSWok y1 y2) = false := by simp [mSWf, mSWok, c_3, c_6]
      have hP9 : va_P G.1 vwCl (mcells G md (cond (mSWok y1 y2) (upd a (0 + nC y1) y2) a) (cond (mSWok y1 y2) (edP pa a np) pa) (cond (mSWok y1 y2) (kp8 np) np) tb ty aw iw qu up lo su kn ik im fo) s.heap := by rw [hed]; exact hP
      exact W.iret (v := (-1)) hx hb hr (fun t ht hW => ⟨⟨_, (), rfl, (by simp [mSWf, mSWok, c_3, c_6]), bM_end ht hP9⟩, hS.F ht⟩) hS.2.2 dX7_setWeight_18
set_option maxHeartbeats 4000000 in
set_option maxRecDepth 100000 in
/-- Model.setFormula -/
theorem metX7_setFormula (l : Launch) (G : GG) (md : Nat → Nat) (a pa : Nat → Int32) (np : Nat) (tb : Nat → Int32) (ty aw : Nat) (iw : Bool) (qu : Nat → Int32) (up lo : UInt32) (su : Nat) (kn : Nat → UInt32) (ik im : Nat → Bool) (fo : UInt32) (hn : np ≤ 8) (hA : mWF a) (y1 : Int32) : Met l yX7_setFormula wsX7_setFormula ({ frames := 3, cells := 0, slots := 0, locals := 90 }) (pM G (mcells G md a pa np tb ty aw iw qu up lo su kn ik im fo) [.ref (md 0), .int y1]) (va_Qi (fun r (_ : Unit) => r = mSFf a y1) (bM G (fun _ : Unit => mcells G md (cond (sfOK y1) (upd a 4 y1) a) (cond (sfOK y1) (edP pa a np) pa) (cond (sfOK y1) (kp8 np) np) tb ty aw iw qu up lo su kn ik im fo)) (adr (mcells G md a pa np tb ty aw iw qu up lo su kn ik im fo))) 0 0 (adr (mcells G md a pa np tb ty aw iw qu up lo su kn ik im fo)) := by
  refine Met.ofW (cc := cX7_setFormula) (maxL := 3) (ret := (some .int)) (by decide) rfl ?_
  intro p e s m args below meth c s₁ B hml hv
  obtain ⟨rfl, hK, hP, hD0⟩ := hv
  have hx := B.exec
  have hb := B.bytes
  have hr := B.returns
  have hlocks := B.notSynchronized
  have hts := atoms_spec (ws := wsX7_setFormula) B.pre
  have hown : s.vm.findClass RX7 = some m.cls := findClass_of_methodNamed B.named
  have hD := hD0.own
  generalize hAe : adr (mcells G md a pa np tb ty aw iw qu up lo su kn ik im fo) = A at hD ⊢
  have hS : va_S A s.heap s.heap [] := va_S.rf
  have hl := lv_entry ([.ref (md 0), .int y1]) (n := 3) (Nat.le_of_ble_eq_true rfl)
  rw [lg_entry_eq]
  generalize (lg_sl ([.ref (md 0), .int y1]) ++ List.replicate (3 - (lg_sl ([.ref (md 0), .int y1])).length) Slot.unset).toArray = ls at hl ⊢
  have hl : lv_has ls 3 [(0, .ref (md 0)), (1, .int y1)] := hl
  have hP : va_P G.1 vwCl ([(md 0, .inr (6, [.ref (md 1), .ref (md 2), .int (nI np), .ref (md 3), .int (nI ty), .int (nI aw), .int (bI iw), .ref (md 4), .float up, .float lo, .int (nI su), .ref (md 5), .ref (md 6), .ref (md 7), .float fo])), (md 1, .inl (G.2 0, 354, .inl a)), (md 2, .inl (G.2 0, 2832, .inl pa)), (md 3, .inl (G.2 3, 60, .inl tb)), (md 4, .inl (G.2 0, 36, .inl qu)), (md 5, .inl (G.2 2, 288, .inr (.inr (.inl kn)))), (md 6, .inl (G.2 1, 288, .inl (fun jj => bI (ik jj)))), (md 7, .inl (G.2 1, 288, .inl (fun jj => bI (im jj))))]) s.heap := hP
  have hD : va_D A ([(md 0, .inr (6, [.ref (md 1), .ref (md 2), .int (nI np), .ref (md 3), .int (nI ty), .int (nI aw), .int (bI iw), .ref (md 4), .float up, .float lo, .int (nI su), .ref (md 5), .ref (md 6), .ref (md 7), .float fo])), (md 1, .inl (G.2 0, 354, .inl a)), (md 2, .inl (G.2 0, 2832, .inl pa)), (md 3, .inl (G.2 3, 60, .inl tb)), (md 4, .inl (G.2 0, 36, .inl qu)), (md 5, .inl (G.2 2, 288, .inr (.inr (.inl kn)))), (md 6, .inl (G.2 1, 288, .inl (fun jj => bI (ik jj)))), (md 7, .inl (G.2 1, 288, .inl (fun jj => bI (im jj))))]) := hD
  have hC := hA.1
  have hit := hA.1.2
  refine lv_iload_n hx hb dX7_setFormula_0 rfl (lv_at hl 1 rfl) ?_
  refine lv_iconst (v := nI 0) hx hb dX7_setFormula_1 (by decide) ?_
  refine lv_iconst (v := nI 2) hx hb dX7_setFormula_2 (by decide) ?_
  refine cr_i (va_runS (As := [.int y1, .int (nI 0), .int (nI 2)]) (rest := []) ⟨hx, hb, hml, hown, hts⟩ (metX7_in l G y1 (nI 0) (nI 2)) (cwS 3 hts gX7_setFormula_X7_in rfl rfl rfl (by decide +kernel) ⟨Nat.le_of_ble_eq_true rfl, Nat.le_of_ble_eq_true rfl⟩) (pR_S hK (va_P_nil _ _ _)) rfl rfl hl.1 rfl (lv_room (Nat.le_of_ble_eq_true rfl)) dX7_setFormula_3 ⟨Nat.zero_le _, Nat.zero_le _⟩) (fun r_1 hr_2 => ?_)
  subst hr_2
  refine nb_if_ne (B := inR y1 (nI 0) (nI 2)) (tgt := 11) hx hb dX7_setFormula_6 (by decide) (fun c_3 => ?_) (fun c_3 => ?_)
  · refine lv_aload_n hx hb dX7_setFormula_11 rfl (lv_at hl 0 rfl) ?_
    refine cw_v (va_runV (As := []) (rest := []) ⟨hx, hb, hml, hown, hts⟩ (metX7_edit l G md a pa np tb ty aw iw qu up lo su kn ik im fo hn) (cwV 0 hts gX7_setFormula_X7_edit rfl rfl rfl (by decide +kernel) ⟨Nat.le_of_ble_eq_true rfl, Nat.le_of_ble_eq_true rfl⟩) (pM_V (w := mcells G md a pa np tb ty aw iw qu up lo su kn ik im fo) (q0 := 0) hK hP hD rfl rfl) rfl rfl hl.1 rfl (lv_room (Nat.le_of_ble_eq_true rfl)) dX7_setFormula_12 ⟨Nat.zero_le _, Nat.zero_le _⟩) hD hS (fun _ => rfl) (fun  u_4 H locs hw_5 hP hD hS => ?_)
    have hP : va_P G.1 vwCl ([(md 0, .inr (6, [.ref (md 1), .ref (md 2), .int (nI (kp8 np)), .ref (md 3), .int (nI ty), .int (nI aw), .int (bI iw), .ref (md 4), .float up, .float lo, .int (nI su), .ref (md 5), .ref (md 6), .ref (md 7), .float fo])), (md 1, .inl (G.2 0, 354, .inl a)), (md 2, .inl (G.2 0, 2832, .inl (edP pa a np))), (md 3, .inl (G.2 3, 60, .inl tb)), (md 4, .inl (G.2 0, 36, .inl qu)), (md 5, .inl (G.2 2, 288, .inr (.inr (.inl kn)))), (md 6, .inl (G.2 1, 288, .inl (fun jj => bI (ik jj)))), (md 7, .inl (G.2 1, 288, .inl (fun jj => bI (im jj))))]) H := hP
    have hD : va_D A ([(md 0, .inr (6, [.ref (md 1), .ref (md 2), .int (nI (kp8 np)), .ref (md 3), .int (nI ty), .int (nI aw), .int (bI iw), .ref (md 4), .float up, .float lo, .int (nI su), .ref (md 5), .ref (md 6), .ref (md 7), .float fo])), (md 1, .inl (G.2 0, 354, .inl a)), (md 2, .inl (G.2 0, 2832, .inl (edP pa a np))), (md 3, .inl (G.2 3, 60, .inl tb)), (md 4, .inl (G.2 0, 36, .inl qu)), (md 5, .inl (G.2 2, 288, .inr (.inr (.inl kn)))), (md 6, .inl (G.2 1, 288, .inl (fun jj => bI (ik jj)))), (md 7, .inl (G.2 1, 288, .inl (fun jj => bI (im jj))))]) := hD
    refine lv_aload_n hx hb dX7_setFormula_15 rfl (lv_at hl 0 rfl) ?_
    refine va_get (D := G.1) (ci := 6) (v := .ref (md 1)) (C := RX7) (T := TX7) (N := 15) hx hb hts (by decide +kernel) hown hK.1 hP 0 rfl rfl 0 (by decide) (hts (.fieldLink RX7 7 "PriceIndexCalculatorModel" "s" "[I") (by decide +kernel)) (fun _ h9 => h9) rfl dX7_setFormula_16 ?_
    refine lv_iconst (v := nI 4) hx hb dX7_setFormula_19 (by decide) ?_
    refine n_iald hx hb hK.1 hP 1 0 rfl rfl (j := 4) (by omega) (by omega) dX7_setFormula_20 ?_
    refine lv_istore_n (lv' := [(2, .int (a 4)), (0, .ref (md 0)), (1, .int y1)]) hx hb dX7_setFormula_21 rfl hl (by decide) rfl (fun ls hl => ?_)
    refine lv_aload_n hx hb dX7_setFormula_22 rfl (lv_at hl 1 rfl) ?_
    refine va_get (D := G.1) (ci := 6) (v := .ref (md 1)) (C := RX7) (T := TX7) (N := 15) hx hb hts (by decide +kernel) hown hK.1 hP 0 rfl rfl 0 (by decide) (hts (.fieldLink RX7 7 "PriceIndexCalculatorModel" "s" "[I") (by decide +kernel)) (fun _ h9 => h9) rfl dX7_setFormula_23 ?_
    refine lv_iconst (v := nI 4) hx hb dX7_setFormula_26 (by decide) ?_
    refine lv_iload_n hx hb dX7_setFormula_27 rfl (lv_at hl 2 rfl) ?_
    refine n_iast hx hb hK.1 hP hD hS 1 0 rfl rfl (j := 4) (by omega) (by omega) dX7_setFormula_28 (fun H locs hP hD hS => ?_)
    have hP : va_P G.1 vwCl ([(md 0, .inr (6, [.ref (md 1), .ref (md 2), .int (nI (kp8 np)), .ref (md 3), .int (nI ty), .int (nI aw), .int (bI iw), .ref (md 4), .float up, .float lo, .int (nI su), .ref (md 5), .ref (md 6), .ref (md 7), .float fo])), (md 1, .inl (G.2 0, 354, .inl (upd a 4 y1))), (md 2, .inl (G.2 0, 2832, .inl (edP pa a np))), (md 3, .inl (G.2 3, 60, .inl tb)), (md 4, .inl (G.2 0, 36, .inl qu)), (md 5, .inl (G.2 2, 288, .inr (.inr (.inl kn)))), (md 6, .inl (G.2 1, 288, .inl (fun jj => bI (ik jj)))), (md 7, .inl (G.2 1, 288, .inl (fun jj => bI (im jj))))]) H := hP
    have hD : va_D A ([(md 0, .inr (6, [.ref (md 1), .ref (md 2), .int (nI (kp8 np)), .ref (md 3), .int (nI ty), .int (nI aw), .int (bI iw), .ref (md 4), .float up, .float lo, .int (nI su), .ref (md 5), .ref (md 6), .ref (md 7), .float fo])), (md 1, .inl (G.2 0, 354, .inl (upd a 4 y1))), (md 2, .inl (G.2 0, 2832, .inl (edP pa a np))), (md 3, .inl (G.2 3, 60, .inl tb)), (md 4, .inl (G.2 0, 36, .inl qu)), (md 5, .inl (G.2 2, 288, .inr (.inr (.inl kn)))), (md 6, .inl (G.2 1, 288, .inl (fun jj => bI (ik jj)))), (md 7, .inl (G.2 1, 288, .inl (fun jj => bI (im jj))))]) := hD
    refine lv_iload_n hx hb dX7_setFormula_29 rfl (lv_at hl 0 rfl) ?_
    have hed : (sfOK y1) = true := by simp [mSFf, sfOK, c_3]
    have ea : (upd a 4 y1) = upd a 4 y1 := by rfl
    have hP9 : va_P G.1 vwCl (mcells G md (cond (sfOK y1) (upd a 4 y1) a) (cond (sfOK y1) (edP pa a np) pa) (cond (sfOK y1) (kp8 np) np) tb ty aw iw qu up lo su kn ik im fo) H := by rw [hed]; show va_P G.1 vwCl (mcells G md (upd a 4 y1) (edP pa a np) (kp8 np) tb ty aw iw qu up lo su kn ik im fo) H; rw [ea]; exact hP
    exact W.iret (v := a 4) hx hb hr (fun t ht hW => ⟨⟨_, (), rfl, (by simp [mSFf, sfOK, c_3]), bM_end ht hP9⟩, hS.F ht⟩) hS.2.2 dX7_setFormula_30
  · refine lv_iconst (v := (-1)) hx hb dX7_setFormula_9 (by decide) ?_
    have hed : (sfOK y1) = false := by simp [mSFf, sfOK, c_3]
    have hP9 : va_P G.1 vwCl (mcells G md (cond (sfOK y1) (upd a 4 y1) a) (cond (sfOK y1) (edP pa a np) pa) (cond (sfOK y1) (kp8 np) np) tb ty aw iw qu up lo su kn ik im fo) s.heap := by rw [hed]; exact hP
    exact W.iret (v := (-1)) hx hb hr (fun t ht hW => ⟨⟨_, (), rfl, (by simp [mSFf, sfOK, c_3]), bM_end ht hP9⟩, hS.F ht⟩) hS.2.2 dX7_setFormula_10
set_option maxHeartbeats 4000000 in
set_option maxRecDepth 100000 in
/-- Model.replaceItem -/
theorem metX7_replaceItem (l : Launch) (G : GG) (md : Nat → Nat) (a pa : Nat → Int32) (np : Nat) (tb : Nat → Int32) (ty aw : Nat) (iw : Bool) (qu : Nat → Int32) (up lo : UInt32) (su : Nat) (kn : Nat → UInt32) (ik im : Nat → Bool) (fo : UInt32) (hn : np ≤ 8) (hA : mWF a) (y1 y2 y3 : Int32) : Met l yX7_replaceItem wsX7_replaceItem ({ frames := 3, cells := 0, slots := 0, locals := 90 }) (pM G (mcells G md a pa np tb ty aw iw qu up lo su kn ik im fo) [.ref (md 0), .int y1, .int y2, .int y3]) (va_Qi (fun r (_ : Unit) => r = mRIf a y1 y2 y3) (bM G (fun _ : Unit => mcells G md (cond (mRIe a y1 y2 y3) (mRIa a (nC y1) (nC y2) (nC y3)) a) (cond (mRIe a y1 y2 y3) (edP pa a np) pa) (cond (mRIe a y1 y2 y3) (kp8 np) np) tb ty aw iw qu up lo su kn ik im fo)) (adr (mcells G md a pa np tb ty aw iw qu up lo su kn ik im fo))) 0 0 (adr (mcells G md a pa np tb ty aw iw qu up lo su kn ik im fo)) := by
  refine Met.ofW (cc := cX7_replaceItem) (maxL := 4) (ret := (some .int)) (by decide) rfl ?_
  intro p e s m args below meth c s₁ B hml hv
  obtain ⟨rfl, hK, hP, hD0⟩ := hv
  have hx := B.exec
  have hb := B.bytes
  have hr := B.returns
  have hlocks := B.notSynchronized
  have hts := atoms_spec (ws := wsX7_replaceItem) B.pre
  have hown : s.vm.findClass RX7 = some m.cls := findClass_of_methodNamed B.named
  have hD := hD0.own
  generalize hAe : adr (mcells G md a pa np tb ty aw iw qu up lo su kn ik im fo) = A at hD ⊢
  have hS : va_S A s.heap s.heap [] := va_S.rf
  have hl := lv_entry ([.ref (md 0), .int y1, .int y2, .int y3]) (n := 4) (Nat.le_of_ble_eq_true rfl)
  rw [lg_entry_eq]
  generalize (lg_sl ([.ref (md 0), .int y1, .int y2, .int y3]) ++ List.replicate (4 - (lg_sl ([.ref (md 0), .int y1, .int y2, .int y3])).length) Slot.unset).toArray = ls at hl ⊢
  have hl : lv_has ls 4 [(0, .ref (md 0)), (1, .int y1), (2, .int y2), (3, .int y3)] := hl
  have hP : va_P G.1 vwCl ([(md 0, .inr (6, [.ref (md 1), .ref (md 2), .int (nI np), .ref (md 3), .int (nI ty), .int (nI aw), .int (bI iw), .ref (md 4), .float up, .float lo, .int (nI su), .ref (md 5), .ref (md 6), .ref (md 7), .float fo])), (md 1, .inl (G.2 0, 354, .inl a)), (md 2, .inl (G.2 0, 2832, .inl pa)), (md 3, .inl (G.2 3, 60, .inl tb)), (md 4, .inl (G.2 0, 36, .inl qu)), (md 5, .inl (G.2 2, 288, .inr (.inr (.inl kn)))), (md 6, .inl (G.2 1, 288, .inl (fun jj => bI (ik jj)))), (md 7, .inl (G.2 1, 288, .inl (fun jj => bI (im jj))))]) s.heap := hP
  have hD : va_D A ([(md 0, .inr (6, [.ref (md 1), .ref (md 2), .int (nI np), .ref (md 3), .int (nI ty), .int (nI aw), .int (bI iw), .ref (md 4), .float up, .float lo, .int (nI su), .ref (md 5), .ref (md 6), .ref (md 7), .float fo])), (md 1, .inl (G.2 0, 354, .inl a)), (md 2, .inl (G.2 0, 2832, .inl pa)), (md 3, .inl (G.2 3, 60, .inl tb)), (md 4, .inl (G.2 0, 36, .inl qu)), (md 5, .inl (G.2 2, 288, .inr (.inr (.inl kn)))), (md 6, .inl (G.2 1, 288, .inl (fun jj => bI (ik jj)))), (md 7, .inl (G.2 1, 288, .inl (fun jj => bI (im jj))))]) := hD
  have hC := hA.1
  have hit := hA.1.2
  refine lv_aload_n hx hb dX7_replaceItem_0 rfl (lv_at hl 0 rfl) ?_
  refine lv_iload_n hx hb dX7_replaceItem_1 rfl (lv_at hl 1 rfl) ?_
  refine cr_i (va_runV (As := [.int y1]) (rest := []) ⟨hx, hb, hml, hown, hts⟩ (metX7_isItem l G md [.ref (md 2), .int (nI np), .ref (md 3), .int (nI ty), .int (nI aw), .int (bI iw), .ref (md 4), .float up, .float lo, .int (nI su), .ref (md 5), .ref (md 6), .ref (md 7), .float fo] a hA.1 y1) (cwV 1 hts gX7_replaceItem_X7_isItem rfl rfl rfl (by decide +kernel) ⟨Nat.le_of_ble_eq_true rfl, Nat.le_of_ble_eq_true rfl⟩) (pR_V (q0 := 0) hK (hP.sub (ws' := scells G md [.ref (md 2), .int (nI np), .ref (md 3), .int (nI ty), .int (nI aw), .int (bI iw), .ref (md 4), .float up, .float lo, .int (nI su), .ref (md 5), .ref (md 6), .ref (md 7), .float fo] a) [0, 1] rfl) rfl rfl) rfl rfl hl.1 rfl (lv_room (Nat.le_of_ble_eq_true rfl)) dX7_replaceItem_2 ⟨Nat.zero_le _, Nat.zero_le _⟩) (fun r_1 hr_2 => ?_)
  subst hr_2
  refine nb_if_eq (B := isItM a y1) (tgt := 28) hx hb dX7_replaceItem_5 (by decide) (fun c_3 => ?_) (fun c_3 => ?_)
  · refine lv_iconst (v := (-1)) hx hb dX7_replaceItem_28 (by decide) ?_
    have hed : (mRIe a y1 y2 y3) = false := by simp [mRIf, mRIe, mRIok, mRIa, c_3, mRIs]
    have hP9 : va_P G.1 vwCl (mcells G md (cond (mRIe a y1 y2 y3) (mRIa a (nC y1) (nC y2) (nC y3)) a) (cond (mRIe a y1 y2 y3) (edP pa a np) pa) (cond (mRIe a y1 y2 y3) (kp8 np) np) tb ty aw iw qu up lo su kn ik im fo) s.heap := by rw [hed]; exact hP
    exact W.iret (v := (-1)) hx hb hr (fun t ht hW => ⟨⟨_, (), rfl, (by simp [mRIf, mRIe, mRIok, mRIa, c_3, mRIs]), bM_end ht hP9⟩, hS.F ht⟩) hS.2.2 dX7_replaceItem_29
  · refine lv_aload_n hx hb dX7_replaceItem_8 rfl (lv_at hl 0 rfl) ?_
    refine lv_iload_n hx hb dX7_replaceItem_9 rfl (lv_at hl 2 rfl) ?_
    refine cr_i (va_runV (As := [.int y2]) (rest := []) ⟨hx, hb, hml, hown, hts⟩ (metX7_isItem l G md [.ref (md 2), .int (nI np), .ref (md 3), .int (nI ty), .int (nI aw), .int (bI iw), .ref (md 4), .float up, .float lo, .int (nI su), .ref (md 5), .ref (md 6), .ref (md 7), .float fo] a hA.1 y2) (cwV 1 hts gX7_replaceItem_X7_isItem rfl rfl rfl (by decide +kernel) ⟨Nat.le_of_ble_eq_true rfl, Nat.le_of_ble_eq_true rfl⟩) (pR_V (q0 := 0) hK (hP.sub (ws' := scells G md [.ref (md 2), .int (nI np), .ref (md 3), .int (nI ty), .int (nI aw), .int (bI iw), .ref (md 4), .float up, .float lo, .int (nI su), .ref (md 5), .ref (md 6), .ref (md 7), .float fo] a) [0, 1] rfl) rfl rfl) rfl rfl hl.1 rfl (lv_room (Nat.le_of_ble_eq_true rfl)) dX7_replaceItem_10 ⟨Nat.zero_le _, Nat.zero_le _⟩) (fun r_4 hr_5 => ?_)
    subst hr_5
    refine nb_if_eq (B := isItM a y2) (tgt := 28) hx hb dX7_replaceItem_13 (by decide) (fun c_6 => ?_) (fun c_6 => ?_)
    · refine lv_iconst (v := (-1)) hx hb dX7_replaceItem_28 (by decide) ?_
      have hed : (mRIe a y1 y2 y3) = false := by simp [mRIf, mRIe, mRIok, mRIa, c_3, c_6, mRIs]
      have hP9 : va_P G.1 vwCl (mcells G md (cond (mRIe a y1 y2 y3) (mRIa a (nC y1) (nC y2) (nC y3)) a) (cond (mRIe a y1 y2 y3) (edP pa a np) pa) (cond (mRIe a y1 y2 y3) (kp8 np) np) tb ty aw iw qu up lo su kn ik im fo) s.heap := by rw [hed]; exact hP
      exact W.iret (v := (-1)) hx hb hr (fun t ht hW => ⟨⟨_, (), rfl, (by simp [mRIf, mRIe, mRIok, mRIa, c_3, c_6, mRIs]), bM_end ht hP9⟩, hS.F ht⟩) hS.2.2 dX7_replaceItem_29
    · refine lv_iload_n hx hb dX7_replaceItem_16 rfl (lv_at hl 1 rfl) ?_
      refine lv_iload_n hx hb dX7_replaceItem_17 rfl (lv_at hl 2 rfl) ?_
      refine lv_icmp_eq (tgt := 28) hx hb dX7_replaceItem_18 (by decide) (fun c_7 => ?_) (fun c_7 => ?_)
      · refine lv_iconst (v := (-1)) hx hb dX7_replaceItem_28 (by decide) ?_
        have hed : (mRIe a y1 y2 y3) = false := by simp [mRIf, mRIe, mRIok, mRIa, c_3, c_6, c_7, mRIs]
        have hP9 : va_P G.1 vwCl (mcells G md (cond (mRIe a y1 y2 y3) (mRIa a (nC y1) (nC y2) (nC y3)) a) (cond (mRIe a y1 y2 y3) (edP pa a np) pa) (cond (mRIe a y1 y2 y3) (kp8 np) np) tb ty aw iw qu up lo su kn ik im fo) s.heap := by rw [hed]; exact hP
        exact W.iret (v := (-1)) hx hb hr (fun t ht hW => ⟨⟨_, (), rfl, (by simp [mRIf, mRIe, mRIok, mRIa, c_3, c_6, c_7, mRIs]), bM_end ht hP9⟩, hS.F ht⟩) hS.2.2 dX7_replaceItem_29
      · refine lv_iload_n hx hb dX7_replaceItem_21 rfl (lv_at hl 3 rfl) ?_
        refine cr_i (va_runS (As := [.int y3]) (rest := []) ⟨hx, hb, hml, hown, hts⟩ (metX7_isMonth l G y3) (cwS 1 hts gX7_replaceItem_X7_isMonth rfl rfl rfl (by decide +kernel) ⟨Nat.le_of_ble_eq_true rfl, Nat.le_of_ble_eq_true rfl⟩) (pR_S hK (va_P_nil _ _ _)) rfl rfl hl.1 rfl (lv_room (Nat.le_of_ble_eq_true rfl)) dX7_replaceItem_22 ⟨Nat.zero_le _, Nat.zero_le _⟩) (fun r_8 hr_9 => ?_)
        subst hr_9
        refine nb_if_ne (B := isMonM y3) (tgt := 30) hx hb dX7_replaceItem_25 (by decide) (fun c_10 => ?_) (fun c_10 => ?_)
        · obtain ⟨k1, hk1, rfl⟩ := isItM_nat hA.1 c_3
          obtain ⟨k2, hk2, rfl⟩ := isItM_nat hA.1 c_6
          obtain ⟨k3, hk3, rfl⟩ := isMon_nat ((isMonM_eq _).symm.trans c_10)
          have hit := hA.1.2
          have hl : lv_has ls 4 [(0, .ref (md 0)), (1, .int (nI k1)), (2, .int (nI k2)), (3, .int (nI k3))] := hl
          refine lv_aload_n hx hb dX7_replaceItem_30 rfl (lv_at hl 0 rfl) ?_
          refine va_get (D := G.1) (ci := 6) (v := .ref (md 1)) (C := RX7) (T := TX7) (N := 15) hx hb hts (by decide +kernel) hown hK.1 hP 0 rfl rfl 0 (by decide) (hts (.fieldLink RX7 7 "PriceIndexCalculatorModel" "s" "[I") (by decide +kernel)) (fun _ h9 => h9) rfl dX7_replaceItem_31 ?_
          refine lv_bipush (v := nI 6) hx hb dX7_replaceItem_34 (by decide) ?_
          refine lv_iload_n hx hb dX7_replaceItem_36 rfl (lv_at hl 1 rfl) ?_
          refine n_add hx hb dX7_replaceItem_37 ?_
          refine n_iald hx hb hK.1 hP 1 0 rfl rfl (j := 6 + k1) (by omega) (by omega) dX7_replaceItem_38 ?_
          refine lv_aload_n hx hb dX7_replaceItem_39 rfl (lv_at hl 0 rfl) ?_
          refine va_get (D := G.1) (ci := 6) (v := .ref (md 1)) (C := RX7) (T := TX7) (N := 15) hx hb hts (by decide +kernel) hown hK.1 hP 0 rfl rfl 0 (by decide) (hts (.fieldLink RX7 7 "PriceIndexCalculatorModel" "s" "[I") (by decide +kernel)) (fun _ h9 => h9) rfl dX7_replaceItem_40 ?_
          refine lv_bipush (v := nI 6) hx hb dX7_replaceItem_43 (by decide) ?_
          refine lv_iload_n hx hb dX7_replaceItem_45 rfl (lv_at hl 2 rfl) ?_
          refine n_add hx hb dX7_replaceItem_46 ?_
          refine n_iald hx hb hK.1 hP 1 0 rfl rfl (j := 6 + k2) (by omega) (by omega) dX7_replaceItem_47 ?_
          refine lv_icmp_ne (tgt := 85) hx hb dX7_replaceItem_48 (by decide) (fun c_11 => ?_) (fun c_11 => ?_)
          · refine lv_bipush (v := (-2)) hx hb dX7_replaceItem_85 (by decide) ?_
            have hed : (mRIe a (nI k1) (nI k2) (nI k3)) = false := by simp [mRIf, mRIe, mRIok, mRIa, c_3, c_6, c_7, c_10, c_11, nC_nI (k := k1) (by omega), nC_nI (k := k2) (by omega), nC_nI (k := k3) (by omega), mRIs]
            have hP9 : va_P G.1 vwCl (mcells G md (cond (mRIe a (nI k1) (nI k2) (nI k3)) (mRIa a (nC (nI k1)) (nC (nI k2)) (nC (nI k3))) a) (cond (mRIe a (nI k1) (nI k2) (nI k3)) (edP pa a np) pa) (cond (mRIe a (nI k1) (nI k2) (nI k3)) (kp8 np) np) tb ty aw iw qu up lo su kn ik im fo) s.heap := by rw [hed]; exact hP
            exact W.iret (v := (-2)) hx hb hr (fun t ht hW => ⟨⟨_, (), rfl, (by simp [mRIf, mRIe, mRIok, mRIa, c_3, c_6, c_7, c_10, c_11, nC_nI (k := k1) (by omega), nC_nI (k := k2) (by omega), nC_nI (k := k3) (by omega), mRIs]), bM_end ht hP9⟩, hS.F ht⟩) hS.2.2 dX7_replaceItem_87
          · refine lv_aload_n hx hb dX7_replaceItem_51 rfl (lv_at hl 0 rfl) ?_
            refine lv_iload_n hx hb dX7_replaceItem_52 rfl (lv_at hl 1 rfl) ?_
            refine cr_i (va_runV (As := [.int (nI k1)]) (rest := []) ⟨hx, hb, hml, hown, hts⟩ (metX7_takesPart l G md [.ref (md 2), .int (nI np), .ref (md 3), .int (nI ty), .int (nI aw), .int (bI iw), .ref (md 4), .float up, .float lo, .int (nI su), .ref (md 5), .ref (md 6), .ref (md 7), .float fo] a hA.1 k1 (by omega)) (cwV 1 hts gX7_replaceItem_X7_takesPart rfl rfl rfl (by decide +kernel) ⟨Nat.le_of_ble_eq_true rfl, Nat.le_of_ble_eq_true rfl⟩) (pR_V (q0 := 0) hK (hP.sub (ws' := scells G md [.ref (md 2), .int (nI np), .ref (md 3), .int (nI ty), .int (nI aw), .int (bI iw), .ref (md 4), .float up, .float lo, .int (nI su), .ref (md 5), .ref (md 6), .ref (md 7), .float fo] a) [0, 1] rfl) rfl rfl) rfl rfl hl.1 rfl (lv_room (Nat.le_of_ble_eq_true rfl)) dX7_replaceItem_53 ⟨Nat.zero_le _, Nat.zero_le _⟩) (fun r_12 hr_13 => ?_)
            subst hr_13
            refine nb_if_ne (B := tkP a k1) (tgt := 85) hx hb dX7_replaceItem_56 (by decide) (fun c_14 => ?_) (fun c_14 => ?_)
            · refine lv_bipush (v := (-2)) hx hb dX7_replaceItem_85 (by decide) ?_
              have hed : (mRIe a (nI k1) (nI k2) (nI k3)) = false := by simp [mRIf, mRIe, mRIok, mRIa, c_3, c_6, c_7, c_10, c_11, c_14, nC_nI (k := k1) (by omega), nC_nI (k := k2) (by omega), nC_nI (k := k3) (by omega), mRIs]
              have hP9 : va_P G.1 vwCl (mcells G md (cond (mRIe a (nI k1) (nI k2) (nI k3)) (mRIa a (nC (nI k1)) (nC (nI k2)) (nC (nI k3))) a) (cond (mRIe a (nI k1) (nI k2) (nI k3)) (edP pa a np) pa) (cond (mRIe a (nI k1) (nI k2) (nI k3)) (kp8 np) np) tb ty aw iw qu up lo su kn ik im fo) s.heap := by rw [hed]; exact hP
              exact W.iret (v := (-2)) hx hb hr (fun t ht hW => ⟨⟨_, (), rfl, (by simp [mRIf, mRIe, mRIok, mRIa, c_3, c_6, c_7, c_10, c_11, c_14, nC_nI (k := k1) (by omega), nC_nI (k := k2) (by omega), nC_nI (k := k3) (by omega), mRIs]), bM_end ht hP9⟩, hS.F ht⟩) hS.2.2 dX7_replaceItem_87
            · refine lv_aload_n hx hb dX7_replaceItem_59 rfl (lv_at hl 0 rfl) ?_
              refine lv_iload_n hx hb dX7_replaceItem_60 rfl (lv_at hl 2 rfl) ?_
              refine cr_i (va_runV (As := [.int (nI k2)]) (rest := []) ⟨hx, hb, hml, hown, hts⟩ (metX7_takesPart l G md [.ref (md 2), .int (nI np), .ref (md 3), .int (nI ty), .int (nI aw), .int (bI iw), .ref (md 4), .float up, .float lo, .int (nI su), .ref (md 5), .ref (md 6), .ref (md 7), .float fo] a hA.1 k2 (by omega)) (cwV 1 hts gX7_replaceItem_X7_takesPart rfl rfl rfl (by decide +kernel) ⟨Nat.le_of_ble_eq_true rfl, Nat.le_of_ble_eq_true rfl⟩) (pR_V (q0 := 0) hK (hP.sub (ws' := scells G md [.ref (md 2), .int (nI np), .ref (md 3), .int (nI ty), .int (nI aw), .int (bI iw), .ref (md 4), .float up, .float lo, .int (nI su), .ref (md 5), .ref (md 6), .ref (md 7), .float fo] a) [0, 1] rfl) rfl rfl) rfl rfl hl.1 rfl (lv_room (Nat.le_of_ble_eq_true rfl)) dX7_replaceItem_61 ⟨Nat.zero_le _, Nat.zero_le _⟩) (fun r_15 hr_16 => ?_)
              subst hr_16
              refine nb_if_ne (B := tkP a k2) (tgt := 85) hx hb dX7_replaceItem_64 (by decide) (fun c_17 => ?_) (fun c_17 => ?_)
              · refine lv_bipush (v := (-2)) hx hb dX7_replaceItem_85 (by decide) ?_
                have hed : (mRIe a (nI k1) (nI k2) (nI k3)) = false := by simp [mRIf, mRIe, mRIok, mRIa, c_3, c_6, c_7, c_10, c_11, c_14, c_17, nC_nI (k := k1) (by omega), nC_nI (k := k2) (by omega), nC_nI (k := k3) (by omega), mRIs]
                have hP9 : va_P G.1 vwCl (mcells G md (cond (mRIe a (nI k1) (nI k2) (nI k3)) (mRIa a (nC (nI k1)) (nC (nI k2)) (nC (nI k3))) a) (cond (mRIe a (nI k1) (nI k2) (nI k3)) (edP pa a np) pa) (cond (mRIe a (nI k1) (nI k2) (nI k3)) (kp8 np) np) tb ty aw iw qu up lo su kn ik im fo) s.heap := by rw [hed]; exact hP
                exact W.iret (v := (-2)) hx hb hr (fun t ht hW => ⟨⟨_, (), rfl, (by simp [mRIf, mRIe, mRIok, mRIa, c_3, c_6, c_7, c_10, c_11, c_14, c_17, nC_nI (k := k1) (by omega), nC_nI (k := k2) (by omega), nC_nI (k := k3) (by omega), mRIs]), bM_end ht hP9⟩, hS.F ht⟩) hS.2.2 dX7_replaceItem_87
              · refine lv_aload_n hx hb dX7_replaceItem_67 rfl (lv_at hl 0 rfl) ?_
                refine lv_iload_n hx hb dX7_replaceItem_68 rfl (lv_at hl 1 rfl) ?_
                refine lv_iload_n hx hb dX7_replaceItem_69 rfl (lv_at hl 3 rfl) ?_
                refine cr_i (va_runV (As := [.int (nI k1), .int (nI k3)]) (rest := []) ⟨hx, hb, hml, hown, hts⟩ (metX7_isObserved l G md [.ref (md 2), .int (nI np), .ref (md 3), .int (nI ty), .int (nI aw), .int (bI iw), .ref (md 4), .float up, .float lo, .int (nI su), .ref (md 5), .ref (md 6), .ref (md 7), .float fo] a  k1 k3 (by omega) (by omega)) (cwV 2 hts gX7_replaceItem_X7_isObserved rfl rfl rfl (by decide +kernel) ⟨Nat.le_of_ble_eq_true rfl, Nat.le_of_ble_eq_true rfl⟩) (pR_V (q0 := 0) hK (hP.sub (ws' := scells G md [.ref (md 2), .int (nI np), .ref (md 3), .int (nI ty), .int (nI aw), .int (bI iw), .ref (md 4), .float up, .float lo, .int (nI su), .ref (md 5), .ref (md 6), .ref (md 7), .float fo] a) [0, 1] rfl) rfl rfl) rfl rfl hl.1 rfl (lv_room (Nat.le_of_ble_eq_true rfl)) dX7_replaceItem_70 ⟨Nat.zero_le _, Nat.zero_le _⟩) (fun r_18 hr_19 => ?_)
                subst hr_19
                refine nb_if_eq (B := obM a k1 k3) (tgt := 85) hx hb dX7_replaceItem_73 (by decide) (fun c_20 => ?_) (fun c_20 => ?_)
                · refine lv_bipush (v := (-2)) hx hb dX7_replaceItem_85 (by decide) ?_
                  have hed : (mRIe a (nI k1) (nI k2) (nI k3)) = false := by simp [mRIf, mRIe, mRIok, mRIa, c_3, c_6, c_7, c_10, c_11, c_14, c_17, c_20, nC_nI (k := k1) (by omega), nC_nI (k := k2) (by omega), nC_nI (k := k3) (by omega), mRIs]
                  have hP9 : va_P G.1 vwCl (mcells G md (cond (mRIe a (nI k1) (nI k2) (nI k3)) (mRIa a (nC (nI k1)) (nC (nI k2)) (nC (nI k3))) a) (cond (mRIe a (nI k1) (nI k2) (nI k3)) (edP pa a np) pa) (cond (mRIe a (nI k1) (nI k2) (nI k3)) (kp8 np) np) tb ty aw iw qu up lo su kn ik im fo) s.heap := by rw [hed]; exact hP
                  exact W.iret (v := (-2)) hx hb hr (fun t ht hW => ⟨⟨_, (), rfl, (by simp [mRIf, mRIe, mRIok, mRIa, c_3, c_6, c_7, c_10, c_11, c_14, c_17, c_20, nC_nI (k := k1) (by omega), nC_nI (k := k2) (by omega), nC_nI (k := k3) (by omega), mRIs]), bM_end ht hP9⟩, hS.F ht⟩) hS.2.2 dX7_replaceItem_87
                · refine lv_aload_n hx hb dX7_replaceItem_76 rfl (lv_at hl 0 rfl) ?_
                  refine lv_iload_n hx hb dX7_replaceItem_77 rfl (lv_at hl 2 rfl) ?_
                  refine lv_iload_n hx hb dX7_replaceItem_78 rfl (lv_at hl 3 rfl) ?_
                  refine cr_i (va_runV (As := [.int (nI k2), .int (nI k3)]) (rest := []) ⟨hx, hb, hml, hown, hts⟩ (metX7_isObserved l G md [.ref (md 2), .int (nI np), .ref (md 3), .int (nI ty), .int (nI aw), .int (bI iw), .ref (md 4), .float up, .float lo, .int (nI su), .ref (md 5), .ref (md 6), .ref (md 7), .float fo] a  k2 k3 (by omega) (by omega)) (cwV 2 hts gX7_replaceItem_X7_isObserved rfl rfl rfl (by decide +kernel) ⟨Nat.le_of_ble_eq_true rfl, Nat.le_of_ble_eq_true rfl⟩) (pR_V (q0 := 0) hK (hP.sub (ws' := scells G md [.ref (md 2), .int (nI np), .ref (md 3), .int (nI ty), .int (nI aw), .int (bI iw), .ref (md 4), .float up, .float lo, .int (nI su), .ref (md 5), .ref (md 6), .ref (md 7), .float fo] a) [0, 1] rfl) rfl rfl) rfl rfl hl.1 rfl (lv_room (Nat.le_of_ble_eq_true rfl)) dX7_replaceItem_79 ⟨Nat.zero_le _, Nat.zero_le _⟩) (fun r_21 hr_22 => ?_)
                  subst hr_22
                  refine nb_if_ne (B := obM a k2 k3) (tgt := 88) hx hb dX7_replaceItem_82 (by decide) (fun c_23 => ?_) (fun c_23 => ?_)
                  · refine lv_aload_n hx hb dX7_replaceItem_88 rfl (lv_at hl 0 rfl) ?_
                    refine cw_v (va_runV (As := []) (rest := []) ⟨hx, hb, hml, hown, hts⟩ (metX7_edit l G md a pa np tb ty aw iw qu up lo su kn ik im fo hn) (cwV 0 hts gX7_replaceItem_X7_edit rfl rfl rfl (by decide +kernel) ⟨Nat.le_of_ble_eq_true rfl, Nat.le_of_ble_eq_true rfl⟩) (pM_V (w := mcells G md a pa np tb ty aw iw qu up lo su kn ik im fo) (q0 := 0) hK hP hD rfl rfl) rfl rfl hl.1 rfl (lv_room (Nat.le_of_ble_eq_true rfl)) dX7_replaceItem_89 ⟨Nat.zero_le _, Nat.zero_le _⟩) hD hS (fun _ => rfl) (fun  u_24 H locs hw_25 hP hD hS => ?_)
                    have hP : va_P G.1 vwCl ([(md 0, .inr (6, [.ref (md 1), .ref (md 2), .int (nI (kp8 np)), .ref (md 3), .int (nI ty), .int (nI aw), .int (bI iw), .ref (md 4), .float up, .float lo, .int (nI su), .ref (md 5), .ref (md 6), .ref (md 7), .float fo])), (md 1, .inl (G.2 0, 354, .inl a)), (md 2, .inl (G.2 0, 2832, .inl (edP pa a np))), (md 3, .inl (G.2 3, 60, .inl tb)), (md 4, .inl (G.2 0, 36, .inl qu)), (md 5, .inl (G.2 2, 288, .inr (.inr (.inl kn)))), (md 6, .inl (G.2 1, 288, .inl (fun jj => bI (ik jj)))), (md 7, .inl (G.2 1, 288, .inl (fun jj => bI (im jj))))]) H := hP
                    have hD : va_D A ([(md 0, .inr (6, [.ref (md 1), .ref (md 2), .int (nI (kp8 np)), .ref (md 3), .int (nI ty), .int (nI aw), .int (bI iw), .ref (md 4), .float up, .float lo, .int (nI su), .ref (md 5), .ref (md 6), .ref (md 7), .float fo])), (md 1, .inl (G.2 0, 354, .inl a)), (md 2, .inl (G.2 0, 2832, .inl (edP pa a np))), (md 3, .inl (G.2 3, 60, .inl tb)), (md 4, .inl (G.2 0, 36, .inl qu)), (md 5, .inl (G.2 2, 288, .inr (.inr (.inl kn)))), (md 6, .inl (G.2 1, 288, .inl (fun jj => bI (ik jj)))), (md 7, .inl (G.2 1, 288, .inl (fun jj => bI (im jj))))]) := hD
                    refine lv_aload_n hx hb dX7_replaceItem_92 rfl (lv_at hl 0 rfl) ?_
                    refine va_get (D := G.1) (ci := 6) (v := .ref (md 1)) (C := RX7) (T := TX7) (N := 15) hx hb hts (by decide +kernel) hown hK.1 hP 0 rfl rfl 0 (by decide) (hts (.fieldLink RX7 7 "PriceIndexCalculatorModel" "s" "[I") (by decide +kernel)) (fun _ h9 => h9) rfl dX7_replaceItem_93 ?_
                    refine lv_bipush (v := nI 42) hx hb dX7_replaceItem_96 (by decide) ?_
                    refine lv_iload_n hx hb dX7_replaceItem_98 rfl (lv_at hl 1 rfl) ?_
                    refine n_add hx hb dX7_replaceItem_99 ?_
                    refine lv_iload_n hx hb dX7_replaceItem_100 rfl (lv_at hl 2 rfl) ?_
                    refine n_iast hx hb hK.1 hP hD hS 1 0 rfl rfl (j := 42 + k1) (by omega) (by omega) dX7_replaceItem_101 (fun H locs hP hD hS => ?_)
                    have hP : va_P G.1 vwCl ([(md 0, .inr (6, [.ref (md 1), .ref (md 2), .int (nI (kp8 np)), .ref (md 3), .int (nI ty), .int (nI aw), .int (bI iw), .ref (md 4), .float up, .float lo, .int (nI su), .ref (md 5), .ref (md 6), .ref (md 7), .float fo])), (md 1, .inl (G.2 0, 354, .inl (upd a (42 + k1) (nI k2)))), (md 2, .inl (G.2 0, 2832, .inl (edP pa a np))), (md 3, .inl (G.2 3, 60, .inl tb)), (md 4, .inl (G.2 0, 36, .inl qu)), (md 5, .inl (G.2 2, 288, .inr (.inr (.inl kn)))), (md 6, .inl (G.2 1, 288, .inl (fun jj => bI (ik jj)))), (md 7, .inl (G.2 1, 288, .inl (fun jj => bI (im jj))))]) H := hP
                    have hD : va_D A ([(md 0, .inr (6, [.ref (md 1), .ref (md 2), .int (nI (kp8 np)), .ref (md 3), .int (nI ty), .int (nI aw), .int (bI iw), .ref (md 4), .float up, .float lo, .int (nI su), .ref (md 5), .ref (md 6), .ref (md 7), .float fo])), (md 1, .inl (G.2 0, 354, .inl (upd a (42 + k1) (nI k2)))), (md 2, .inl (G.2 0, 2832, .inl (edP pa a np))), (md 3, .inl (G.2 3, 60, .inl tb)), (md 4, .inl (G.2 0, 36, .inl qu)), (md 5, .inl (G.2 2, 288, .inr (.inr (.inl kn)))), (md 6, .inl (G.2 1, 288, .inl (fun jj => bI (ik jj)))), (md 7, .inl (G.2 1, 288, .inl (fun jj => bI (im jj))))]) := hD
                    refine lv_aload_n hx hb dX7_replaceItem_102 rfl (lv_at hl 0 rfl) ?_
                    refine va_get (D := G.1) (ci := 6) (v := .ref (md 1)) (C := RX7) (T := TX7) (N := 15) hx hb hts (by decide +kernel) hown hK.1 hP 0 rfl rfl 0 (by decide) (hts (.fieldLink RX7 7 "PriceIndexCalculatorModel" "s" "[I") (by decide +kernel)) (fun _ h9 => h9) rfl dX7_replaceItem_103 ?_
                    refine lv_bipush (v := nI 54) hx hb dX7_replaceItem_106 (by decide) ?_
                    refine lv_iload_n hx hb dX7_replaceItem_108 rfl (lv_at hl 1 rfl) ?_
                    refine n_add hx hb dX7_replaceItem_109 ?_
                    refine lv_iload_n hx hb dX7_replaceItem_110 rfl (lv_at hl 3 rfl) ?_
                    refine n_iast hx hb hK.1 hP hD hS 1 0 rfl rfl (j := 54 + k1) (by omega) (by omega) dX7_replaceItem_111 (fun H locs hP hD hS => ?_)
                    have hP : va_P G.1 vwCl ([(md 0, .inr (6, [.ref (md 1), .ref (md 2), .int (nI (kp8 np)), .ref (md 3), .int (nI ty), .int (nI aw), .int (bI iw), .ref (md 4), .float up, .float lo, .int (nI su), .ref (md 5), .ref (md 6), .ref (md 7), .float fo])), (md 1, .inl (G.2 0, 354, .inl (upd (upd a (42 + k1) (nI k2)) (54 + k1) (nI k3)))), (md 2, .inl (G.2 0, 2832, .inl (edP pa a np))), (md 3, .inl (G.2 3, 60, .inl tb)), (md 4, .inl (G.2 0, 36, .inl qu)), (md 5, .inl (G.2 2, 288, .inr (.inr (.inl kn)))), (md 6, .inl (G.2 1, 288, .inl (fun jj => bI (ik jj)))), (md 7, .inl (G.2 1, 288, .inl (fun jj => bI (im jj))))]) H := hP
                    have hD : va_D A ([(md 0, .inr (6, [.ref (md 1), .ref (md 2), .int (nI (kp8 np)), .ref (md 3), .int (nI ty), .int (nI aw), .int (bI iw), .ref (md 4), .float up, .float lo, .int (nI su), .ref (md 5), .ref (md 6), .ref (md 7), .float fo])), (md 1, .inl (G.2 0, 354, .inl (upd (upd a (42 + k1) (nI k2)) (54 + k1) (nI k3)))), (md 2, .inl (G.2 0, 2832, .inl (edP pa a np))), (md 3, .inl (G.2 3, 60, .inl tb)), (md 4, .inl (G.2 0, 36, .inl qu)), (md 5, .inl (G.2 2, 288, .inr (.inr (.inl kn)))), (md 6, .inl (G.2 1, 288, .inl (fun jj => bI (ik jj)))), (md 7, .inl (G.2 1, 288, .inl (fun jj => bI (im jj))))]) := hD
                    have hC2 : mC (mRIa a k1 k2 k3) := (mC_upd (mC_upd hC (by omega)).1 (by omega)).1
                    refine lv_aload_n hx hb dX7_replaceItem_112 rfl (lv_at hl 0 rfl) ?_
                    refine cr_i (va_runV (As := []) (rest := []) ⟨hx, hb, hml, hown, hts⟩ (metX7_replacements l G md [.ref (md 2), .int (nI (kp8 np)), .ref (md 3), .int (nI ty), .int (nI aw), .int (bI iw), .ref (md 4), .float up, .float lo, .int (nI su), .ref (md 5), .ref (md 6), .ref (md 7), .float fo] (upd (upd a (42 + k1) (nI k2)) (54 + k1) (nI k3)) hC2 ) (cwV 0 hts gX7_replaceItem_X7_replacements rfl rfl rfl (by decide +kernel) ⟨Nat.le_of_ble_eq_true rfl, Nat.le_of_ble_eq_true rfl⟩) (pR_V (q0 := 0) hK (hP.sub (ws' := scells G md [.ref (md 2), .int (nI (kp8 np)), .ref (md 3), .int (nI ty), .int (nI aw), .int (bI iw), .ref (md 4), .float up, .float lo, .int (nI su), .ref (md 5), .ref (md 6), .ref (md 7), .float fo] (upd (upd a (42 + k1) (nI k2)) (54 + k1) (nI k3))) [0, 1] rfl) rfl rfl) rfl rfl hl.1 rfl (lv_room (Nat.le_of_ble_eq_true rfl)) dX7_replaceItem_113 ⟨Nat.zero_le _, Nat.zero_le _⟩) (fun r_26 hr_27 => ?_)
                    subst hr_27
                    have hed : (mRIe a (nI k1) (nI k2) (nI k3)) = true := by simp [mRIf, mRIe, mRIok, mRIa, c_3, c_6, c_7, c_10, c_11, c_14, c_17, c_20, c_23, nC_nI (k := k1) (by omega), nC_nI (k := k2) (by omega), nC_nI (k := k3) (by omega), mRIs]
                    have ea : (mRIa a (nC (nI k1)) (nC (nI k2)) (nC (nI k3))) = upd (upd a (42 + k1) (nI k2)) (54 + k1) (nI k3) := by rw [nC_nI (k := k1) (by omega), nC_nI (k := k2) (by omega), nC_nI (k := k3) (by omega)]; rfl
                    have hP9 : va_P G.1 vwCl (mcells G md (cond (mRIe a (nI k1) (nI k2) (nI k3)) (mRIa a (nC (nI k1)) (nC (nI k2)) (nC (nI k3))) a) (cond (mRIe a (nI k1) (nI k2) (nI k3)) (edP pa a np) pa) (cond (mRIe a (nI k1) (nI k2) (nI k3)) (kp8 np) np) tb ty aw iw qu up lo su kn ik im fo) H := by rw [hed]; show va_P G.1 vwCl (mcells G md (mRIa a (nC (nI k1)) (nC (nI k2)) (nC (nI k3))) (edP pa a np) (kp8 np) tb ty aw iw qu up lo su kn ik im fo) H; rw [ea]; exact hP
                    exact W.iret (v := nI (rplN (upd (upd a (42 + k1) (nI k2)) (54 + k1) (nI k3)))) hx hb hr (fun t ht hW => ⟨⟨_, (), rfl, (by simp [mRIf, mRIe, mRIok, mRIa, c_3, c_6, c_7, c_10, c_11, c_14, c_17, c_20, c_23, nC_nI (k := k1) (by omega), nC_nI (k := k2) (by omega), nC_nI (k := k3) (by omega), mRIs]), bM_end ht hP9⟩, hS.F ht⟩) hS.2.2 dX7_replaceItem_116
                  · refine lv_bipush (v := (-2)) hx hb dX7_replaceItem_85 (by decide) ?_
                    have hed : (mRIe a (nI k1) (nI k2) (nI k3)) = false := by simp [mRIf, mRIe, mRIok, mRIa, c_3, c_6, c_7, c_10, c_11, c_14, c_17, c_20, c_23, nC_nI (k := k1) (by omega), nC_nI (k := k2) (by omega), nC_nI (k := k3) (by omega), mRIs]
                    have hP9 : va_P G.1 vwCl (mcells G md (cond (mRIe a (nI k1) (nI k2) (nI k3)) (mRIa a (nC (nI k1)) (nC (nI k2)) (nC (nI k3))) a) (cond (mRIe a (nI k1) (nI k2) (nI k3)) (edP pa a np) pa) (cond (mRIe a (nI k1) (nI k2) (nI k3)) (kp8 np) np) tb ty aw iw qu up lo su kn ik im fo) s.heap := by rw [hed]; exact hP
                    exact W.iret (v := (-2)) hx hb hr (fun t ht hW => ⟨⟨_, (), rfl, (by simp [mRIf, mRIe, mRIok, mRIa, c_3, c_6, c_7, c_10, c_11, c_14, c_17, c_20, c_23, nC_nI (k := k1) (by omega), nC_nI (k := k2) (by omega), nC_nI (k := k3) (by omega), mRIs]), bM_end ht hP9⟩, hS.F ht⟩) hS.2.2 dX7_replaceItem_87
        · refine lv_iconst (v := (-1)) hx hb dX7_replaceItem_28 (by decide) ?_
          have hed : (mRIe a y1 y2 y3) = false := by simp [mRIf, mRIe, mRIok, mRIa, c_3, c_6, c_7, c_10, mRIs]
          have hP9 : va_P G.1 vwCl (mcells G md (cond (mRIe a y1 y2 y3) (mRIa a (nC y1) (nC y2) (nC y3)) a) (cond (mRIe a y1 y2 y3) (edP pa a np) pa) (cond (mRIe a y1 y2 y3) (kp8 np) np) tb ty aw iw qu up lo su kn ik im fo) s.heap := by rw [hed]; exact hP
          exact W.iret (v := (-1)) hx hb hr (fun t ht hW => ⟨⟨_, (), rfl, (by simp [mRIf, mRIe, mRIok, mRIa, c_3, c_6, c_7, c_10, mRIs]), bM_end ht hP9⟩, hS.F ht⟩) hS.2.2 dX7_replaceItem_29
set_option maxHeartbeats 4000000 in
set_option maxRecDepth 100000 in
/-- Model.endReplacement -/
theorem metX7_endReplacement (l : Launch) (G : GG) (md : Nat → Nat) (a pa : Nat → Int32) (np : Nat) (tb : Nat → Int32) (ty aw : Nat) (iw : Bool) (qu : Nat → Int32) (up lo : UInt32) (su : Nat) (kn : Nat → UInt32) (ik im : Nat → Bool) (fo : UInt32) (hn : np ≤ 8) (hA : mWF a) (y1 : Int32) : Met l yX7_endReplacement wsX7_endReplacement ({ frames := 3, cells := 0, slots := 0, locals := 90 }) (pM G (mcells G md a pa np tb ty aw iw qu up lo su kn ik im fo) [.ref (md 0), .int y1]) (va_Qi (fun r (_ : Unit) => r = mERf a y1) (bM G (fun _ : Unit => mcells G md (cond (mERe a y1) (mERa a (nC y1)) a) (cond (mERe a y1) (edP pa a np) pa) (cond (mERe a y1) (kp8 np) np) tb ty aw iw qu up lo su kn ik im fo)) (adr (mcells G md a pa np tb ty aw iw qu up lo su kn ik im fo))) 0 0 (adr (mcells G md a pa np tb ty aw iw qu up lo su kn ik im fo)) := by
  refine Met.ofW (cc := cX7_endReplacement) (maxL := 3) (ret := (some .int)) (by decide) rfl ?_
  intro p e s m args below meth c s₁ B hml hv
  obtain ⟨rfl, hK, hP, hD0⟩ := hv
  have hx := B.exec
  have hb := B.bytes
  have hr := B.returns
  have hlocks := B.notSynchronized
  have hts := atoms_spec (ws := wsX7_endReplacement) B.pre
  have hown : s.vm.findClass RX7 = some m.cls := findClass_of_methodNamed B.named
  have hD := hD0.own
  generalize hAe : adr (mcells G md a pa np tb ty aw iw qu up lo su kn ik im fo) = A at hD ⊢
  have hS : va_S A s.heap s.heap [] := va_S.rf
  have hl := lv_entry ([.ref (md 0), .int y1]) (n := 3) (Nat.le_of_ble_eq_true rfl)
  rw [lg_entry_eq]
  generalize (lg_sl ([.ref (md 0), .int y1]) ++ List.replicate (3 - (lg_sl ([.ref (md 0), .int y1])).length) Slot.unset).toArray = ls at hl ⊢
  have hl : lv_has ls 3 [(0, .ref (md 0)), (1, .int y1)] := hl
  have hP : va_P G.1 vwCl ([(md 0, .inr (6, [.ref (md 1), .ref (md 2), .int (nI np), .ref (md 3), .int (nI ty), .int (nI aw), .int (bI iw), .ref (md 4), .float up, .float lo, .int (nI su), .ref (md 5), .ref (md 6), .ref (md 7), .float fo])), (md 1, .inl (G.2 0, 354, .inl a)), (md 2, .inl (G.2 0, 2832, .inl pa)), (md 3, .inl (G.2 3, 60, .inl tb)), (md 4, .inl (G.2 0, 36, .inl qu)), (md 5, .inl (G.2 2, 288, .inr (.inr (.inl kn)))), (md 6, .inl (G.2 1, 288, .inl (fun jj => bI (ik jj)))), (md 7, .inl (G.2 1, 288, .inl (fun jj => bI (im jj))))]) s.heap := hP
  have hD : va_D A ([(md 0, .inr (6, [.ref (md 1), .ref (md 2), .int (nI np), .ref (md 3), .int (nI ty), .int (nI aw), .int (bI iw), .ref (md 4), .float up, .float lo, .int (nI su), .ref (md 5), .ref (md 6), .ref (md 7), .float fo])), (md 1, .inl (G.2 0, 354, .inl a)), (md 2, .inl (G.2 0, 2832, .inl pa)), (md 3, .inl (G.2 3, 60, .inl tb)), (md 4, .inl (G.2 0, 36, .inl qu)), (md 5, .inl (G.2 2, 288, .inr (.inr (.inl kn)))), (md 6, .inl (G.2 1, 288, .inl (fun jj => bI (ik jj)))), (md 7, .inl (G.2 1, 288, .inl (fun jj => bI (im jj))))]) := hD
  have hC := hA.1
  have hit := hA.1.2
  refine lv_aload_n hx hb dX7_endReplacement_0 rfl (lv_at hl 0 rfl) ?_
  refine lv_iload_n hx hb dX7_endReplacement_1 rfl (lv_at hl 1 rfl) ?_
  refine cr_i (va_runV (As := [.int y1]) (rest := []) ⟨hx, hb, hml, hown, hts⟩ (metX7_isItem l G md [.ref (md 2), .int (nI np), .ref (md 3), .int (nI ty), .int (nI aw), .int (bI iw), .ref (md 4), .float up, .float lo, .int (nI su), .ref (md 5), .ref (md 6), .ref (md 7), .float fo] a hA.1 y1) (cwV 1 hts gX7_endReplacement_X7_isItem rfl rfl rfl (by decide +kernel) ⟨Nat.le_of_ble_eq_true rfl, Nat.le_of_ble_eq_true rfl⟩) (pR_V (q0 := 0) hK (hP.sub (ws' := scells G md [.ref (md 2), .int (nI np), .ref (md 3), .int (nI ty), .int (nI aw), .int (bI iw), .ref (md 4), .float up, .float lo, .int (nI su), .ref (md 5), .ref (md 6), .ref (md 7), .float fo] a) [0, 1] rfl) rfl rfl) rfl rfl hl.1 rfl (lv_room (Nat.le_of_ble_eq_true rfl)) dX7_endReplacement_2 ⟨Nat.zero_le _, Nat.zero_le _⟩) (fun r_1 hr_2 => ?_)
  subst hr_2
  refine nb_if_ne (B := isItM a y1) (tgt := 10) hx hb dX7_endReplacement_5 (by decide) (fun c_3 => ?_) (fun c_3 => ?_)
  · obtain ⟨k1, hk1, rfl⟩ := isItM_nat hA.1 c_3
    have hit := hA.1.2
    have hl : lv_has ls 3 [(0, .ref (md 0)), (1, .int (nI k1))] := hl
    refine lv_aload_n hx hb dX7_endReplacement_10 rfl (lv_at hl 0 rfl) ?_
    refine lv_iload_n hx hb dX7_endReplacement_11 rfl (lv_at hl 1 rfl) ?_
    refine cr_i (va_runV (As := [.int (nI k1)]) (rest := []) ⟨hx, hb, hml, hown, hts⟩ (metX7_takesPart l G md [.ref (md 2), .int (nI np), .ref (md 3), .int (nI ty), .int (nI aw), .int (bI iw), .ref (md 4), .float up, .float lo, .int (nI su), .ref (md 5), .ref (md 6), .ref (md 7), .float fo] a hA.1 k1 (by omega)) (cwV 1 hts gX7_endReplacement_X7_takesPart rfl rfl rfl (by decide +kernel) ⟨Nat.le_of_ble_eq_true rfl, Nat.le_of_ble_eq_true rfl⟩) (pR_V (q0 := 0) hK (hP.sub (ws' := scells G md [.ref (md 2), .int (nI np), .ref (md 3), .int (nI ty), .int (nI aw), .int (bI iw), .ref (md 4), .float up, .float lo, .int (nI su), .ref (md 5), .ref (md 6), .ref (md 7), .float fo] a) [0, 1] rfl) rfl rfl) rfl rfl hl.1 rfl (lv_room (Nat.le_of_ble_eq_true rfl)) dX7_endReplacement_12 ⟨Nat.zero_le _, Nat.zero_le _⟩) (fun r_4 hr_5 => ?_)
    subst hr_5
    refine nb_if_ne (B := tkP a k1) (tgt := 21) hx hb dX7_endReplacement_15 (by decide) (fun c_6 => ?_) (fun c_6 => ?_)
    · refine lv_aload_n hx hb dX7_endReplacement_21 rfl (lv_at hl 0 rfl) ?_
      refine cw_v (va_runV (As := []) (rest := []) ⟨hx, hb, hml, hown, hts⟩ (metX7_edit l G md a pa np tb ty aw iw qu up lo su kn ik im fo hn) (cwV 0 hts gX7_endReplacement_X7_edit rfl rfl rfl (by decide +kernel) ⟨Nat.le_of_ble_eq_true rfl, Nat.le_of_ble_eq_true rfl⟩) (pM_V (w := mcells G md a pa np tb ty aw iw qu up lo su kn ik im fo) (q0 := 0) hK hP hD rfl rfl) rfl rfl hl.1 rfl (lv_room (Nat.le_of_ble_eq_true rfl)) dX7_endReplacement_22 ⟨Nat.zero_le _, Nat.zero_le _⟩) hD hS (fun _ => rfl) (fun  u_7 H locs hw_8 hP hD hS => ?_)
      have hP : va_P G.1 vwCl ([(md 0, .inr (6, [.ref (md 1), .ref (md 2), .int (nI (kp8 np)), .ref (md 3), .int (nI ty), .int (nI aw), .int (bI iw), .ref (md 4), .float up, .float lo, .int (nI su), .ref (md 5), .ref (md 6), .ref (md 7), .float fo])), (md 1, .inl (G.2 0, 354, .inl a)), (md 2, .inl (G.2 0, 2832, .inl (edP pa a np))), (md 3, .inl (G.2 3, 60, .inl tb)), (md 4, .inl (G.2 0, 36, .inl qu)), (md 5, .inl (G.2 2, 288, .inr (.inr (.inl kn)))), (md 6, .inl (G.2 1, 288, .inl (fun jj => bI (ik jj)))), (md 7, .inl (G.2 1, 288, .inl (fun jj => bI (im jj))))]) H := hP
      have hD : va_D A ([(md 0, .inr (6, [.ref (md 1), .ref (md 2), .int (nI (kp8 np)), .ref (md 3), .int (nI ty), .int (nI aw), .int (bI iw), .ref (md 4), .float up, .float lo, .int (nI su), .ref (md 5), .ref (md 6), .ref (md 7), .float fo])), (md 1, .inl (G.2 0, 354, .inl a)), (md 2, .inl (G.2 0, 2832, .inl (edP pa a np))), (md 3, .inl (G.2 3, 60, .inl tb)), (md 4, .inl (G.2 0, 36, .inl qu)), (md 5, .inl (G.2 2, 288, .inr (.inr (.inl kn)))), (md 6, .inl (G.2 1, 288, .inl (fun jj => bI (ik jj)))), (md 7, .inl (G.2 1, 288, .inl (fun jj => bI (im jj))))]) := hD
      refine lv_aload_n hx hb dX7_endReplacement_25 rfl (lv_at hl 0 rfl) ?_
      refine va_get (D := G.1) (ci := 6) (v := .ref (md 1)) (C := RX7) (T := TX7) (N := 15) hx hb hts (by decide +kernel) hown hK.1 hP 0 rfl rfl 0 (by decide) (hts (.fieldLink RX7 7 "PriceIndexCalculatorModel" "s" "[I") (by decide +kernel)) (fun _ h9 => h9) rfl dX7_endReplacement_26 ?_
      refine lv_bipush (v := nI 42) hx hb dX7_endReplacement_29 (by decide) ?_
      refine lv_iload_n hx hb dX7_endReplacement_31 rfl (lv_at hl 1 rfl) ?_
      refine n_add hx hb dX7_endReplacement_32 ?_
      refine n_iald hx hb hK.1 hP 1 0 rfl rfl (j := 42 + k1) (by omega) (by omega) dX7_endReplacement_33 ?_
      refine lv_bipush (v := (-9)) hx hb dX7_endReplacement_34 (by decide) ?_
      refine lv_icmp_ne (tgt := 47) hx hb dX7_endReplacement_36 (by decide) (fun c_9 => ?_) (fun c_9 => ?_)
      · refine lv_iload_n hx hb dX7_endReplacement_47 rfl (lv_at hl 1 rfl) ?_
        have eo : mERo a k1 = k1 := by simp [mERo, c_9]
        have ho : mERo a k1 < 12 := by omega
        refine eq_i (y := nI (mERo a k1)) (by rw [eo]) ?_
        refine lv_istore_n (lv' := [(2, .int (nI (mERo a k1))), (0, .ref (md 0)), (1, .int (nI k1))]) hx hb dX7_endReplacement_48 rfl hl (by decide) rfl (fun ls hl => ?_)
        refine lv_aload_n hx hb dX7_endReplacement_49 rfl (lv_at hl 1 rfl) ?_
        refine va_get (D := G.1) (ci := 6) (v := .ref (md 1)) (C := RX7) (T := TX7) (N := 15) hx hb hts (by decide +kernel) hown hK.1 hP 0 rfl rfl 0 (by decide) (hts (.fieldLink RX7 7 "PriceIndexCalculatorModel" "s" "[I") (by decide +kernel)) (fun _ h9 => h9) rfl dX7_endReplacement_50 ?_
        refine lv_bipush (v := nI 42) hx hb dX7_endReplacement_53 (by decide) ?_
        refine lv_iload_n hx hb dX7_endReplacement_55 rfl (lv_at hl 0 rfl) ?_
        refine n_add hx hb dX7_endReplacement_56 ?_
        refine lv_bipush (v := (-9)) hx hb dX7_endReplacement_57 (by decide) ?_
        refine n_iast hx hb hK.1 hP hD hS 1 0 rfl rfl (j := 42 + (mERo a k1)) (by omega) (by omega) dX7_endReplacement_59 (fun H locs hP hD hS => ?_)
        have hP : va_P G.1 vwCl ([(md 0, .inr (6, [.ref (md 1), .ref (md 2), .int (nI (kp8 np)), .ref (md 3), .int (nI ty), .int (nI aw), .int (bI iw), .ref (md 4), .float up, .float lo, .int (nI su), .ref (md 5), .ref (md 6), .ref (md 7), .float fo])), (md 1, .inl (G.2 0, 354, .inl (upd a (42 + (mERo a k1)) (-9)))), (md 2, .inl (G.2 0, 2832, .inl (edP pa a np))), (md 3, .inl (G.2 3, 60, .inl tb)), (md 4, .inl (G.2 0, 36, .inl qu)), (md 5, .inl (G.2 2, 288, .inr (.inr (.inl kn)))), (md 6, .inl (G.2 1, 288, .inl (fun jj => bI (ik jj)))), (md 7, .inl (G.2 1, 288, .inl (fun jj => bI (im jj))))]) H := hP
        have hD : va_D A ([(md 0, .inr (6, [.ref (md 1), .ref (md 2), .int (nI (kp8 np)), .ref (md 3), .int (nI ty), .int (nI aw), .int (bI iw), .ref (md 4), .float up, .float lo, .int (nI su), .ref (md 5), .ref (md 6), .ref (md 7), .float fo])), (md 1, .inl (G.2 0, 354, .inl (upd a (42 + (mERo a k1)) (-9)))), (md 2, .inl (G.2 0, 2832, .inl (edP pa a np))), (md 3, .inl (G.2 3, 60, .inl tb)), (md 4, .inl (G.2 0, 36, .inl qu)), (md 5, .inl (G.2 2, 288, .inr (.inr (.inl kn)))), (md 6, .inl (G.2 1, 288, .inl (fun jj => bI (ik jj)))), (md 7, .inl (G.2 1, 288, .inl (fun jj => bI (im jj))))]) := hD
        refine lv_aload_n hx hb dX7_endReplacement_60 rfl (lv_at hl 1 rfl) ?_
        refine va_get (D := G.1) (ci := 6) (v := .ref (md 1)) (C := RX7) (T := TX7) (N := 15) hx hb hts (by decide +kernel) hown hK.1 hP 0 rfl rfl 0 (by decide) (hts (.fieldLink RX7 7 "PriceIndexCalculatorModel" "s" "[I") (by decide +kernel)) (fun _ h9 => h9) rfl dX7_endReplacement_61 ?_
        refine lv_bipush (v := nI 54) hx hb dX7_endReplacement_64 (by decide) ?_
        refine lv_iload_n hx hb dX7_endReplacement_66 rfl (lv_at hl 0 rfl) ?_
        refine n_add hx hb dX7_endReplacement_67 ?_
        refine lv_iconst (v := nI 0) hx hb dX7_endReplacement_68 (by decide) ?_
        refine n_iast hx hb hK.1 hP hD hS 1 0 rfl rfl (j := 54 + (mERo a k1)) (by omega) (by omega) dX7_endReplacement_69 (fun H locs hP hD hS => ?_)
        have hP : va_P G.1 vwCl ([(md 0, .inr (6, [.ref (md 1), .ref (md 2), .int (nI (kp8 np)), .ref (md 3), .int (nI ty), .int (nI aw), .int (bI iw), .ref (md 4), .float up, .float lo, .int (nI su), .ref (md 5), .ref (md 6), .ref (md 7), .float fo])), (md 1, .inl (G.2 0, 354, .inl (upd (upd a (42 + (mERo a k1)) (-9)) (54 + (mERo a k1)) (nI 0)))), (md 2, .inl (G.2 0, 2832, .inl (edP pa a np))), (md 3, .inl (G.2 3, 60, .inl tb)), (md 4, .inl (G.2 0, 36, .inl qu)), (md 5, .inl (G.2 2, 288, .inr (.inr (.inl kn)))), (md 6, .inl (G.2 1, 288, .inl (fun jj => bI (ik jj)))), (md 7, .inl (G.2 1, 288, .inl (fun jj => bI (im jj))))]) H := hP
        have hD : va_D A ([(md 0, .inr (6, [.ref (md 1), .ref (md 2), .int (nI (kp8 np)), .ref (md 3), .int (nI ty), .int (nI aw), .int (bI iw), .ref (md 4), .float up, .float lo, .int (nI su), .ref (md 5), .ref (md 6), .ref (md 7), .float fo])), (md 1, .inl (G.2 0, 354, .inl (upd (upd a (42 + (mERo a k1)) (-9)) (54 + (mERo a k1)) (nI 0)))), (md 2, .inl (G.2 0, 2832, .inl (edP pa a np))), (md 3, .inl (G.2 3, 60, .inl tb)), (md 4, .inl (G.2 0, 36, .inl qu)), (md 5, .inl (G.2 2, 288, .inr (.inr (.inl kn)))), (md 6, .inl (G.2 1, 288, .inl (fun jj => bI (ik jj)))), (md 7, .inl (G.2 1, 288, .inl (fun jj => bI (im jj))))]) := hD
        have hC2 : mC (mERa a k1) := (mC_upd (mC_upd hC (by omega)).1 (by omega)).1
        refine lv_aload_n hx hb dX7_endReplacement_70 rfl (lv_at hl 1 rfl) ?_
        refine cr_i (va_runV (As := []) (rest := []) ⟨hx, hb, hml, hown, hts⟩ (metX7_replacements l G md [.ref (md 2), .int (nI (kp8 np)), .ref (md 3), .int (nI ty), .int (nI aw), .int (bI iw), .ref (md 4), .float up, .float lo, .int (nI su), .ref (md 5), .ref (md 6), .ref (md 7), .float fo] (upd (upd a (42 + (mERo a k1)) (-9)) (54 + (mERo a k1)) (nI 0)) hC2 ) (cwV 0 hts gX7_endReplacement_X7_replacements rfl rfl rfl (by decide +kernel) ⟨Nat.le_of_ble_eq_true rfl, Nat.le_of_ble_eq_true rfl⟩) (pR_V (q0 := 0) hK (hP.sub (ws' := scells G md [.ref (md 2), .int (nI (kp8 np)), .ref (md 3), .int (nI ty), .int (nI aw), .int (bI iw), .ref (md 4), .float up, .float lo, .int (nI su), .ref (md 5), .ref (md 6), .ref (md 7), .float fo] (upd (upd a (42 + (mERo a k1)) (-9)) (54 + (mERo a k1)) (nI 0))) [0, 1] rfl) rfl rfl) rfl rfl hl.1 rfl (lv_room (Nat.le_of_ble_eq_true rfl)) dX7_endReplacement_71 ⟨Nat.zero_le _, Nat.zero_le _⟩) (fun r_10 hr_11 => ?_)
        subst hr_11
        have hed : (mERe a (nI k1)) = true := by simp [mERf, mERe, c_3, c_6, c_9, nC_nI (k := k1) (by omega), mERa]
        have ea : (mERa a (nC (nI k1))) = upd (upd a (42 + (mERo a k1)) (-9)) (54 + (mERo a k1)) (nI 0) := by rw [nC_nI (k := k1) (by omega)]; rfl
        have hP9 : va_P G.1 vwCl (mcells G md (cond (mERe a (nI k1)) (mERa a (nC (nI k1))) a) (cond (mERe a (nI k1)) (edP pa a np) pa) (cond (mERe a (nI k1)) (kp8 np) np) tb ty aw iw qu up lo su kn ik im fo) H := by rw [hed]; show va_P G.1 vwCl (mcells G md (mERa a (nC (nI k1))) (edP pa a np) (kp8 np) tb ty aw iw qu up lo su kn ik im fo) H; rw [ea]; exact hP
        exact W.iret (v := nI (rplN (upd (upd a (42 + (mERo a k1)) (-9)) (54 + (mERo a k1)) (nI 0)))) hx hb hr (fun t ht hW => ⟨⟨_, (), rfl, (by simp [mERf, mERe, c_3, c_6, c_9, nC_nI (k := k1) (by omega), mERa]), bM_end ht hP9⟩, hS.F ht⟩) hS.2.2 dX7_endReplacement_74
      · refine lv_aload_n hx hb dX7_endReplacement_39 rfl (lv_at hl 0 rfl) ?_
        refine lv_iload_n hx hb dX7_endReplacement_40 rfl (lv_at hl 1 rfl) ?_
        refine cr_i (va_runV (As := [.int (nI k1)]) (rest := []) ⟨hx, hb, hml, hown, hts⟩ (metX7_oldOf l G md [.ref (md 2), .int (nI (kp8 np)), .ref (md 3), .int (nI ty), .int (nI aw), .int (bI iw), .ref (md 4), .float up, .float lo, .int (nI su), .ref (md 5), .ref (md 6), .ref (md 7), .float fo] a hA.1 k1 (by omega)) (cwV 1 hts gX7_endReplacement_X7_oldOf rfl rfl rfl (by decide +kernel) ⟨Nat.le_of_ble_eq_true rfl, Nat.le_of_ble_eq_true rfl⟩) (pR_V (q0 := 0) hK (hP.sub (ws' := scells G md [.ref (md 2), .int (nI (kp8 np)), .ref (md 3), .int (nI ty), .int (nI aw), .int (bI iw), .ref (md 4), .float up, .float lo, .int (nI su), .ref (md 5), .ref (md 6), .ref (md 7), .float fo] a) [0, 1] rfl) rfl rfl) rfl rfl hl.1 rfl (lv_room (Nat.le_of_ble_eq_true rfl)) dX7_endReplacement_41 ⟨Nat.zero_le _, Nat.zero_le _⟩) (fun r_12 hr_13 => ?_)
        subst hr_13
        refine lv_goto (tgt := 48) hx hb dX7_endReplacement_44 (by decide) ?_
        have hne : olI a (nI k1) ≠ -9 := by intro q; have := c_6; simp [tkP, c_9, q] at this
        obtain ⟨g1, g2, g3⟩ := olI_ne hne
        have eo : mERo a k1 = olD a (nI k1) := by simp [mERo, c_9]
        have ho : mERo a k1 < 12 := by omega
        refine eq_i (y := nI (mERo a k1)) (by rw [eo]; exact g1) ?_
        refine lv_istore_n (lv' := [(2, .int (nI (mERo a k1))), (0, .ref (md 0)), (1, .int (nI k1))]) hx hb dX7_endReplacement_48 rfl hl (by decide) rfl (fun ls hl => ?_)
        refine lv_aload_n hx hb dX7_endReplacement_49 rfl (lv_at hl 1 rfl) ?_
        refine va_get (D := G.1) (ci := 6) (v := .ref (md 1)) (C := RX7) (T := TX7) (N := 15) hx hb hts (by decide +kernel) hown hK.1 hP 0 rfl rfl 0 (by decide) (hts (.fieldLink RX7 7 "PriceIndexCalculatorModel" "s" "[I") (by decide +kernel)) (fun _ h9 => h9) rfl dX7_endReplacement_50 ?_
        refine lv_bipush (v := nI 42) hx hb dX7_endReplacement_53 (by decide) ?_
        refine lv_iload_n hx hb dX7_endReplacement_55 rfl (lv_at hl 0 rfl) ?_
        refine n_add hx hb dX7_endReplacement_56 ?_
        refine lv_bipush (v := (-9)) hx hb dX7_endReplacement_57 (by decide) ?_
        refine n_iast hx hb hK.1 hP hD hS 1 0 rfl rfl (j := 42 + (mERo a k1)) (by omega) (by omega) dX7_endReplacement_59 (fun H locs hP hD hS => ?_)
        have hP : va_P G.1 vwCl ([(md 0, .inr (6, [.ref (md 1), .ref (md 2), .int (nI (kp8 np)), .ref (md 3), .int (nI ty), .int (nI aw), .int (bI iw), .ref (md 4), .float up, .float lo, .int (nI su), .ref (md 5), .ref (md 6), .ref (md 7), .float fo])), (md 1, .inl (G.2 0, 354, .inl (upd a (42 + (mERo a k1)) (-9)))), (md 2, .inl (G.2 0, 2832, .inl (edP pa a np))), (md 3, .inl (G.2 3, 60, .inl tb)), (md 4, .inl (G.2 0, 36, .inl qu)), (md 5, .inl (G.2 2, 288, .inr (.inr (.inl kn)))), (md 6, .inl (G.2 1, 288, .inl (fun jj => bI (ik jj)))), (md 7, .inl (G.2 1, 288, .inl (fun jj => bI (im jj))))]) H := hP
        have hD : va_D A ([(md 0, .inr (6, [.ref (md 1), .ref (md 2), .int (nI (kp8 np)), .ref (md 3), .int (nI ty), .int (nI aw), .int (bI iw), .ref (md 4), .float up, .float lo, .int (nI su), .ref (md 5), .ref (md 6), .ref (md 7), .float fo])), (md 1, .inl (G.2 0, 354, .inl (upd a (42 + (mERo a k1)) (-9)))), (md 2, .inl (G.2 0, 2832, .inl (edP pa a np))), (md 3, .inl (G.2 3, 60, .inl tb)), (md 4, .inl (G.2 0, 36, .inl qu)), (md 5, .inl (G.2 2, 288, .inr (.inr (.inl kn)))), (md 6, .inl (G.2 1, 288, .inl (fun jj => bI (ik jj)))), (md 7, .inl (G.2 1, 288, .inl (fun jj => bI (im jj))))]) := hD
        refine lv_aload_n hx hb dX7_endReplacement_60 rfl (lv_at hl 1 rfl) ?_
        refine va_get (D := G.1) (ci := 6) (v := .ref (md 1)) (C := RX7) (T := TX7) (N := 15) hx hb hts (by decide +kernel) hown hK.1 hP 0 rfl rfl 0 (by decide) (hts (.fieldLink RX7 7 "PriceIndexCalculatorModel" "s" "[I") (by decide +kernel)) (fun _ h9 => h9) rfl dX7_endReplacement_61 ?_
        refine lv_bipush (v := nI 54) hx hb dX7_endReplacement_64 (by decide) ?_
        refine lv_iload_n hx hb dX7_endReplacement_66 rfl (lv_at hl 0 rfl) ?_
        refine n_add hx hb dX7_endReplacement_67 ?_
        refine lv_iconst (v := nI 0) hx hb dX7_endReplacement_68 (by decide) ?_
        refine n_iast hx hb hK.1 hP hD hS 1 0 rfl rfl (j := 54 + (mERo a k1)) (by omega) (by omega) dX7_endReplacement_69 (fun H locs hP hD hS => ?_)
        have hP : va_P G.1 vwCl ([(md 0, .inr (6, [.ref (md 1), .ref (md 2), .int (nI (kp8 np)), .ref (md 3), .int (nI ty), .int (nI aw), .int (bI iw), .ref (md 4), .float up, .float lo, .int (nI su), .ref (md 5), .ref (md 6), .ref (md 7), .float fo])), (md 1, .inl (G.2 0, 354, .inl (upd (upd a (42 + (mERo a k1)) (-9)) (54 + (mERo a k1)) (nI 0)))), (md 2, .inl (G.2 0, 2832, .inl (edP pa a np))), (md 3, .inl (G.2 3, 60, .inl tb)), (md 4, .inl (G.2 0, 36, .inl qu)), (md 5, .inl (G.2 2, 288, .inr (.inr (.inl kn)))), (md 6, .inl (G.2 1, 288, .inl (fun jj => bI (ik jj)))), (md 7, .inl (G.2 1, 288, .inl (fun jj => bI (im jj))))]) H := hP
        have hD : va_D A ([(md 0, .inr (6, [.ref (md 1), .ref (md 2), .int (nI (kp8 np)), .ref (md 3), .int (nI ty), .int (nI aw), .int (bI iw), .ref (md 4), .float up, .float lo, .int (nI su), .ref (md 5), .ref (md 6), .ref (md 7), .float fo])), (md 1, .inl (G.2 0, 354, .inl (upd (upd a (42 + (mERo a k1)) (-9)) (54 + (mERo a k1)) (nI 0)))), (md 2, .inl (G.2 0, 2832, .inl (edP pa a np))), (md 3, .inl (G.2 3, 60, .inl tb)), (md 4, .inl (G.2 0, 36, .inl qu)), (md 5, .inl (G.2 2, 288, .inr (.inr (.inl kn)))), (md 6, .inl (G.2 1, 288, .inl (fun jj => bI (ik jj)))), (md 7, .inl (G.2 1, 288, .inl (fun jj => bI (im jj))))]) := hD
        have hC2 : mC (mERa a k1) := (mC_upd (mC_upd hC (by omega)).1 (by omega)).1
        refine lv_aload_n hx hb dX7_endReplacement_70 rfl (lv_at hl 1 rfl) ?_
        refine cr_i (va_runV (As := []) (rest := []) ⟨hx, hb, hml, hown, hts⟩ (metX7_replacements l G md [.ref (md 2), .int (nI (kp8 np)), .ref (md 3), .int (nI ty), .int (nI aw), .int (bI iw), .ref (md 4), .float up, .float lo, .int (nI su), .ref (md 5), .ref (md 6), .ref (md 7), .float fo] (upd (upd a (42 + (mERo a k1)) (-9)) (54 + (mERo a k1)) (nI 0)) hC2 ) (cwV 0 hts gX7_endReplacement_X7_replacements rfl rfl rfl (by decide +kernel) ⟨Nat.le_of_ble_eq_true rfl, Nat.le_of_ble_eq_true rfl⟩) (pR_V (q0 := 0) hK (hP.sub (ws' := scells G md [.ref (md 2), .int (nI (kp8 np)), .ref (md 3), .int (nI ty), .int (nI aw), .int (bI iw), .ref (md 4), .float up, .float lo, .int (nI su), .ref (md 5), .ref (md 6), .ref (md 7), .float fo] (upd (upd a (42 + (mERo a k1)) (-9)) (54 + (mERo a k1)) (nI 0))) [0, 1] rfl) rfl rfl) rfl rfl hl.1 rfl (lv_room (Nat.le_of_ble_eq_true rfl)) dX7_endReplacement_71 ⟨Nat.zero_le _, Nat.zero_le _⟩) (fun r_14 hr_15 => ?_)
        subst hr_15
        have hed : (mERe a (nI k1)) = true := by simp [mERf, mERe, c_3, c_6, c_9, nC_nI (k := k1) (by omega), mERa]
        have ea : (mERa a (nC (nI k1))) = upd (upd a (42 + (mERo a k1)) (-9)) (54 + (mERo a k1)) (nI 0) := by rw [nC_nI (k := k1) (by omega)]; rfl
        have hP9 : va_P G.1 vwCl (mcells G md (cond (mERe a (nI k1)) (mERa a (nC (nI k1))) a) (cond (mERe a (nI k1)) (edP pa a np) pa) (cond (mERe a (nI k1)) (kp8 np) np) tb ty aw iw qu up lo su kn ik im fo) H := by rw [hed]; show va_P G.1 vwCl (mcells G md (mERa a (nC (nI k1))) (edP pa a np) (kp8 np) tb ty aw iw qu up lo su kn ik im fo) H; rw [ea]; exact hP
        exact W.iret (v := nI (rplN (upd (upd a (42 + (mERo a k1)) (-9)) (54 + (mERo a k1)) (nI 0)))) hx hb hr (fun t ht hW => ⟨⟨_, (), rfl, (by simp [mERf, mERe, c_3, c_6, c_9, nC_nI (k := k1) (by omega), mERa]), bM_end ht hP9⟩, hS.F ht⟩) hS.2.2 dX7_endReplacement_74
    · refine lv_bipush (v := (-2)) hx hb dX7_endReplacement_18 (by decide) ?_
      have hed : (mERe a (nI k1)) = false := by simp [mERf, mERe, c_3, c_6, nC_nI (k := k1) (by omega), mERa]
      have hP9 : va_P G.1 vwCl (mcells G md (cond (mERe a (nI k1)) (mERa a (nC (nI k1))) a) (cond (mERe a (nI k1)) (edP pa a np) pa) (cond (mERe a (nI k1)) (kp8 np) np) tb ty aw iw qu up lo su kn ik im fo) s.heap := by rw [hed]; exact hP
      exact W.iret (v := (-2)) hx hb hr (fun t ht hW => ⟨⟨_, (), rfl, (by simp [mERf, mERe, c_3, c_6, nC_nI (k := k1) (by omega), mERa]), bM_end ht hP9⟩, hS.F ht⟩) hS.2.2 dX7_endReplacement_20
  · refine lv_iconst (v := (-1)) hx hb dX7_endReplacement_8 (by decide) ?_
    have hed : (mERe a y1) = false := by simp [mERf, mERe, c_3, mERa]
    have hP9 : va_P G.1 vwCl (mcells G md (cond (mERe a y1) (mERa a (nC y1)) a) (cond (mERe a y1) (edP pa a np) pa) (cond (mERe a y1) (kp8 np) np) tb ty aw iw qu up lo su kn ik im fo) s.heap := by rw [hed]; exact hP
    exact W.iret (v := (-1)) hx hb hr (fun t ht hW => ⟨⟨_, (), rfl, (by simp [mERf, mERe, c_3, mERa]), bM_end ht hP9⟩, hS.F ht⟩) hS.2.2 dX7_endReplacement_9
set_option maxHeartbeats 4000000 in
set_option maxRecDepth 100000 in
/-- Model.appendCharacter -/
theorem metX7_appendCharacter (l : Launch) (G : GG) (md : Nat → Nat) (a pa : Nat → Int32) (np : Nat) (tb : Nat → Int32) (ty aw : Nat) (iw : Bool) (qu : Nat → Int32) (up lo : UInt32) (su : Nat) (kn : Nat → UInt32) (ik im : Nat → Bool) (fo : UInt32) (hty : ty ≤ 60) (y1 : Int32) : Met l yX7_appendCharacter wsX7_appendCharacter ({ frames := 1, cells := 0, slots := 0, locals := 30 }) (pM G (mcells G md a pa np tb ty aw iw qu up lo su kn ik im fo) [.ref (md 0), .int y1]) (va_Qi (fun r (_ : Unit) => r = mAPf ty y1) (bM G (fun _ : Unit => mcells G md a pa np (cond (mAPe ty y1) (upd tb ty (y1.toInt8.toInt32)) tb) (cond (mAPe ty y1) (ty + 1) ty) aw iw qu up lo su kn ik im fo)) (adr (mcells G md a pa np tb ty aw iw qu up lo su kn ik im fo))) 0 0 (adr (mcells G md a pa np tb ty aw iw qu up lo su kn ik im fo)) := by
  refine Met.ofW (cc := cX7_appendCharacter) (maxL := 2) (ret := (some .int)) (by decide) rfl ?_
  intro p e s m args below meth c s₁ B hml hv
  obtain ⟨rfl, hK, hP, hD0⟩ := hv
  have hx := B.exec
  have hb := B.bytes
  have hr := B.returns
  have hlocks := B.notSynchronized
  have hts := atoms_spec (ws := wsX7_appendCharacter) B.pre
  have hown : s.vm.findClass RX7 = some m.cls := findClass_of_methodNamed B.named
  have hD := hD0.own
  generalize hAe : adr (mcells G md a pa np tb ty aw iw qu up lo su kn ik im fo) = A at hD ⊢
  have hS : va_S A s.heap s.heap [] := va_S.rf
  have hl := lv_entry ([.ref (md 0), .int y1]) (n := 2) (Nat.le_of_ble_eq_true rfl)
  rw [lg_entry_eq]
  generalize (lg_sl ([.ref (md 0), .int y1]) ++ List.replicate (2 - (lg_sl ([.ref (md 0), .int y1])).length) Slot.unset).toArray = ls at hl ⊢
  have hl : lv_has ls 2 [(0, .ref (md 0)), (1, .int y1)] := hl
  have hP : va_P G.1 vwCl ([(md 0, .inr (6, [.ref (md 1), .ref (md 2), .int (nI np), .ref (md 3), .int (nI ty), .int (nI aw), .int (bI iw), .ref (md 4), .float up, .float lo, .int (nI su), .ref (md 5), .ref (md 6), .ref (md 7), .float fo])), (md 1, .inl (G.2 0, 354, .inl a)), (md 2, .inl (G.2 0, 2832, .inl pa)), (md 3, .inl (G.2 3, 60, .inl tb)), (md 4, .inl (G.2 0, 36, .inl qu)), (md 5, .inl (G.2 2, 288, .inr (.inr (.inl kn)))), (md 6, .inl (G.2 1, 288, .inl (fun jj => bI (ik jj)))), (md 7, .inl (G.2 1, 288, .inl (fun jj => bI (im jj))))]) s.heap := hP
  have hD : va_D A ([(md 0, .inr (6, [.ref (md 1), .ref (md 2), .int (nI np), .ref (md 3), .int (nI ty), .int (nI aw), .int (bI iw), .ref (md 4), .float up, .float lo, .int (nI su), .ref (md 5), .ref (md 6), .ref (md 7), .float fo])), (md 1, .inl (G.2 0, 354, .inl a)), (md 2, .inl (G.2 0, 2832, .inl pa)), (md 3, .inl (G.2 3, 60, .inl tb)), (md 4, .inl (G.2 0, 36, .inl qu)), (md 5, .inl (G.2 2, 288, .inr (.inr (.inl kn)))), (md 6, .inl (G.2 1, 288, .inl (fun jj => bI (ik jj)))), (md 7, .inl (G.2 1, 288, .inl (fun jj => bI (im jj))))]) := hD
  refine lv_iload_n hx hb dX7_appendCharacter_0 rfl (lv_at hl 1 rfl) ?_
  refine lv_iconst (v := nI 0) hx hb dX7_appendCharacter_1 (by decide) ?_
  refine lv_sipush (v := nI 255) hx hb dX7_appendCharacter_2 (by decide) ?_
  refine cr_i (va_runS (As := [.int y1, .int (nI 0), .int (nI 255)]) (rest := []) ⟨hx, hb, hml, hown, hts⟩ (metX7_in l G y1 (nI 0) (nI 255)) (cwS 3 hts gX7_appendCharacter_X7_in rfl rfl rfl (by decide +kernel) ⟨Nat.le_of_ble_eq_true rfl, Nat.le_of_ble_eq_true rfl⟩) (pR_S hK (va_P_nil _ _ _)) rfl rfl hl.1 rfl (lv_room (Nat.le_of_ble_eq_true rfl)) dX7_appendCharacter_5 ⟨Nat.zero_le _, Nat.zero_le _⟩) (fun r_1 hr_2 => ?_)
  subst hr_2
  refine nb_if_ne (B := inR y1 (nI 0) (nI 255)) (tgt := 13) hx hb dX7_appendCharacter_8 (by decide) (fun c_3 => ?_) (fun c_3 => ?_)
  · refine lv_aload_n hx hb dX7_appendCharacter_13 rfl (lv_at hl 0 rfl) ?_
    refine va_get (D := G.1) (ci := 6) (v := .int (nI ty)) (C := RX7) (T := TX7) (N := 15) hx hb hts (by decide +kernel) hown hK.1 hP 0 rfl rfl 4 (by decide) (hts (.fieldLink RX7 56 "PriceIndexCalculatorModel" "typed" "I") (by decide +kernel)) (fun _ h9 => h9) rfl dX7_appendCharacter_14 ?_
    refine lv_bipush (v := nI 60) hx hb dX7_appendCharacter_17 (by decide) ?_
    refine n_icmp_ne (x := ty) (y := 60) (tgt := 25) hx hb (by omega) (by omega) dX7_appendCharacter_19 (by decide) (fun c_4 => ?_) (fun c_4 => ?_)
    · refine lv_aload_n hx hb dX7_appendCharacter_25 rfl (lv_at hl 0 rfl) ?_
      refine va_get (D := G.1) (ci := 6) (v := .ref (md 3)) (C := RX7) (T := TX7) (N := 15) hx hb hts (by decide +kernel) hown hK.1 hP 0 rfl rfl 3 (by decide) (hts (.fieldLink RX7 16 "PriceIndexCalculatorModel" "text" "[B") (by decide +kernel)) (fun _ h9 => h9) rfl dX7_appendCharacter_26 ?_
      refine lv_aload_n hx hb dX7_appendCharacter_29 rfl (lv_at hl 0 rfl) ?_
      refine va_get (D := G.1) (ci := 6) (v := .int (nI ty)) (C := RX7) (T := TX7) (N := 15) hx hb hts (by decide +kernel) hown hK.1 hP 0 rfl rfl 4 (by decide) (hts (.fieldLink RX7 56 "PriceIndexCalculatorModel" "typed" "I") (by decide +kernel)) (fun _ h9 => h9) rfl dX7_appendCharacter_30 ?_
      refine lv_iload_n hx hb dX7_appendCharacter_33 rfl (lv_at hl 1 rfl) ?_
      refine lv_i2b (v := y1.toInt8.toInt32) hx hb dX7_appendCharacter_34 rfl ?_
      refine n_bast hx hb hK.1 hP hD hS 3 3 rfl rfl (j := ty) (by omega) (by omega) dX7_appendCharacter_35 (fun H locs hP hD hS => ?_)
      have hP : va_P G.1 vwCl ([(md 0, .inr (6, [.ref (md 1), .ref (md 2), .int (nI np), .ref (md 3), .int (nI ty), .int (nI aw), .int (bI iw), .ref (md 4), .float up, .float lo, .int (nI su), .ref (md 5), .ref (md 6), .ref (md 7), .float fo])), (md 1, .inl (G.2 0, 354, .inl a)), (md 2, .inl (G.2 0, 2832, .inl pa)), (md 3, .inl (G.2 3, 60, .inl (upd tb ty (vp_nar .byte y1.toInt8.toInt32)))), (md 4, .inl (G.2 0, 36, .inl qu)), (md 5, .inl (G.2 2, 288, .inr (.inr (.inl kn)))), (md 6, .inl (G.2 1, 288, .inl (fun jj => bI (ik jj)))), (md 7, .inl (G.2 1, 288, .inl (fun jj => bI (im jj))))]) H := hP
      have hD : va_D A ([(md 0, .inr (6, [.ref (md 1), .ref (md 2), .int (nI np), .ref (md 3), .int (nI ty), .int (nI aw), .int (bI iw), .ref (md 4), .float up, .float lo, .int (nI su), .ref (md 5), .ref (md 6), .ref (md 7), .float fo])), (md 1, .inl (G.2 0, 354, .inl a)), (md 2, .inl (G.2 0, 2832, .inl pa)), (md 3, .inl (G.2 3, 60, .inl (upd tb ty (vp_nar .byte y1.toInt8.toInt32)))), (md 4, .inl (G.2 0, 36, .inl qu)), (md 5, .inl (G.2 2, 288, .inr (.inr (.inl kn)))), (md 6, .inl (G.2 1, 288, .inl (fun jj => bI (ik jj)))), (md 7, .inl (G.2 1, 288, .inl (fun jj => bI (im jj))))]) := hD
      refine lv_aload_n hx hb dX7_appendCharacter_36 rfl (lv_at hl 0 rfl) ?_
      refine lv_dup hx hb dX7_appendCharacter_37 rfl ?_
      refine va_get (D := G.1) (ci := 6) (v := .int (nI ty)) (C := RX7) (T := TX7) (N := 15) hx hb hts (by decide +kernel) hown hK.1 hP 0 rfl rfl 4 (by decide) (hts (.fieldLink RX7 56 "PriceIndexCalculatorModel" "typed" "I") (by decide +kernel)) (fun _ h9 => h9) rfl dX7_appendCharacter_38 ?_
      refine lv_iconst (v := nI 1) hx hb dX7_appendCharacter_41 (by decide) ?_
      refine n_add hx hb dX7_appendCharacter_42 ?_
      refine va_put (D := G.1) (ci := 6) (v := .int (nI (ty + 1))) (ty := .int) (C := RX7) (T := TX7) (N := 15) hx hb hts (by decide +kernel) tyX7 tyX7_ok nmX7 hown hK.1 hP hD hS 0 rfl rfl 4 (by decide) (hts (.fieldLink RX7 56 "PriceIndexCalculatorModel" "typed" "I") (by decide +kernel)) (fun _ h9 => h9) rfl (by decide +kernel) rfl rfl (Nat.le_of_ble_eq_true rfl) dX7_appendCharacter_43 (fun H locs hP hD hS => ?_)
      have hP : va_P G.1 vwCl ([(md 0, .inr (6, [.ref (md 1), .ref (md 2), .int (nI np), .ref (md 3), .int (nI (ty + 1)), .int (nI aw), .int (bI iw), .ref (md 4), .float up, .float lo, .int (nI su), .ref (md 5), .ref (md 6), .ref (md 7), .float fo])), (md 1, .inl (G.2 0, 354, .inl a)), (md 2, .inl (G.2 0, 2832, .inl pa)), (md 3, .inl (G.2 3, 60, .inl (upd tb ty (vp_nar .byte y1.toInt8.toInt32)))), (md 4, .inl (G.2 0, 36, .inl qu)), (md 5, .inl (G.2 2, 288, .inr (.inr (.inl kn)))), (md 6, .inl (G.2 1, 288, .inl (fun jj => bI (ik jj)))), (md 7, .inl (G.2 1, 288, .inl (fun jj => bI (im jj))))]) H := hP
      have hD : va_D A ([(md 0, .inr (6, [.ref (md 1), .ref (md 2), .int (nI np), .ref (md 3), .int (nI (ty + 1)), .int (nI aw), .int (bI iw), .ref (md 4), .float up, .float lo, .int (nI su), .ref (md 5), .ref (md 6), .ref (md 7), .float fo])), (md 1, .inl (G.2 0, 354, .inl a)), (md 2, .inl (G.2 0, 2832, .inl pa)), (md 3, .inl (G.2 3, 60, .inl (upd tb ty (vp_nar .byte y1.toInt8.toInt32)))), (md 4, .inl (G.2 0, 36, .inl qu)), (md 5, .inl (G.2 2, 288, .inr (.inr (.inl kn)))), (md 6, .inl (G.2 1, 288, .inl (fun jj => bI (ik jj)))), (md 7, .inl (G.2 1, 288, .inl (fun jj => bI (im jj))))]) := hD
      refine lv_aload_n hx hb dX7_appendCharacter_46 rfl (lv_at hl 0 rfl) ?_
      refine va_get (D := G.1) (ci := 6) (v := .int (nI (ty + 1))) (C := RX7) (T := TX7) (N := 15) hx hb hts (by decide +kernel) hown hK.1 hP 0 rfl rfl 4 (by decide) (hts (.fieldLink RX7 56 "PriceIndexCalculatorModel" "typed" "I") (by decide +kernel)) (fun _ h9 => h9) rfl dX7_appendCharacter_47 ?_
      have hed : mAPe ty y1 = true := by simp [mAPe, c_3, c_4]
      have hP9 : va_P G.1 vwCl (mcells G md a pa np (cond (mAPe ty y1) (upd tb ty (y1.toInt8.toInt32)) tb) (cond (mAPe ty y1) (ty + 1) ty) aw iw qu up lo su kn ik im fo) H := by rw [hed]; rw [pk_vb] at hP; exact hP
      exact W.iret (v := nI (ty + 1)) hx hb hr (fun t ht hW => ⟨⟨_, (), rfl, (by simp [mAPf, c_3, c_4]), bM_end ht hP9⟩, hS.F ht⟩) hS.2.2 dX7_appendCharacter_50
    · refine lv_bipush (v := (-3)) hx hb dX7_appendCharacter_22 (by decide) ?_
      have hed : mAPe ty y1 = false := by simp [mAPe, c_3, c_4]
      have hP9 : va_P G.1 vwCl (mcells G md a pa np (cond (mAPe ty y1) (upd tb ty (y1.toInt8.toInt32)) tb) (cond (mAPe ty y1) (ty + 1) ty) aw iw qu up lo su kn ik im fo) s.heap := by rw [hed]; exact hP
      exact W.iret (v := (-3)) hx hb hr (fun t ht hW => ⟨⟨_, (), rfl, (by simp [mAPf, c_3, c_4]), bM_end ht hP9⟩, hS.F ht⟩) hS.2.2 dX7_appendCharacter_24
  · refine lv_iconst (v := (-1)) hx hb dX7_appendCharacter_11 (by decide) ?_
    have hed : mAPe ty y1 = false := by simp [mAPe, c_3]
    have hP9 : va_P G.1 vwCl (mcells G md a pa np (cond (mAPe ty y1) (upd tb ty (y1.toInt8.toInt32)) tb) (cond (mAPe ty y1) (ty + 1) ty) aw iw qu up lo su kn ik im fo) s.heap := by rw [hed]; exact hP
    exact W.iret (v := (-1)) hx hb hr (fun t ht hW => ⟨⟨_, (), rfl, (by simp [mAPf, c_3]), bM_end ht hP9⟩, hS.F ht⟩) hS.2.2 dX7_appendCharacter_12
set_option maxHeartbeats 4000000 in
set_option maxRecDepth 100000 in
/-- Model.clearText -/
theorem metX7_clearText (l : Launch) (G : GG) (md : Nat → Nat) (a pa : Nat → Int32) (np : Nat) (tb : Nat → Int32) (ty aw : Nat) (iw : Bool) (qu : Nat → Int32) (up lo : UInt32) (su : Nat) (kn : Nat → UInt32) (ik im : Nat → Bool) (fo : UInt32)  : Met l yX7_clearText wsX7_clearText ({ frames := 0, cells := 0, slots := 0, locals := 0 }) (pM G (mcells G md a pa np tb ty aw iw qu up lo su kn ik im fo) [.ref (md 0)]) (va_Qi (fun r (_ : Unit) => r = nI ty) (bM G (fun _ : Unit => mcells G md a pa np tb 0 aw iw qu up lo su kn ik im fo)) (adr (mcells G md a pa np tb ty aw iw qu up lo su kn ik im fo))) 0 0 (adr (mcells G md a pa np tb ty aw iw qu up lo su kn ik im fo)) := by
  refine Met.ofW (cc := cX7_clearText) (maxL := 2) (ret := (some .int)) (by decide) rfl ?_
  intro p e s m args below meth c s₁ B hml hv
  obtain ⟨rfl, hK, hP, hD0⟩ := hv
  have hx := B.exec
  have hb := B.bytes
  have hr := B.returns
  have hlocks := B.notSynchronized
  have hts := atoms_spec (ws := wsX7_clearText) B.pre
  have hown : s.vm.findClass RX7 = some m.cls := findClass_of_methodNamed B.named
  have hD := hD0.own
  generalize hAe : adr (mcells G md a pa np tb ty aw iw qu up lo su kn ik im fo) = A at hD ⊢
  have hS : va_S A s.heap s.heap [] := va_S.rf
  have hl := lv_entry ([.ref (md 0)]) (n := 2) (Nat.le_of_ble_eq_true rfl)
  rw [lg_entry_eq]
  generalize (lg_sl ([.ref (md 0)]) ++ List.replicate (2 - (lg_sl ([.ref (md 0)])).length) Slot.unset).toArray = ls at hl ⊢
  have hl : lv_has ls 2 [(0, .ref (md 0))] := hl
  have hP : va_P G.1 vwCl ([(md 0, .inr (6, [.ref (md 1), .ref (md 2), .int (nI np), .ref (md 3), .int (nI ty), .int (nI aw), .int (bI iw), .ref (md 4), .float up, .float lo, .int (nI su), .ref (md 5), .ref (md 6), .ref (md 7), .float fo])), (md 1, .inl (G.2 0, 354, .inl a)), (md 2, .inl (G.2 0, 2832, .inl pa)), (md 3, .inl (G.2 3, 60, .inl tb)), (md 4, .inl (G.2 0, 36, .inl qu)), (md 5, .inl (G.2 2, 288, .inr (.inr (.inl kn)))), (md 6, .inl (G.2 1, 288, .inl (fun jj => bI (ik jj)))), (md 7, .inl (G.2 1, 288, .inl (fun jj => bI (im jj))))]) s.heap := hP
  have hD : va_D A ([(md 0, .inr (6, [.ref (md 1), .ref (md 2), .int (nI np), .ref (md 3), .int (nI ty), .int (nI aw), .int (bI iw), .ref (md 4), .float up, .float lo, .int (nI su), .ref (md 5), .ref (md 6), .ref (md 7), .float fo])), (md 1, .inl (G.2 0, 354, .inl a)), (md 2, .inl (G.2 0, 2832, .inl pa)), (md 3, .inl (G.2 3, 60, .inl tb)), (md 4, .inl (G.2 0, 36, .inl qu)), (md 5, .inl (G.2 2, 288, .inr (.inr (.inl kn)))), (md 6, .inl (G.2 1, 288, .inl (fun jj => bI (ik jj)))), (md 7, .inl (G.2 1, 288, .inl (fun jj => bI (im jj))))]) := hD
  refine lv_aload_n hx hb dX7_clearText_0 rfl (lv_at hl 0 rfl) ?_
  refine va_get (D := G.1) (ci := 6) (v := .int (nI ty)) (C := RX7) (T := TX7) (N := 15) hx hb hts (by decide +kernel) hown hK.1 hP 0 rfl rfl 4 (by decide) (hts (.fieldLink RX7 56 "PriceIndexCalculatorModel" "typed" "I") (by decide +kernel)) (fun _ h9 => h9) rfl dX7_clearText_1 ?_
  refine lv_istore_n (lv' := [(1, .int (nI ty)), (0, .ref (md 0))]) hx hb dX7_clearText_4 rfl hl (by decide) rfl (fun ls hl => ?_)
  refine lv_aload_n hx hb dX7_clearText_5 rfl (lv_at hl 1 rfl) ?_
  refine lv_iconst (v := nI 0) hx hb dX7_clearText_6 (by decide) ?_
  refine va_put (D := G.1) (ci := 6) (v := .int (nI 0)) (ty := .int) (C := RX7) (T := TX7) (N := 15) hx hb hts (by decide +kernel) tyX7 tyX7_ok nmX7 hown hK.1 hP hD hS 0 rfl rfl 4 (by decide) (hts (.fieldLink RX7 56 "PriceIndexCalculatorModel" "typed" "I") (by decide +kernel)) (fun _ h9 => h9) rfl (by decide +kernel) rfl rfl (Nat.le_of_ble_eq_true rfl) dX7_clearText_7 (fun H locs hP hD hS => ?_)
  have hP : va_P G.1 vwCl ([(md 0, .inr (6, [.ref (md 1), .ref (md 2), .int (nI np), .ref (md 3), .int (nI 0), .int (nI aw), .int (bI iw), .ref (md 4), .float up, .float lo, .int (nI su), .ref (md 5), .ref (md 6), .ref (md 7), .float fo])), (md 1, .inl (G.2 0, 354, .inl a)), (md 2, .inl (G.2 0, 2832, .inl pa)), (md 3, .inl (G.2 3, 60, .inl tb)), (md 4, .inl (G.2 0, 36, .inl qu)), (md 5, .inl (G.2 2, 288, .inr (.inr (.inl kn)))), (md 6, .inl (G.2 1, 288, .inl (fun jj => bI (ik jj)))), (md 7, .inl (G.2 1, 288, .inl (fun jj => bI (im jj))))]) H := hP
  have hD : va_D A ([(md 0, .inr (6, [.ref (md 1), .ref (md 2), .int (nI np), .ref (md 3), .int (nI 0), .int (nI aw), .int (bI iw), .ref (md 4), .float up, .float lo, .int (nI su), .ref (md 5), .ref (md 6), .ref (md 7), .float fo])), (md 1, .inl (G.2 0, 354, .inl a)), (md 2, .inl (G.2 0, 2832, .inl pa)), (md 3, .inl (G.2 3, 60, .inl tb)), (md 4, .inl (G.2 0, 36, .inl qu)), (md 5, .inl (G.2 2, 288, .inr (.inr (.inl kn)))), (md 6, .inl (G.2 1, 288, .inl (fun jj => bI (ik jj)))), (md 7, .inl (G.2 1, 288, .inl (fun jj => bI (im jj))))]) := hD
  refine lv_iload_n hx hb dX7_clearText_10 rfl (lv_at hl 0 rfl) ?_
  have hP9 := hP
  exact W.iret (v := nI ty) hx hb hr (fun t ht hW => ⟨⟨_, (), rfl, rfl, bM_end ht hP9⟩, hS.F ht⟩) hS.2.2 dX7_clearText_11
