set_option maxHeartbeats 4000000 in
set_option maxRecDepth 100000 in
/-- Model.find -/
theorem metX7_find (l : Launch) (G : GG) (md : Nat → Nat) (a pa : Nat → Int32) (np : Nat) (tb : Nat → Int32) (ty aw : Nat) (iw : Bool) (qu : Nat → Int32) (up lo : UInt32) (su : Nat) (kn : Nat → UInt32) (ik im : Nat → Bool) (fo : UInt32) (hA : mWF a) : MetD lw_cs l yX7_find wsX7_find ({ frames := 5, cells := 0, slots := 0, locals := 150 }) (pM G (mcells G md a pa np tb ty aw iw qu up lo su kn ik im fo) [.ref (md 0)]) (va_Qv (fun (u : MS) => fdAll a u.2.2.2.1 u.2.2.2.2.1 u.2.2.2.2.2.1) (bM G (fun (u : MS) => mcells G md a pa np tb ty aw iw qu u.1 u.2.1 u.2.2.1 u.2.2.2.1 u.2.2.2.2.1 u.2.2.2.2.2.1 u.2.2.2.2.2.2)) (adr (mcells G md a pa np tb ty aw iw qu up lo su kn ik im fo))) 0 0 (adr (mcells G md a pa np tb ty aw iw qu up lo su kn ik im fo)) := by
  refine MetD.ofW (cc := cX7_find) (maxL := 6) (ret := none) (by decide) rfl ?_
  intro p e s m args below meth c s₁ B hml hv hd0
  obtain ⟨rfl, hK, hP, hD0⟩ := hv
  have hx := B.exec
  have hb := B.bytes
  have hr := B.returns
  have hlocks := B.notSynchronized
  have hts0 := atoms_spec (ws := wsX7_find) B.pre
  have hts := dr_words hts0 s.drawn
  have hK0 := hK
  have hK := hK0.drawn s.drawn
  have hown : s.vm.findClass RX7 = some m.cls := findClass_of_methodNamed B.named
  have hD := hD0.own
  generalize hAe : adr (mcells G md a pa np tb ty aw iw qu up lo su kn ik im fo) = A at hD ⊢
  have hS : va_S A s.heap s.heap [] := va_S.rf
  have hl := lv_entry ([.ref (md 0)]) (n := 6) (Nat.le_of_ble_eq_true rfl)
  rw [lg_entry_eq]
  generalize (lg_sl ([.ref (md 0)]) ++ List.replicate (6 - (lg_sl ([.ref (md 0)])).length) Slot.unset).toArray = ls at hl ⊢
  have hl : lv_has ls 6 [(0, .ref (md 0))] := hl
  have hP : va_P G.1 vwCl ([(md 0, .inr (6, [.ref (md 1), .ref (md 2), .int (nI np), .ref (md 3), .int (nI ty), .int (nI aw), .int (bI iw), .ref (md 4), .float up, .float lo, .int (nI su), .ref (md 5), .ref (md 6), .ref (md 7), .float fo])), (md 1, .inl (G.2 0, 354, .inl a)), (md 2, .inl (G.2 0, 2832, .inl pa)), (md 3, .inl (G.2 3, 60, .inl tb)), (md 4, .inl (G.2 0, 36, .inl qu)), (md 5, .inl (G.2 2, 288, .inr (.inr (.inl kn)))), (md 6, .inl (G.2 1, 288, .inl (fun jj => bI (ik jj)))), (md 7, .inl (G.2 1, 288, .inl (fun jj => bI (im jj))))]) s.heap := hP
  have hD : va_D A ([(md 0, .inr (6, [.ref (md 1), .ref (md 2), .int (nI np), .ref (md 3), .int (nI ty), .int (nI aw), .int (bI iw), .ref (md 4), .float up, .float lo, .int (nI su), .ref (md 5), .ref (md 6), .ref (md 7), .float fo])), (md 1, .inl (G.2 0, 354, .inl a)), (md 2, .inl (G.2 0, 2832, .inl pa)), (md 3, .inl (G.2 3, 60, .inl tb)), (md 4, .inl (G.2 0, 36, .inl qu)), (md 5, .inl (G.2 2, 288, .inr (.inr (.inl kn)))), (md 6, .inl (G.2 1, 288, .inl (fun jj => bI (ik jj)))), (md 7, .inl (G.2 1, 288, .inl (fun jj => bI (im jj))))]) := hD
  have hit := hA.1.2
  refine lv_iconst (v := nI 0) hx hb dX7_find_0 (by decide) ?_
  refine lv_istore_n (lv' := [(1, .int (nI 0)), (0, .ref (md 0))]) hx hb dX7_find_1 rfl hl (by decide) rfl (fun ls hl => ?_)
  refine lpD hd0 (S := UInt32 × UInt32 × Nat × (Nat → UInt32) × (Nat → Bool) × (Nat → Bool)) (24) (fun i u H locs => (fdI a (i) 0 u.2.2.2.1 u.2.2.2.2.1 u.2.2.2.2.2) ∧ va_P G.1 vwCl ([(md 0, .inr (6, [.ref (md 1), .ref (md 2), .int (nI np), .ref (md 3), .int (nI ty), .int (nI aw), .int (bI iw), .ref (md 4), .float u.1, .float u.2.1, .int (nI u.2.2.1), .ref (md 5), .ref (md 6), .ref (md 7), .float fo])), (md 1, .inl (G.2 0, 354, .inl a)), (md 2, .inl (G.2 0, 2832, .inl pa)), (md 3, .inl (G.2 3, 60, .inl tb)), (md 4, .inl (G.2 0, 36, .inl qu)), (md 5, .inl (G.2 2, 288, .inr (.inr (.inl u.2.2.2.1)))), (md 6, .inl (G.2 1, 288, .inl (fun jj => bI (u.2.2.2.2.1 jj)))), (md 7, .inl (G.2 1, 288, .inl (fun jj => bI (u.2.2.2.2.2 jj))))]) H ∧ va_D A ([(md 0, .inr (6, [.ref (md 1), .ref (md 2), .int (nI np), .ref (md 3), .int (nI ty), .int (nI aw), .int (bI iw), .ref (md 4), .float u.1, .float u.2.1, .int (nI u.2.2.1), .ref (md 5), .ref (md 6), .ref (md 7), .float fo])), (md 1, .inl (G.2 0, 354, .inl a)), (md 2, .inl (G.2 0, 2832, .inl pa)), (md 3, .inl (G.2 3, 60, .inl tb)), (md 4, .inl (G.2 0, 36, .inl qu)), (md 5, .inl (G.2 2, 288, .inr (.inr (.inl u.2.2.2.1)))), (md 6, .inl (G.2 1, 288, .inl (fun jj => bI (u.2.2.2.2.1 jj)))), (md 7, .inl (G.2 1, 288, .inl (fun jj => bI (u.2.2.2.2.2 jj))))]) ∧ va_S A s.heap H locs) (fun i u => [(0, .ref (md 0)), (1, .int (nI i))]) (fun u H locs ls d0 hd0 hI0 hl => ?_) (fun i u H locs ls d0 hd0 hi_3 hI0 hl ih_1 => ?_) (0) (up, lo, su, kn, ik, im) (by omega) ⟨fdI_0, hP, hD, hS⟩ (lv_sub hl [1, 0] rfl)
  · obtain ⟨u3, l3, n3, kn3, ik3, im3⟩ := u
    obtain ⟨hI_2, hP, hD, hS⟩ := hI0
    try dsimp only at hI_2
    have hl : lv_has ls 6 [(0, .ref (md 0)), (1, .int (nI 24))] := hl
    have hts := dr_words hts0 d0
    have hK := hK0.drawn d0
    have hP : va_P G.1 vwCl ([(md 0, .inr (6, [.ref (md 1), .ref (md 2), .int (nI np), .ref (md 3), .int (nI ty), .int (nI aw), .int (bI iw), .ref (md 4), .float u3, .float l3, .int (nI n3), .ref (md 5), .ref (md 6), .ref (md 7), .float fo])), (md 1, .inl (G.2 0, 354, .inl a)), (md 2, .inl (G.2 0, 2832, .inl pa)), (md 3, .inl (G.2 3, 60, .inl tb)), (md 4, .inl (G.2 0, 36, .inl qu)), (md 5, .inl (G.2 2, 288, .inr (.inr (.inl kn3)))), (md 6, .inl (G.2 1, 288, .inl (fun jj => bI (ik3 jj)))), (md 7, .inl (G.2 1, 288, .inl (fun jj => bI (im3 jj))))]) H := hP
    have hD : va_D A ([(md 0, .inr (6, [.ref (md 1), .ref (md 2), .int (nI np), .ref (md 3), .int (nI ty), .int (nI aw), .int (bI iw), .ref (md 4), .float u3, .float l3, .int (nI n3), .ref (md 5), .ref (md 6), .ref (md 7), .float fo])), (md 1, .inl (G.2 0, 354, .inl a)), (md 2, .inl (G.2 0, 2832, .inl pa)), (md 3, .inl (G.2 3, 60, .inl tb)), (md 4, .inl (G.2 0, 36, .inl qu)), (md 5, .inl (G.2 2, 288, .inr (.inr (.inl kn3)))), (md 6, .inl (G.2 1, 288, .inl (fun jj => bI (ik3 jj)))), (md 7, .inl (G.2 1, 288, .inl (fun jj => bI (im3 jj))))]) := hD
    refine lv_iload_n hx hb dX7_find_2 rfl (lv_at hl 1 rfl) ?_
    refine lv_bipush (v := nI 24) hx hb dX7_find_3 (by decide) ?_
    refine n_icmp_ge (x := 24) (y := 24) (tgt := 168) hx hb (by omega) (by omega) dX7_find_5 (by decide) (fun c_4 => ?_) (fun c_4 => ?_)
    · refine W.endD hd0 ?_
      have hP9 := hP
      exact W.vret hx hb hr (fun t ht hW => ⟨⟨(u3, l3, n3, kn3, ik3, im3, fo), rfl, (fdI_all hI_2), bM_end ht hP9⟩, hS.F ht⟩) hS.2.2 dX7_find_168
    · exact absurd c_4 (by omega)
  · obtain ⟨u3, l3, n3, kn3, ik3, im3⟩ := u
    obtain ⟨hI_2, hP, hD, hS⟩ := hI0
    try dsimp only at hI_2
    have hl : lv_has ls 6 [(0, .ref (md 0)), (1, .int (nI i))] := hl
    have hts := dr_words hts0 d0
    have hK := hK0.drawn d0
    have hP : va_P G.1 vwCl ([(md 0, .inr (6, [.ref (md 1), .ref (md 2), .int (nI np), .ref (md 3), .int (nI ty), .int (nI aw), .int (bI iw), .ref (md 4), .float u3, .float l3, .int (nI n3), .ref (md 5), .ref (md 6), .ref (md 7), .float fo])), (md 1, .inl (G.2 0, 354, .inl a)), (md 2, .inl (G.2 0, 2832, .inl pa)), (md 3, .inl (G.2 3, 60, .inl tb)), (md 4, .inl (G.2 0, 36, .inl qu)), (md 5, .inl (G.2 2, 288, .inr (.inr (.inl kn3)))), (md 6, .inl (G.2 1, 288, .inl (fun jj => bI (ik3 jj)))), (md 7, .inl (G.2 1, 288, .inl (fun jj => bI (im3 jj))))]) H := hP
    have hD : va_D A ([(md 0, .inr (6, [.ref (md 1), .ref (md 2), .int (nI np), .ref (md 3), .int (nI ty), .int (nI aw), .int (bI iw), .ref (md 4), .float u3, .float l3, .int (nI n3), .ref (md 5), .ref (md 6), .ref (md 7), .float fo])), (md 1, .inl (G.2 0, 354, .inl a)), (md 2, .inl (G.2 0, 2832, .inl pa)), (md 3, .inl (G.2 3, 60, .inl tb)), (md 4, .inl (G.2 0, 36, .inl qu)), (md 5, .inl (G.2 2, 288, .inr (.inr (.inl kn3)))), (md 6, .inl (G.2 1, 288, .inl (fun jj => bI (ik3 jj)))), (md 7, .inl (G.2 1, 288, .inl (fun jj => bI (im3 jj))))]) := hD
    refine lv_iload_n hx hb dX7_find_2 rfl (lv_at hl 1 rfl) ?_
    refine lv_bipush (v := nI 24) hx hb dX7_find_3 (by decide) ?_
    refine n_icmp_ge (x := i) (y := 24) (tgt := 168) hx hb (by omega) (by omega) dX7_find_5 (by decide) (fun c_5 => ?_) (fun c_5 => ?_)
    · exact absurd c_5 (by omega)
    · refine lv_iconst (v := nI 0) hx hb dX7_find_8 (by decide) ?_
      refine lv_istore_n (lv' := [(2, .int (nI 0)), (0, .ref (md 0)), (1, .int (nI i))]) hx hb dX7_find_9 rfl hl (by decide) rfl (fun ls hl => ?_)
      refine lpD hd0 (S := UInt32 × UInt32 × Nat × (Nat → UInt32) × (Nat → Bool) × (Nat → Bool)) (mN a) (fun j u H locs => (fdI a i (j) u.2.2.2.1 u.2.2.2.2.1 u.2.2.2.2.2) ∧ va_P G.1 vwCl ([(md 0, .inr (6, [.ref (md 1), .ref (md 2), .int (nI np), .ref (md 3), .int (nI ty), .int (nI aw), .int (bI iw), .ref (md 4), .float u.1, .float u.2.1, .int (nI u.2.2.1), .ref (md 5), .ref (md 6), .ref (md 7), .float fo])), (md 1, .inl (G.2 0, 354, .inl a)), (md 2, .inl (G.2 0, 2832, .inl pa)), (md 3, .inl (G.2 3, 60, .inl tb)), (md 4, .inl (G.2 0, 36, .inl qu)), (md 5, .inl (G.2 2, 288, .inr (.inr (.inl u.2.2.2.1)))), (md 6, .inl (G.2 1, 288, .inl (fun jj => bI (u.2.2.2.2.1 jj)))), (md 7, .inl (G.2 1, 288, .inl (fun jj => bI (u.2.2.2.2.2 jj))))]) H ∧ va_D A ([(md 0, .inr (6, [.ref (md 1), .ref (md 2), .int (nI np), .ref (md 3), .int (nI ty), .int (nI aw), .int (bI iw), .ref (md 4), .float u.1, .float u.2.1, .int (nI u.2.2.1), .ref (md 5), .ref (md 6), .ref (md 7), .float fo])), (md 1, .inl (G.2 0, 354, .inl a)), (md 2, .inl (G.2 0, 2832, .inl pa)), (md 3, .inl (G.2 3, 60, .inl tb)), (md 4, .inl (G.2 0, 36, .inl qu)), (md 5, .inl (G.2 2, 288, .inr (.inr (.inl u.2.2.2.1)))), (md 6, .inl (G.2 1, 288, .inl (fun jj => bI (u.2.2.2.2.1 jj)))), (md 7, .inl (G.2 1, 288, .inl (fun jj => bI (u.2.2.2.2.2 jj))))]) ∧ va_S A s.heap H locs) (fun j u => [(0, .ref (md 0)), (1, .int (nI i)), (2, .int (nI j))]) (fun u H locs ls d0 hd0 hI0 hl => ?_) (fun j u H locs ls d0 hd0 hi_8 hI0 hl ih_6 => ?_) (0) (u3, l3, n3, kn3, ik3, im3) (by omega) ⟨hI_2, hP, hD, hS⟩ (lv_sub hl [1, 2, 0] rfl)
      · obtain ⟨u4, l4, n4, kn4, ik4, im4⟩ := u
        obtain ⟨hI_7, hP, hD, hS⟩ := hI0
        try dsimp only at hI_7
        have hl : lv_has ls 6 [(0, .ref (md 0)), (1, .int (nI i)), (2, .int (nI (mN a)))] := hl
        have hts := dr_words hts0 d0
        have hK := hK0.drawn d0
        have hP : va_P G.1 vwCl ([(md 0, .inr (6, [.ref (md 1), .ref (md 2), .int (nI np), .ref (md 3), .int (nI ty), .int (nI aw), .int (bI iw), .ref (md 4), .float u4, .float l4, .int (nI n4), .ref (md 5), .ref (md 6), .ref (md 7), .float fo])), (md 1, .inl (G.2 0, 354, .inl a)), (md 2, .inl (G.2 0, 2832, .inl pa)), (md 3, .inl (G.2 3, 60, .inl tb)), (md 4, .inl (G.2 0, 36, .inl qu)), (md 5, .inl (G.2 2, 288, .inr (.inr (.inl kn4)))), (md 6, .inl (G.2 1, 288, .inl (fun jj => bI (ik4 jj)))), (md 7, .inl (G.2 1, 288, .inl (fun jj => bI (im4 jj))))]) H := hP
        have hD : va_D A ([(md 0, .inr (6, [.ref (md 1), .ref (md 2), .int (nI np), .ref (md 3), .int (nI ty), .int (nI aw), .int (bI iw), .ref (md 4), .float u4, .float l4, .int (nI n4), .ref (md 5), .ref (md 6), .ref (md 7), .float fo])), (md 1, .inl (G.2 0, 354, .inl a)), (md 2, .inl (G.2 0, 2832, .inl pa)), (md 3, .inl (G.2 3, 60, .inl tb)), (md 4, .inl (G.2 0, 36, .inl qu)), (md 5, .inl (G.2 2, 288, .inr (.inr (.inl kn4)))), (md 6, .inl (G.2 1, 288, .inl (fun jj => bI (ik4 jj)))), (md 7, .inl (G.2 1, 288, .inl (fun jj => bI (im4 jj))))]) := hD
        refine lv_iload_n hx hb dX7_find_10 rfl (lv_at hl 2 rfl) ?_
        refine lv_aload_n hx hb dX7_find_11 rfl (lv_at hl 0 rfl) ?_
        refine va_get (D := G.1) (ci := 6) (v := .ref (md 1)) (C := RX7) (T := TX7) (N := 15) hx hb hts (by decide +kernel) hown hK.1 hP 0 rfl rfl 0 (by decide) (hts (.fieldLink RX7 7 "PriceIndexCalculatorModel" "s" "[I") (by decide +kernel)) (fun _ h9 => h9) rfl dX7_find_12 ?_
        refine lv_iconst (v := nI 5) hx hb dX7_find_15 (by decide) ?_
        refine n_iald hx hb hK.1 hP 1 0 rfl rfl (j := 5) (by omega) (by omega) dX7_find_16 ?_
        refine eq_i (y := nI (mN a)) (hA.1.1) ?_
        refine n_icmp_ge (x := mN a) (y := mN a) (tgt := 162) hx hb (by omega) (by omega) dX7_find_17 (by decide) (fun c_9 => ?_) (fun c_9 => ?_)
        · refine lv_iinc (v := nI (i + 1)) (lv' := [(1, .int (nI (i + 1))), (0, .ref (md 0)), (2, .int (nI (mN a)))]) hx hb dX7_find_162 hl (k := 1) rfl (by exact nI_add _ _) (by decide) rfl (fun ls hl => ?_)
          refine lv_goto (tgt := 2) hx hb dX7_find_165 (by decide) ?_
          exact ih_1 (u4, l4, n4, kn4, ik4, im4) _ _ _ _ hd0 ⟨fdI_end hI_7, hP, hD, hS⟩ (lv_sub hl [1, 0] rfl)
        · exact absurd c_9 (by omega)
      · obtain ⟨u4, l4, n4, kn4, ik4, im4⟩ := u
        obtain ⟨hI_7, hP, hD, hS⟩ := hI0
        try dsimp only at hI_7
        have hl : lv_has ls 6 [(0, .ref (md 0)), (1, .int (nI i)), (2, .int (nI j))] := hl
        have hts := dr_words hts0 d0
        have hK := hK0.drawn d0
        have hP : va_P G.1 vwCl ([(md 0, .inr (6, [.ref (md 1), .ref (md 2), .int (nI np), .ref (md 3), .int (nI ty), .int (nI aw), .int (bI iw), .ref (md 4), .float u4, .float l4, .int (nI n4), .ref (md 5), .ref (md 6), .ref (md 7), .float fo])), (md 1, .inl (G.2 0, 354, .inl a)), (md 2, .inl (G.2 0, 2832, .inl pa)), (md 3, .inl (G.2 3, 60, .inl tb)), (md 4, .inl (G.2 0, 36, .inl qu)), (md 5, .inl (G.2 2, 288, .inr (.inr (.inl kn4)))), (md 6, .inl (G.2 1, 288, .inl (fun jj => bI (ik4 jj)))), (md 7, .inl (G.2 1, 288, .inl (fun jj => bI (im4 jj))))]) H := hP
        have hD : va_D A ([(md 0, .inr (6, [.ref (md 1), .ref (md 2), .int (nI np), .ref (md 3), .int (nI ty), .int (nI aw), .int (bI iw), .ref (md 4), .float u4, .float l4, .int (nI n4), .ref (md 5), .ref (md 6), .ref (md 7), .float fo])), (md 1, .inl (G.2 0, 354, .inl a)), (md 2, .inl (G.2 0, 2832, .inl pa)), (md 3, .inl (G.2 3, 60, .inl tb)), (md 4, .inl (G.2 0, 36, .inl qu)), (md 5, .inl (G.2 2, 288, .inr (.inr (.inl kn4)))), (md 6, .inl (G.2 1, 288, .inl (fun jj => bI (ik4 jj)))), (md 7, .inl (G.2 1, 288, .inl (fun jj => bI (im4 jj))))]) := hD
        refine lv_iload_n hx hb dX7_find_10 rfl (lv_at hl 2 rfl) ?_
        refine lv_aload_n hx hb dX7_find_11 rfl (lv_at hl 0 rfl) ?_
        refine va_get (D := G.1) (ci := 6) (v := .ref (md 1)) (C := RX7) (T := TX7) (N := 15) hx hb hts (by decide +kernel) hown hK.1 hP 0 rfl rfl 0 (by decide) (hts (.fieldLink RX7 7 "PriceIndexCalculatorModel" "s" "[I") (by decide +kernel)) (fun _ h9 => h9) rfl dX7_find_12 ?_
        refine lv_iconst (v := nI 5) hx hb dX7_find_15 (by decide) ?_
        refine n_iald hx hb hK.1 hP 1 0 rfl rfl (j := 5) (by omega) (by omega) dX7_find_16 ?_
        refine eq_i (y := nI (mN a)) (hA.1.1) ?_
        refine n_icmp_ge (x := j) (y := mN a) (tgt := 162) hx hb (by omega) (by omega) dX7_find_17 (by decide) (fun c_10 => ?_) (fun c_10 => ?_)
        · exact absurd c_10 (by omega)
        · refine lv_bipush (v := nI 24) hx hb dX7_find_20 (by decide) ?_
          refine lv_iload_n hx hb dX7_find_22 rfl (lv_at hl 2 rfl) ?_
          refine n_mul hx hb dX7_find_23 ?_
          refine lv_iload_n hx hb dX7_find_24 rfl (lv_at hl 1 rfl) ?_
          refine n_add hx hb dX7_find_25 ?_
          refine lv_istore_n (lv' := [(3, .int (nI ((24 * j) + i))), (0, .ref (md 0)), (1, .int (nI i)), (2, .int (nI j))]) hx hb dX7_find_26 rfl hl (by decide) rfl (fun ls hl => ?_)
          refine lv_aload_n hx hb dX7_find_27 rfl (lv_at hl 1 rfl) ?_
          refine lv_iload_n hx hb dX7_find_28 rfl (lv_at hl 3 rfl) ?_
          refine lv_iload_n hx hb dX7_find_29 rfl (lv_at hl 2 rfl) ?_
          refine cr_i (va_runV (As := [.int (nI j), .int (nI i)]) (rest := []) ⟨hx, hb, hml, hown, hts⟩ (metX7_isEffective l G md [.ref (md 2), .int (nI np), .ref (md 3), .int (nI ty), .int (nI aw), .int (bI iw), .ref (md 4), .float u4, .float l4, .int (nI n4), .ref (md 5), .ref (md 6), .ref (md 7), .float fo] a hA j i (by omega) (by omega)) (cwV 2 hts gX7_find_X7_isEffective rfl rfl rfl (by decide +kernel) ⟨Nat.le_of_ble_eq_true rfl, Nat.le_of_ble_eq_true rfl⟩) (pR_V (q0 := 0) hK (hP.sub (ws' := scells G md [.ref (md 2), .int (nI np), .ref (md 3), .int (nI ty), .int (nI aw), .int (bI iw), .ref (md 4), .float u4, .float l4, .int (nI n4), .ref (md 5), .ref (md 6), .ref (md 7), .float fo] a) [0, 1] rfl) rfl rfl) rfl rfl hl.1 rfl (lv_room (Nat.le_of_ble_eq_true rfl)) dX7_find_30 ⟨Nat.zero_le _, Nat.zero_le _⟩) (fun r_11 hr_12 => ?_)
          subst hr_12
          refine lv_istore (lv' := [(4, .int (bI (efM a j i))), (3, .int (nI ((24 * j) + i))), (0, .ref (md 0)), (1, .int (nI i)), (2, .int (nI j))]) hx hb dX7_find_33 hl (by decide) rfl (fun ls hl => ?_)
          refine lv_aload_n hx hb dX7_find_35 rfl (lv_at hl 2 rfl) ?_
          refine va_get (D := G.1) (ci := 6) (v := .ref (md 7)) (C := RX7) (T := TX7) (N := 15) hx hb hts (by decide +kernel) hown hK.1 hP 0 rfl rfl 13 (by decide) (hts (.fieldLink RX7 31 "PriceIndexCalculatorModel" "isMade" "[Z") (by decide +kernel)) (fun _ h9 => h9) rfl dX7_find_36 ?_
          refine lv_iload_n hx hb dX7_find_39 rfl (lv_at hl 1 rfl) ?_
          refine lv_iload hx hb dX7_find_40 (lv_at hl 0 rfl) ?_
          refine nb_if_ne (B := efM a j i) (tgt := 64) hx hb dX7_find_42 (by decide) (fun c_13 => ?_) (fun c_13 => ?_)
          · refine lv_iconst (v := nI 0) hx hb dX7_find_64 (by decide) ?_
            refine eq_i (y := bI false) rfl ?_
            refine n_zastB (x := false) hx hb hK.1 hP hD hS 7 1 rfl rfl (j := (24 * j) + i) (by omega) (by omega) dX7_find_65 (fun H locs hP hD hS => ?_)
            have hP : va_P G.1 vwCl ([(md 0, .inr (6, [.ref (md 1), .ref (md 2), .int (nI np), .ref (md 3), .int (nI ty), .int (nI aw), .int (bI iw), .ref (md 4), .float u4, .float l4, .int (nI n4), .ref (md 5), .ref (md 6), .ref (md 7), .float fo])), (md 1, .inl (G.2 0, 354, .inl a)), (md 2, .inl (G.2 0, 2832, .inl pa)), (md 3, .inl (G.2 3, 60, .inl tb)), (md 4, .inl (G.2 0, 36, .inl qu)), (md 5, .inl (G.2 2, 288, .inr (.inr (.inl kn4)))), (md 6, .inl (G.2 1, 288, .inl (fun jj => bI (ik4 jj)))), (md 7, .inl (G.2 1, 288, .inl (fun jj => bI (va_up im4 ((24 * j) + i) false jj))))]) H := hP
            have hD : va_D A ([(md 0, .inr (6, [.ref (md 1), .ref (md 2), .int (nI np), .ref (md 3), .int (nI ty), .int (nI aw), .int (bI iw), .ref (md 4), .float u4, .float l4, .int (nI n4), .ref (md 5), .ref (md 6), .ref (md 7), .float fo])), (md 1, .inl (G.2 0, 354, .inl a)), (md 2, .inl (G.2 0, 2832, .inl pa)), (md 3, .inl (G.2 3, 60, .inl tb)), (md 4, .inl (G.2 0, 36, .inl qu)), (md 5, .inl (G.2 2, 288, .inr (.inr (.inl kn4)))), (md 6, .inl (G.2 1, 288, .inl (fun jj => bI (ik4 jj)))), (md 7, .inl (G.2 1, 288, .inl (fun jj => bI (va_up im4 ((24 * j) + i) false jj))))]) := hD
            refine lv_aload_n hx hb dX7_find_66 rfl (lv_at hl 2 rfl) ?_
            refine va_get (D := G.1) (ci := 6) (v := .ref (md 6)) (C := RX7) (T := TX7) (N := 15) hx hb hts (by decide +kernel) hown hK.1 hP 0 rfl rfl 12 (by decide) (hts (.fieldLink RX7 27 "PriceIndexCalculatorModel" "isKnown" "[Z") (by decide +kernel)) (fun _ h9 => h9) rfl dX7_find_67 ?_
            refine lv_iload_n hx hb dX7_find_70 rfl (lv_at hl 1 rfl) ?_
            refine lv_iload hx hb dX7_find_71 (lv_at hl 0 rfl) ?_
            refine nb_if_ne (B := efM a j i) (tgt := 85) hx hb dX7_find_73 (by decide) (fun c_14 => ?_) (fun c_14 => ?_)
            · refine lv_iconst (v := nI 1) hx hb dX7_find_85 (by decide) ?_
              refine lv_goto (tgt := 90) hx hb dX7_find_86 (by decide) ?_
              refine eq_i (y := bI true) rfl ?_
              refine n_zastB (x := true) hx hb hK.1 hP hD hS 6 1 rfl rfl (j := (24 * j) + i) (by omega) (by omega) dX7_find_90 (fun H locs hP hD hS => ?_)
              have hP : va_P G.1 vwCl ([(md 0, .inr (6, [.ref (md 1), .ref (md 2), .int (nI np), .ref (md 3), .int (nI ty), .int (nI aw), .int (bI iw), .ref (md 4), .float u4, .float l4, .int (nI n4), .ref (md 5), .ref (md 6), .ref (md 7), .float fo])), (md 1, .inl (G.2 0, 354, .inl a)), (md 2, .inl (G.2 0, 2832, .inl pa)), (md 3, .inl (G.2 3, 60, .inl tb)), (md 4, .inl (G.2 0, 36, .inl qu)), (md 5, .inl (G.2 2, 288, .inr (.inr (.inl kn4)))), (md 6, .inl (G.2 1, 288, .inl (fun jj => bI (va_up ik4 ((24 * j) + i) true jj)))), (md 7, .inl (G.2 1, 288, .inl (fun jj => bI (va_up im4 ((24 * j) + i) false jj))))]) H := hP
              have hD : va_D A ([(md 0, .inr (6, [.ref (md 1), .ref (md 2), .int (nI np), .ref (md 3), .int (nI ty), .int (nI aw), .int (bI iw), .ref (md 4), .float u4, .float l4, .int (nI n4), .ref (md 5), .ref (md 6), .ref (md 7), .float fo])), (md 1, .inl (G.2 0, 354, .inl a)), (md 2, .inl (G.2 0, 2832, .inl pa)), (md 3, .inl (G.2 3, 60, .inl tb)), (md 4, .inl (G.2 0, 36, .inl qu)), (md 5, .inl (G.2 2, 288, .inr (.inr (.inl kn4)))), (md 6, .inl (G.2 1, 288, .inl (fun jj => bI (va_up ik4 ((24 * j) + i) true jj)))), (md 7, .inl (G.2 1, 288, .inl (fun jj => bI (va_up im4 ((24 * j) + i) false jj))))]) := hD
              refine lv_iload hx hb dX7_find_91 (lv_at hl 0 rfl) ?_
              refine nb_if_eq (B := efM a j i) (tgt := 111) hx hb dX7_find_93 (by decide) (fun c_15 => ?_) (fun c_15 => ?_)
              · exact absurd (c_13.symm.trans c_15) (by decide)
              · refine lv_aload_n hx hb dX7_find_96 rfl (lv_at hl 2 rfl) ?_
                refine va_get (D := G.1) (ci := 6) (v := .ref (md 5)) (C := RX7) (T := TX7) (N := 15) hx hb hts (by decide +kernel) hown hK.1 hP 0 rfl rfl 11 (by decide) (hts (.fieldLink RX7 23 "PriceIndexCalculatorModel" "known" "[F") (by decide +kernel)) (fun _ h9 => h9) rfl dX7_find_97 ?_
                refine lv_iload_n hx hb dX7_find_100 rfl (lv_at hl 1 rfl) ?_
                refine lv_aload_n hx hb dX7_find_101 rfl (lv_at hl 2 rfl) ?_
                refine lv_iload_n hx hb dX7_find_102 rfl (lv_at hl 4 rfl) ?_
                refine lv_iload_n hx hb dX7_find_103 rfl (lv_at hl 3 rfl) ?_
                refine crD_f hd0 (va_runV_D (As := [.int (nI j), .int (nI i)]) (rest := [.int (nI ((24 * j) + i)), .ref (md 5)]) ⟨hx, hb, hml, hown, hts⟩ (metX7_effective l G md [.ref (md 2), .int (nI np), .ref (md 3), .int (nI ty), .int (nI aw), .int (bI iw), .ref (md 4), .float u4, .float l4, .int (nI n4), .ref (md 5), .ref (md 6), .ref (md 7), .float fo] a hA j i (by omega) (by omega)) (cwV 2 hts gX7_find_X7_effective rfl rfl rfl (by decide +kernel) ⟨Nat.le_of_ble_eq_true rfl, Nat.le_of_ble_eq_true rfl⟩) (pR_V (q0 := 0) hK (hP.sub (ws' := scells G md [.ref (md 2), .int (nI np), .ref (md 3), .int (nI ty), .int (nI aw), .int (bI iw), .ref (md 4), .float u4, .float l4, .int (nI n4), .ref (md 5), .ref (md 6), .ref (md 7), .float fo] a) [0, 1] rfl) rfl rfl) rfl rfl hl.1 rfl (lv_room (Nat.le_of_ble_eq_true rfl)) dX7_find_104 ⟨Nat.zero_le _, Nat.zero_le _⟩) (fun r_17 hr_18 d_16 hd0 => ?_)
                have hts := dr_words hts0 d_16
                have hK := hK0.drawn d_16
                refine n_fast hx hb hK.1 hP hD hS 5 2 rfl rfl (j := (24 * j) + i) (by omega) (by omega) dX7_find_107 (fun H locs hP hD hS => ?_)
                have hP : va_P G.1 vwCl ([(md 0, .inr (6, [.ref (md 1), .ref (md 2), .int (nI np), .ref (md 3), .int (nI ty), .int (nI aw), .int (bI iw), .ref (md 4), .float u4, .float l4, .int (nI n4), .ref (md 5), .ref (md 6), .ref (md 7), .float fo])), (md 1, .inl (G.2 0, 354, .inl a)), (md 2, .inl (G.2 0, 2832, .inl pa)), (md 3, .inl (G.2 3, 60, .inl tb)), (md 4, .inl (G.2 0, 36, .inl qu)), (md 5, .inl (G.2 2, 288, .inr (.inr (.inl (vf_upd kn4 ((24 * j) + i) r_17))))), (md 6, .inl (G.2 1, 288, .inl (fun jj => bI (va_up ik4 ((24 * j) + i) true jj)))), (md 7, .inl (G.2 1, 288, .inl (fun jj => bI (va_up im4 ((24 * j) + i) false jj))))]) H := hP
                have hD : va_D A ([(md 0, .inr (6, [.ref (md 1), .ref (md 2), .int (nI np), .ref (md 3), .int (nI ty), .int (nI aw), .int (bI iw), .ref (md 4), .float u4, .float l4, .int (nI n4), .ref (md 5), .ref (md 6), .ref (md 7), .float fo])), (md 1, .inl (G.2 0, 354, .inl a)), (md 2, .inl (G.2 0, 2832, .inl pa)), (md 3, .inl (G.2 3, 60, .inl tb)), (md 4, .inl (G.2 0, 36, .inl qu)), (md 5, .inl (G.2 2, 288, .inr (.inr (.inl (vf_upd kn4 ((24 * j) + i) r_17))))), (md 6, .inl (G.2 1, 288, .inl (fun jj => bI (va_up ik4 ((24 * j) + i) true jj)))), (md 7, .inl (G.2 1, 288, .inl (fun jj => bI (va_up im4 ((24 * j) + i) false jj))))]) := hD
                refine lv_goto (tgt := 156) hx hb dX7_find_108 (by decide) ?_
                refine lv_iinc (v := nI (j + 1)) (lv' := [(2, .int (nI (j + 1))), (4, .int (bI (efM a j i))), (3, .int (nI ((24 * j) + i))), (0, .ref (md 0)), (1, .int (nI i))]) hx hb dX7_find_156 hl (k := 4) rfl (by exact nI_add _ _) (by decide) rfl (fun ls hl => ?_)
                refine lv_goto (tgt := 10) hx hb dX7_find_159 (by decide) ?_
                exact ih_6 (u4, l4, n4, vf_upd kn4 ((24 * j) + i) r_17, va_up ik4 ((24 * j) + i) true, va_up im4 ((24 * j) + i) false) _ _ _ _ hd0 ⟨fd_eff (by omega) (by omega) hI_7 c_13 hr_18, hP, hD, hS⟩ (lv_sub hl [3, 4, 0] rfl)
            · exact absurd (c_13.symm.trans c_14) (by decide)
          · refine lv_iload_n hx hb dX7_find_45 rfl (lv_at hl 3 rfl) ?_
            refine n_if_le (x := i) (tgt := 64) hx hb (by omega) dX7_find_46 (by decide) (fun c_19 => ?_) (fun c_19 => ?_)
            · refine lv_iconst (v := nI 0) hx hb dX7_find_64 (by decide) ?_
              refine eq_i (y := bI false) rfl ?_
              refine n_zastB (x := false) hx hb hK.1 hP hD hS 7 1 rfl rfl (j := (24 * j) + i) (by omega) (by omega) dX7_find_65 (fun H locs hP hD hS => ?_)
              have hP : va_P G.1 vwCl ([(md 0, .inr (6, [.ref (md 1), .ref (md 2), .int (nI np), .ref (md 3), .int (nI ty), .int (nI aw), .int (bI iw), .ref (md 4), .float u4, .float l4, .int (nI n4), .ref (md 5), .ref (md 6), .ref (md 7), .float fo])), (md 1, .inl (G.2 0, 354, .inl a)), (md 2, .inl (G.2 0, 2832, .inl pa)), (md 3, .inl (G.2 3, 60, .inl tb)), (md 4, .inl (G.2 0, 36, .inl qu)), (md 5, .inl (G.2 2, 288, .inr (.inr (.inl kn4)))), (md 6, .inl (G.2 1, 288, .inl (fun jj => bI (ik4 jj)))), (md 7, .inl (G.2 1, 288, .inl (fun jj => bI (va_up im4 ((24 * j) + i) false jj))))]) H := hP
              have hD : va_D A ([(md 0, .inr (6, [.ref (md 1), .ref (md 2), .int (nI np), .ref (md 3), .int (nI ty), .int (nI aw), .int (bI iw), .ref (md 4), .float u4, .float l4, .int (nI n4), .ref (md 5), .ref (md 6), .ref (md 7), .float fo])), (md 1, .inl (G.2 0, 354, .inl a)), (md 2, .inl (G.2 0, 2832, .inl pa)), (md 3, .inl (G.2 3, 60, .inl tb)), (md 4, .inl (G.2 0, 36, .inl qu)), (md 5, .inl (G.2 2, 288, .inr (.inr (.inl kn4)))), (md 6, .inl (G.2 1, 288, .inl (fun jj => bI (ik4 jj)))), (md 7, .inl (G.2 1, 288, .inl (fun jj => bI (va_up im4 ((24 * j) + i) false jj))))]) := hD
              refine lv_aload_n hx hb dX7_find_66 rfl (lv_at hl 2 rfl) ?_
              refine va_get (D := G.1) (ci := 6) (v := .ref (md 6)) (C := RX7) (T := TX7) (N := 15) hx hb hts (by decide +kernel) hown hK.1 hP 0 rfl rfl 12 (by decide) (hts (.fieldLink RX7 27 "PriceIndexCalculatorModel" "isKnown" "[Z") (by decide +kernel)) (fun _ h9 => h9) rfl dX7_find_67 ?_
              refine lv_iload_n hx hb dX7_find_70 rfl (lv_at hl 1 rfl) ?_
              refine lv_iload hx hb dX7_find_71 (lv_at hl 0 rfl) ?_
              refine nb_if_ne (B := efM a j i) (tgt := 85) hx hb dX7_find_73 (by decide) (fun c_20 => ?_) (fun c_20 => ?_)
              · exact absurd (c_13.symm.trans c_20) (by decide)
              · refine lv_aload_n hx hb dX7_find_76 rfl (lv_at hl 2 rfl) ?_
                refine va_get (D := G.1) (ci := 6) (v := .ref (md 7)) (C := RX7) (T := TX7) (N := 15) hx hb hts (by decide +kernel) hown hK.1 hP 0 rfl rfl 13 (by decide) (hts (.fieldLink RX7 31 "PriceIndexCalculatorModel" "isMade" "[Z") (by decide +kernel)) (fun _ h9 => h9) rfl dX7_find_77 ?_
                refine lv_iload_n hx hb dX7_find_80 rfl (lv_at hl 1 rfl) ?_
                refine n_zald hx hb hK.1 hP 7 1 rfl rfl (j := (24 * j) + i) (by omega) (by omega) dX7_find_81 ?_
                refine eq_i (y := bI false) (by simp [va_up]) ?_
                refine nb_if_eq (B := false) (tgt := 89) hx hb dX7_find_82 (by decide) (fun c_21 => ?_) (fun c_21 => ?_)
                · refine lv_iconst (v := nI 0) hx hb dX7_find_89 (by decide) ?_
                  refine eq_i (y := bI false) rfl ?_
                  refine n_zastB (x := false) hx hb hK.1 hP hD hS 6 1 rfl rfl (j := (24 * j) + i) (by omega) (by omega) dX7_find_90 (fun H locs hP hD hS => ?_)
                  have hP : va_P G.1 vwCl ([(md 0, .inr (6, [.ref (md 1), .ref (md 2), .int (nI np), .ref (md 3), .int (nI ty), .int (nI aw), .int (bI iw), .ref (md 4), .float u4, .float l4, .int (nI n4), .ref (md 5), .ref (md 6), .ref (md 7), .float fo])), (md 1, .inl (G.2 0, 354, .inl a)), (md 2, .inl (G.2 0, 2832, .inl pa)), (md 3, .inl (G.2 3, 60, .inl tb)), (md 4, .inl (G.2 0, 36, .inl qu)), (md 5, .inl (G.2 2, 288, .inr (.inr (.inl kn4)))), (md 6, .inl (G.2 1, 288, .inl (fun jj => bI (va_up ik4 ((24 * j) + i) false jj)))), (md 7, .inl (G.2 1, 288, .inl (fun jj => bI (va_up im4 ((24 * j) + i) false jj))))]) H := hP
                  have hD : va_D A ([(md 0, .inr (6, [.ref (md 1), .ref (md 2), .int (nI np), .ref (md 3), .int (nI ty), .int (nI aw), .int (bI iw), .ref (md 4), .float u4, .float l4, .int (nI n4), .ref (md 5), .ref (md 6), .ref (md 7), .float fo])), (md 1, .inl (G.2 0, 354, .inl a)), (md 2, .inl (G.2 0, 2832, .inl pa)), (md 3, .inl (G.2 3, 60, .inl tb)), (md 4, .inl (G.2 0, 36, .inl qu)), (md 5, .inl (G.2 2, 288, .inr (.inr (.inl kn4)))), (md 6, .inl (G.2 1, 288, .inl (fun jj => bI (va_up ik4 ((24 * j) + i) false jj)))), (md 7, .inl (G.2 1, 288, .inl (fun jj => bI (va_up im4 ((24 * j) + i) false jj))))]) := hD
                  refine lv_iload hx hb dX7_find_91 (lv_at hl 0 rfl) ?_
                  refine nb_if_eq (B := efM a j i) (tgt := 111) hx hb dX7_find_93 (by decide) (fun c_22 => ?_) (fun c_22 => ?_)
                  · refine lv_aload_n hx hb dX7_find_111 rfl (lv_at hl 2 rfl) ?_
                    refine va_get (D := G.1) (ci := 6) (v := .ref (md 7)) (C := RX7) (T := TX7) (N := 15) hx hb hts (by decide +kernel) hown hK.1 hP 0 rfl rfl 13 (by decide) (hts (.fieldLink RX7 31 "PriceIndexCalculatorModel" "isMade" "[Z") (by decide +kernel)) (fun _ h9 => h9) rfl dX7_find_112 ?_
                    refine lv_iload_n hx hb dX7_find_115 rfl (lv_at hl 1 rfl) ?_
                    refine n_zald hx hb hK.1 hP 7 1 rfl rfl (j := (24 * j) + i) (by omega) (by omega) dX7_find_116 ?_
                    refine eq_i (y := bI false) (by simp [va_up]) ?_
                    refine nb_if_eq (B := false) (tgt := 156) hx hb dX7_find_117 (by decide) (fun c_23 => ?_) (fun c_23 => ?_)
                    · refine lv_iinc (v := nI (j + 1)) (lv' := [(2, .int (nI (j + 1))), (4, .int (bI (efM a j i))), (3, .int (nI ((24 * j) + i))), (0, .ref (md 0)), (1, .int (nI i))]) hx hb dX7_find_156 hl (k := 4) rfl (by exact nI_add _ _) (by decide) rfl (fun ls hl => ?_)
                      refine lv_goto (tgt := 10) hx hb dX7_find_159 (by decide) ?_
                      exact ih_6 (u4, l4, n4, kn4, va_up ik4 ((24 * j) + i) false, va_up im4 ((24 * j) + i) false) _ _ _ _ hd0 ⟨fd_none (by omega) (by omega) hI_7 c_13 (Or.inl c_19), hP, hD, hS⟩ (lv_sub hl [3, 4, 0] rfl)
                    · exact absurd c_23 (by decide)
                  · exact absurd (c_13.symm.trans c_22) (by decide)
                · exact absurd c_21 (by decide)
            · refine lv_aload_n hx hb dX7_find_49 rfl (lv_at hl 2 rfl) ?_
              refine va_get (D := G.1) (ci := 6) (v := .ref (md 6)) (C := RX7) (T := TX7) (N := 15) hx hb hts (by decide +kernel) hown hK.1 hP 0 rfl rfl 12 (by decide) (hts (.fieldLink RX7 27 "PriceIndexCalculatorModel" "isKnown" "[Z") (by decide +kernel)) (fun _ h9 => h9) rfl dX7_find_50 ?_
              refine lv_iload_n hx hb dX7_find_53 rfl (lv_at hl 1 rfl) ?_
              refine lv_iconst (v := nI 1) hx hb dX7_find_54 (by decide) ?_
              refine n_sub hx hb (by omega) dX7_find_55 ?_
              refine n_zald hx hb hK.1 hP 6 1 rfl rfl (j := ((24 * j) + i) - 1) (by omega) (by omega) dX7_find_56 ?_
              refine nb_if_eq (B := ik4 (((24 * j) + i) - 1)) (tgt := 64) hx hb dX7_find_57 (by decide) (fun c_24 => ?_) (fun c_24 => ?_)
              · refine lv_iconst (v := nI 0) hx hb dX7_find_64 (by decide) ?_
                refine eq_i (y := bI false) rfl ?_
                refine n_zastB (x := false) hx hb hK.1 hP hD hS 7 1 rfl rfl (j := (24 * j) + i) (by omega) (by omega) dX7_find_65 (fun H locs hP hD hS => ?_)
                have hP : va_P G.1 vwCl ([(md 0, .inr (6, [.ref (md 1), .ref (md 2), .int (nI np), .ref (md 3), .int (nI ty), .int (nI aw), .int (bI iw), .ref (md 4), .float u4, .float l4, .int (nI n4), .ref (md 5), .ref (md 6), .ref (md 7), .float fo])), (md 1, .inl (G.2 0, 354, .inl a)), (md 2, .inl (G.2 0, 2832, .inl pa)), (md 3, .inl (G.2 3, 60, .inl tb)), (md 4, .inl (G.2 0, 36, .inl qu)), (md 5, .inl (G.2 2, 288, .inr (.inr (.inl kn4)))), (md 6, .inl (G.2 1, 288, .inl (fun jj => bI (ik4 jj)))), (md 7, .inl (G.2 1, 288, .inl (fun jj => bI (va_up im4 ((24 * j) + i) false jj))))]) H := hP
                have hD : va_D A ([(md 0, .inr (6, [.ref (md 1), .ref (md 2), .int (nI np), .ref (md 3), .int (nI ty), .int (nI aw), .int (bI iw), .ref (md 4), .float u4, .float l4, .int (nI n4), .ref (md 5), .ref (md 6), .ref (md 7), .float fo])), (md 1, .inl (G.2 0, 354, .inl a)), (md 2, .inl (G.2 0, 2832, .inl pa)), (md 3, .inl (G.2 3, 60, .inl tb)), (md 4, .inl (G.2 0, 36, .inl qu)), (md 5, .inl (G.2 2, 288, .inr (.inr (.inl kn4)))), (md 6, .inl (G.2 1, 288, .inl (fun jj => bI (ik4 jj)))), (md 7, .inl (G.2 1, 288, .inl (fun jj => bI (va_up im4 ((24 * j) + i) false jj))))]) := hD
                refine lv_aload_n hx hb dX7_find_66 rfl (lv_at hl 2 rfl) ?_
                refine va_get (D := G.1) (ci := 6) (v := .ref (md 6)) (C := RX7) (T := TX7) (N := 15) hx hb hts (by decide +kernel) hown hK.1 hP 0 rfl rfl 12 (by decide) (hts (.fieldLink RX7 27 "PriceIndexCalculatorModel" "isKnown" "[Z") (by decide +kernel)) (fun _ h9 => h9) rfl dX7_find_67 ?_
                refine lv_iload_n hx hb dX7_find_70 rfl (lv_at hl 1 rfl) ?_
                refine lv_iload hx hb dX7_find_71 (lv_at hl 0 rfl) ?_
                refine nb_if_ne (B := efM a j i) (tgt := 85) hx hb dX7_find_73 (by decide) (fun c_25 => ?_) (fun c_25 => ?_)
                · exact absurd (c_13.symm.trans c_25) (by decide)
                · refine lv_aload_n hx hb dX7_find_76 rfl (lv_at hl 2 rfl) ?_
                  refine va_get (D := G.1) (ci := 6) (v := .ref (md 7)) (C := RX7) (T := TX7) (N := 15) hx hb hts (by decide +kernel) hown hK.1 hP 0 rfl rfl 13 (by decide) (hts (.fieldLink RX7 31 "PriceIndexCalculatorModel" "isMade" "[Z") (by decide +kernel)) (fun _ h9 => h9) rfl dX7_find_77 ?_
                  refine lv_iload_n hx hb dX7_find_80 rfl (lv_at hl 1 rfl) ?_
                  refine n_zald hx hb hK.1 hP 7 1 rfl rfl (j := (24 * j) + i) (by omega) (by omega) dX7_find_81 ?_
                  refine eq_i (y := bI false) (by simp [va_up]) ?_
                  refine nb_if_eq (B := false) (tgt := 89) hx hb dX7_find_82 (by decide) (fun c_26 => ?_) (fun c_26 => ?_)
                  · refine lv_iconst (v := nI 0) hx hb dX7_find_89 (by decide) ?_
                    refine eq_i (y := bI false) rfl ?_
                    refine n_zastB (x := false) hx hb hK.1 hP hD hS 6 1 rfl rfl (j := (24 * j) + i) (by omega) (by omega) dX7_find_90 (fun H locs hP hD hS => ?_)
                    have hP : va_P G.1 vwCl ([(md 0, .inr (6, [.ref (md 1), .ref (md 2), .int (nI np), .ref (md 3), .int (nI ty), .int (nI aw), .int (bI iw), .ref (md 4), .float u4, .float l4, .int (nI n4), .ref (md 5), .ref (md 6), .ref (md 7), .float fo])), (md 1, .inl (G.2 0, 354, .inl a)), (md 2, .inl (G.2 0, 2832, .inl pa)), (md 3, .inl (G.2 3, 60, .inl tb)), (md 4, .inl (G.2 0, 36, .inl qu)), (md 5, .inl (G.2 2, 288, .inr (.inr (.inl kn4)))), (md 6, .inl (G.2 1, 288, .inl (fun jj => bI (va_up ik4 ((24 * j) + i) false jj)))), (md 7, .inl (G.2 1, 288, .inl (fun jj => bI (va_up im4 ((24 * j) + i) false jj))))]) H := hP
                    have hD : va_D A ([(md 0, .inr (6, [.ref (md 1), .ref (md 2), .int (nI np), .ref (md 3), .int (nI ty), .int (nI aw), .int (bI iw), .ref (md 4), .float u4, .float l4, .int (nI n4), .ref (md 5), .ref (md 6), .ref (md 7), .float fo])), (md 1, .inl (G.2 0, 354, .inl a)), (md 2, .inl (G.2 0, 2832, .inl pa)), (md 3, .inl (G.2 3, 60, .inl tb)), (md 4, .inl (G.2 0, 36, .inl qu)), (md 5, .inl (G.2 2, 288, .inr (.inr (.inl kn4)))), (md 6, .inl (G.2 1, 288, .inl (fun jj => bI (va_up ik4 ((24 * j) + i) false jj)))), (md 7, .inl (G.2 1, 288, .inl (fun jj => bI (va_up im4 ((24 * j) + i) false jj))))]) := hD
                    refine lv_iload hx hb dX7_find_91 (lv_at hl 0 rfl) ?_
                    refine nb_if_eq (B := efM a j i) (tgt := 111) hx hb dX7_find_93 (by decide) (fun c_27 => ?_) (fun c_27 => ?_)
                    · refine lv_aload_n hx hb dX7_find_111 rfl (lv_at hl 2 rfl) ?_
                      refine va_get (D := G.1) (ci := 6) (v := .ref (md 7)) (C := RX7) (T := TX7) (N := 15) hx hb hts (by decide +kernel) hown hK.1 hP 0 rfl rfl 13 (by decide) (hts (.fieldLink RX7 31 "PriceIndexCalculatorModel" "isMade" "[Z") (by decide +kernel)) (fun _ h9 => h9) rfl dX7_find_112 ?_
                      refine lv_iload_n hx hb dX7_find_115 rfl (lv_at hl 1 rfl) ?_
                      refine n_zald hx hb hK.1 hP 7 1 rfl rfl (j := (24 * j) + i) (by omega) (by omega) dX7_find_116 ?_
                      refine eq_i (y := bI false) (by simp [va_up]) ?_
                      refine nb_if_eq (B := false) (tgt := 156) hx hb dX7_find_117 (by decide) (fun c_28 => ?_) (fun c_28 => ?_)
                      · refine lv_iinc (v := nI (j + 1)) (lv' := [(2, .int (nI (j + 1))), (4, .int (bI (efM a j i))), (3, .int (nI ((24 * j) + i))), (0, .ref (md 0)), (1, .int (nI i))]) hx hb dX7_find_156 hl (k := 4) rfl (by exact nI_add _ _) (by decide) rfl (fun ls hl => ?_)
                        refine lv_goto (tgt := 10) hx hb dX7_find_159 (by decide) ?_
                        exact ih_6 (u4, l4, n4, kn4, va_up ik4 ((24 * j) + i) false, va_up im4 ((24 * j) + i) false) _ _ _ _ hd0 ⟨fd_none (by omega) (by omega) hI_7 c_13 (Or.inr ⟨by omega, c_24⟩), hP, hD, hS⟩ (lv_sub hl [3, 4, 0] rfl)
                      · exact absurd c_28 (by decide)
                    · exact absurd (c_13.symm.trans c_27) (by decide)
                  · exact absurd c_26 (by decide)
              · refine lv_iconst (v := nI 1) hx hb dX7_find_60 (by decide) ?_
                refine lv_goto (tgt := 65) hx hb dX7_find_61 (by decide) ?_
                refine eq_i (y := bI true) rfl ?_
                refine n_zastB (x := true) hx hb hK.1 hP hD hS 7 1 rfl rfl (j := (24 * j) + i) (by omega) (by omega) dX7_find_65 (fun H locs hP hD hS => ?_)
                have hP : va_P G.1 vwCl ([(md 0, .inr (6, [.ref (md 1), .ref (md 2), .int (nI np), .ref (md 3), .int (nI ty), .int (nI aw), .int (bI iw), .ref (md 4), .float u4, .float l4, .int (nI n4), .ref (md 5), .ref (md 6), .ref (md 7), .float fo])), (md 1, .inl (G.2 0, 354, .inl a)), (md 2, .inl (G.2 0, 2832, .inl pa)), (md 3, .inl (G.2 3, 60, .inl tb)), (md 4, .inl (G.2 0, 36, .inl qu)), (md 5, .inl (G.2 2, 288, .inr (.inr (.inl kn4)))), (md 6, .inl (G.2 1, 288, .inl (fun jj => bI (ik4 jj)))), (md 7, .inl (G.2 1, 288, .inl (fun jj => bI (va_up im4 ((24 * j) + i) true jj))))]) H := hP
                have hD : va_D A ([(md 0, .inr (6, [.ref (md 1), .ref (md 2), .int (nI np), .ref (md 3), .int (nI ty), .int (nI aw), .int (bI iw), .ref (md 4), .float u4, .float l4, .int (nI n4), .ref (md 5), .ref (md 6), .ref (md 7), .float fo])), (md 1, .inl (G.2 0, 354, .inl a)), (md 2, .inl (G.2 0, 2832, .inl pa)), (md 3, .inl (G.2 3, 60, .inl tb)), (md 4, .inl (G.2 0, 36, .inl qu)), (md 5, .inl (G.2 2, 288, .inr (.inr (.inl kn4)))), (md 6, .inl (G.2 1, 288, .inl (fun jj => bI (ik4 jj)))), (md 7, .inl (G.2 1, 288, .inl (fun jj => bI (va_up im4 ((24 * j) + i) true jj))))]) := hD
                refine lv_aload_n hx hb dX7_find_66 rfl (lv_at hl 2 rfl) ?_
                refine va_get (D := G.1) (ci := 6) (v := .ref (md 6)) (C := RX7) (T := TX7) (N := 15) hx hb hts (by decide +kernel) hown hK.1 hP 0 rfl rfl 12 (by decide) (hts (.fieldLink RX7 27 "PriceIndexCalculatorModel" "isKnown" "[Z") (by decide +kernel)) (fun _ h9 => h9) rfl dX7_find_67 ?_
                refine lv_iload_n hx hb dX7_find_70 rfl (lv_at hl 1 rfl) ?_
                refine lv_iload hx hb dX7_find_71 (lv_at hl 0 rfl) ?_
                refine nb_if_ne (B := efM a j i) (tgt := 85) hx hb dX7_find_73 (by decide) (fun c_29 => ?_) (fun c_29 => ?_)
                · exact absurd (c_13.symm.trans c_29) (by decide)
                · refine lv_aload_n hx hb dX7_find_76 rfl (lv_at hl 2 rfl) ?_
                  refine va_get (D := G.1) (ci := 6) (v := .ref (md 7)) (C := RX7) (T := TX7) (N := 15) hx hb hts (by decide +kernel) hown hK.1 hP 0 rfl rfl 13 (by decide) (hts (.fieldLink RX7 31 "PriceIndexCalculatorModel" "isMade" "[Z") (by decide +kernel)) (fun _ h9 => h9) rfl dX7_find_77 ?_
                  refine lv_iload_n hx hb dX7_find_80 rfl (lv_at hl 1 rfl) ?_
                  refine n_zald hx hb hK.1 hP 7 1 rfl rfl (j := (24 * j) + i) (by omega) (by omega) dX7_find_81 ?_
                  refine eq_i (y := bI true) (by simp [va_up]) ?_
                  refine nb_if_eq (B := true) (tgt := 89) hx hb dX7_find_82 (by decide) (fun c_30 => ?_) (fun c_30 => ?_)
                  · exact absurd c_30 (by decide)
                  · refine lv_iconst (v := nI 1) hx hb dX7_find_85 (by decide) ?_
                    refine lv_goto (tgt := 90) hx hb dX7_find_86 (by decide) ?_
                    refine eq_i (y := bI true) rfl ?_
                    refine n_zastB (x := true) hx hb hK.1 hP hD hS 6 1 rfl rfl (j := (24 * j) + i) (by omega) (by omega) dX7_find_90 (fun H locs hP hD hS => ?_)
                    have hP : va_P G.1 vwCl ([(md 0, .inr (6, [.ref (md 1), .ref (md 2), .int (nI np), .ref (md 3), .int (nI ty), .int (nI aw), .int (bI iw), .ref (md 4), .float u4, .float l4, .int (nI n4), .ref (md 5), .ref (md 6), .ref (md 7), .float fo])), (md 1, .inl (G.2 0, 354, .inl a)), (md 2, .inl (G.2 0, 2832, .inl pa)), (md 3, .inl (G.2 3, 60, .inl tb)), (md 4, .inl (G.2 0, 36, .inl qu)), (md 5, .inl (G.2 2, 288, .inr (.inr (.inl kn4)))), (md 6, .inl (G.2 1, 288, .inl (fun jj => bI (va_up ik4 ((24 * j) + i) true jj)))), (md 7, .inl (G.2 1, 288, .inl (fun jj => bI (va_up im4 ((24 * j) + i) true jj))))]) H := hP
                    have hD : va_D A ([(md 0, .inr (6, [.ref (md 1), .ref (md 2), .int (nI np), .ref (md 3), .int (nI ty), .int (nI aw), .int (bI iw), .ref (md 4), .float u4, .float l4, .int (nI n4), .ref (md 5), .ref (md 6), .ref (md 7), .float fo])), (md 1, .inl (G.2 0, 354, .inl a)), (md 2, .inl (G.2 0, 2832, .inl pa)), (md 3, .inl (G.2 3, 60, .inl tb)), (md 4, .inl (G.2 0, 36, .inl qu)), (md 5, .inl (G.2 2, 288, .inr (.inr (.inl kn4)))), (md 6, .inl (G.2 1, 288, .inl (fun jj => bI (va_up ik4 ((24 * j) + i) true jj)))), (md 7, .inl (G.2 1, 288, .inl (fun jj => bI (va_up im4 ((24 * j) + i) true jj))))]) := hD
                    refine lv_iload hx hb dX7_find_91 (lv_at hl 0 rfl) ?_
                    refine nb_if_eq (B := efM a j i) (tgt := 111) hx hb dX7_find_93 (by decide) (fun c_31 => ?_) (fun c_31 => ?_)
                    · refine lv_aload_n hx hb dX7_find_111 rfl (lv_at hl 2 rfl) ?_
                      refine va_get (D := G.1) (ci := 6) (v := .ref (md 7)) (C := RX7) (T := TX7) (N := 15) hx hb hts (by decide +kernel) hown hK.1 hP 0 rfl rfl 13 (by decide) (hts (.fieldLink RX7 31 "PriceIndexCalculatorModel" "isMade" "[Z") (by decide +kernel)) (fun _ h9 => h9) rfl dX7_find_112 ?_
                      refine lv_iload_n hx hb dX7_find_115 rfl (lv_at hl 1 rfl) ?_
                      refine n_zald hx hb hK.1 hP 7 1 rfl rfl (j := (24 * j) + i) (by omega) (by omega) dX7_find_116 ?_
                      refine eq_i (y := bI true) (by simp [va_up]) ?_
                      refine nb_if_eq (B := true) (tgt := 156) hx hb dX7_find_117 (by decide) (fun c_32 => ?_) (fun c_32 => ?_)
                      · exact absurd c_32 (by decide)
                      · refine lv_aload_n hx hb dX7_find_120 rfl (lv_at hl 2 rfl) ?_
                        refine lv_aload_n hx hb dX7_find_121 rfl (lv_at hl 2 rfl) ?_
                        refine va_get (D := G.1) (ci := 6) (v := .ref (md 1)) (C := RX7) (T := TX7) (N := 15) hx hb hts (by decide +kernel) hown hK.1 hP 0 rfl rfl 0 (by decide) (hts (.fieldLink RX7 7 "PriceIndexCalculatorModel" "s" "[I") (by decide +kernel)) (fun _ h9 => h9) rfl dX7_find_122 ?_
                        refine lv_bipush (v := nI 6) hx hb dX7_find_125 (by decide) ?_
                        refine lv_iload_n hx hb dX7_find_127 rfl (lv_at hl 4 rfl) ?_
                        refine n_add hx hb dX7_find_128 ?_
                        refine n_iald hx hb hK.1 hP 1 0 rfl rfl (j := 6 + j) (by omega) (by omega) dX7_find_129 ?_
                        refine lv_iload_n hx hb dX7_find_130 rfl (lv_at hl 3 rfl) ?_
                        refine lv_iconst (v := nI 1) hx hb dX7_find_131 (by decide) ?_
                        refine n_sub hx hb (by omega) dX7_find_132 ?_
                        refine lv_iload_n hx hb dX7_find_133 rfl (lv_at hl 3 rfl) ?_
                        refine cwD_f hd0 (va_runV_D (As := [.int (a (6 + j)), .int (nI (i - 1)), .int (nI i)]) (rest := []) ⟨hx, hb, hml, hown, hts⟩ (metX7_movement l G md a pa np tb ty aw iw qu u4 l4 n4 kn4 (va_up ik4 ((24 * j) + i) true) (va_up im4 ((24 * j) + i) true) fo hA (a (6 + j)) (i - 1) i (by omega) (by omega)) (cwV 3 hts gX7_find_X7_movement rfl rfl rfl (by decide +kernel) ⟨Nat.le_of_ble_eq_true rfl, Nat.le_of_ble_eq_true rfl⟩) (pM_V (w := mcells G md a pa np tb ty aw iw qu u4 l4 n4 kn4 (va_up ik4 ((24 * j) + i) true) (va_up im4 ((24 * j) + i) true) fo) (q0 := 0) hK hP hD rfl rfl) rfl rfl hl.1 rfl (lv_room (Nat.le_of_ble_eq_true rfl)) dX7_find_134 ⟨Nat.zero_le _, Nat.zero_le _⟩) hD hS (fun _ => rfl) (fun r_37 u_35 H locs hw_36 hP hD hS d_34 hd0 => ?_)
                        have hts := dr_words hts0 d_34
                        have hK := hK0.drawn d_34
                        obtain ⟨um33, lm33, nm33⟩ := u_35
                        try dsimp only at hw_36
                        have hP : va_P G.1 vwCl ([(md 0, .inr (6, [.ref (md 1), .ref (md 2), .int (nI np), .ref (md 3), .int (nI ty), .int (nI aw), .int (bI iw), .ref (md 4), .float um33, .float lm33, .int (nI nm33), .ref (md 5), .ref (md 6), .ref (md 7), .float fo])), (md 1, .inl (G.2 0, 354, .inl a)), (md 2, .inl (G.2 0, 2832, .inl pa)), (md 3, .inl (G.2 3, 60, .inl tb)), (md 4, .inl (G.2 0, 36, .inl qu)), (md 5, .inl (G.2 2, 288, .inr (.inr (.inl kn4)))), (md 6, .inl (G.2 1, 288, .inl (fun jj => bI (va_up ik4 ((24 * j) + i) true jj)))), (md 7, .inl (G.2 1, 288, .inl (fun jj => bI (va_up im4 ((24 * j) + i) true jj))))]) H := hP
                        have hD : va_D A ([(md 0, .inr (6, [.ref (md 1), .ref (md 2), .int (nI np), .ref (md 3), .int (nI ty), .int (nI aw), .int (bI iw), .ref (md 4), .float um33, .float lm33, .int (nI nm33), .ref (md 5), .ref (md 6), .ref (md 7), .float fo])), (md 1, .inl (G.2 0, 354, .inl a)), (md 2, .inl (G.2 0, 2832, .inl pa)), (md 3, .inl (G.2 3, 60, .inl tb)), (md 4, .inl (G.2 0, 36, .inl qu)), (md 5, .inl (G.2 2, 288, .inr (.inr (.inl kn4)))), (md 6, .inl (G.2 1, 288, .inl (fun jj => bI (va_up ik4 ((24 * j) + i) true jj)))), (md 7, .inl (G.2 1, 288, .inl (fun jj => bI (va_up im4 ((24 * j) + i) true jj))))]) := hD
                        refine lv_fstore (lv' := [(5, .float r_37), (4, .int (bI (efM a j i))), (3, .int (nI ((24 * j) + i))), (0, .ref (md 0)), (1, .int (nI i)), (2, .int (nI j))]) hx hb dX7_find_137 hl (by decide) rfl (fun ls hl => ?_)
                        refine lv_aload_n hx hb dX7_find_139 rfl (lv_at hl 3 rfl) ?_
                        refine va_get (D := G.1) (ci := 6) (v := .ref (md 5)) (C := RX7) (T := TX7) (N := 15) hx hb hts (by decide +kernel) hown hK.1 hP 0 rfl rfl 11 (by decide) (hts (.fieldLink RX7 23 "PriceIndexCalculatorModel" "known" "[F") (by decide +kernel)) (fun _ h9 => h9) rfl dX7_find_140 ?_
                        refine lv_iload_n hx hb dX7_find_143 rfl (lv_at hl 2 rfl) ?_
                        refine lv_aload_n hx hb dX7_find_144 rfl (lv_at hl 3 rfl) ?_
                        refine va_get (D := G.1) (ci := 6) (v := .ref (md 5)) (C := RX7) (T := TX7) (N := 15) hx hb hts (by decide +kernel) hown hK.1 hP 0 rfl rfl 11 (by decide) (hts (.fieldLink RX7 23 "PriceIndexCalculatorModel" "known" "[F") (by decide +kernel)) (fun _ h9 => h9) rfl dX7_find_145 ?_
                        refine lv_iload_n hx hb dX7_find_148 rfl (lv_at hl 2 rfl) ?_
                        refine lv_iconst (v := nI 1) hx hb dX7_find_149 (by decide) ?_
                        refine n_sub hx hb (by omega) dX7_find_150 ?_
                        refine n_fald hx hb hK.1 hP 5 2 rfl rfl (j := ((24 * j) + i) - 1) (by omega) (by omega) dX7_find_151 ?_
                        refine lv_fload hx hb dX7_find_152 (lv_at hl 0 rfl) ?_
                        refine lv_fmul_any hd0 lw_bits hx hb dX7_find_154 (fun r_38 d_39 ha_40 hd0 => ?_)
                        have hts := dr_words hts0 d_39
                        have hK := hK0.drawn d_39
                        have er_41 : vl r_38 = dMul (vl (kn4 (((24 * j) + i) - 1))) (mvD a (a (6 + j)) (i - 1) i) := al_fmul ha_40 rfl hw_36
                        refine n_fast hx hb hK.1 hP hD hS 5 2 rfl rfl (j := (24 * j) + i) (by omega) (by omega) dX7_find_155 (fun H locs hP hD hS => ?_)
                        have hP : va_P G.1 vwCl ([(md 0, .inr (6, [.ref (md 1), .ref (md 2), .int (nI np), .ref (md 3), .int (nI ty), .int (nI aw), .int (bI iw), .ref (md 4), .float um33, .float lm33, .int (nI nm33), .ref (md 5), .ref (md 6), .ref (md 7), .float fo])), (md 1, .inl (G.2 0, 354, .inl a)), (md 2, .inl (G.2 0, 2832, .inl pa)), (md 3, .inl (G.2 3, 60, .inl tb)), (md 4, .inl (G.2 0, 36, .inl qu)), (md 5, .inl (G.2 2, 288, .inr (.inr (.inl (vf_upd kn4 ((24 * j) + i) r_38))))), (md 6, .inl (G.2 1, 288, .inl (fun jj => bI (va_up ik4 ((24 * j) + i) true jj)))), (md 7, .inl (G.2 1, 288, .inl (fun jj => bI (va_up im4 ((24 * j) + i) true jj))))]) H := hP
                        have hD : va_D A ([(md 0, .inr (6, [.ref (md 1), .ref (md 2), .int (nI np), .ref (md 3), .int (nI ty), .int (nI aw), .int (bI iw), .ref (md 4), .float um33, .float lm33, .int (nI nm33), .ref (md 5), .ref (md 6), .ref (md 7), .float fo])), (md 1, .inl (G.2 0, 354, .inl a)), (md 2, .inl (G.2 0, 2832, .inl pa)), (md 3, .inl (G.2 3, 60, .inl tb)), (md 4, .inl (G.2 0, 36, .inl qu)), (md 5, .inl (G.2 2, 288, .inr (.inr (.inl (vf_upd kn4 ((24 * j) + i) r_38))))), (md 6, .inl (G.2 1, 288, .inl (fun jj => bI (va_up ik4 ((24 * j) + i) true jj)))), (md 7, .inl (G.2 1, 288, .inl (fun jj => bI (va_up im4 ((24 * j) + i) true jj))))]) := hD
                        refine lv_iinc (v := nI (j + 1)) (lv' := [(2, .int (nI (j + 1))), (5, .float r_37), (4, .int (bI (efM a j i))), (3, .int (nI ((24 * j) + i))), (0, .ref (md 0)), (1, .int (nI i))]) hx hb dX7_find_156 hl (k := 5) rfl (by exact nI_add _ _) (by decide) rfl (fun ls hl => ?_)
                        refine lv_goto (tgt := 10) hx hb dX7_find_159 (by decide) ?_
                        exact ih_6 (um33, lm33, nm33, vf_upd kn4 ((24 * j) + i) r_38, va_up ik4 ((24 * j) + i) true, va_up im4 ((24 * j) + i) true) _ _ _ _ hd0 ⟨fd_made (by omega) (by omega) hI_7 c_13 (by omega) c_24 rfl er_41, hP, hD, hS⟩ (lv_sub hl [4, 5, 0] rfl)
                    · exact absurd (c_13.symm.trans c_31) (by decide)
set_option maxHeartbeats 4000000 in
set_option maxRecDepth 100000 in
/-- Model.hasDirect -/
theorem metX7_hasDirect (l : Launch) (G : GG) (md : Nat → Nat) (a pa : Nat → Int32) (np : Nat) (tb : Nat → Int32) (ty aw : Nat) (iw : Bool) (qu : Nat → Int32) (up lo : UInt32) (su : Nat) (kn : Nat → UInt32) (ik im : Nat → Bool) (fo : UInt32) (hA : mWF a) (x : Int32) (fr tt : Nat) (hfr : fr < 24) (htt : tt < 24)  : MetD lw_cs l yX7_hasDirect wsX7_hasDirect ({ frames := 2, cells := 0, slots := 0, locals := 60 }) (pM G (mcells G md a pa np tb ty aw iw qu up lo su kn ik im fo) [.ref (md 0), .int x, .int (nI fr), .int (nI tt)]) (va_Qi (fun r (u : UInt32 × UInt32 × Nat × UInt32) => r = bI (decide (0 < (hdA a kn ik x fr tt (mN a)).2.2)) ∧ vl u.2.2.2 = hdF (a 4) (hdA a kn ik x fr tt (mN a))) (bM G (fun (u : UInt32 × UInt32 × Nat × UInt32) => mcells G md a pa np tb ty aw iw qu u.1 u.2.1 u.2.2.1 kn ik im u.2.2.2)) (adr (mcells G md a pa np tb ty aw iw qu up lo su kn ik im fo))) 0 0 (adr (mcells G md a pa np tb ty aw iw qu up lo su kn ik im fo)) := by
  refine MetD.ofW (cc := cX7_hasDirect) (maxL := 5) (ret := (some .boolean)) (by decide) rfl ?_
  intro p e s m args below meth c s₁ B hml hv hd0
  obtain ⟨rfl, hK, hP, hD0⟩ := hv
  have hx := B.exec
  have hb := B.bytes
  have hr := B.returns
  have hlocks := B.notSynchronized
  have hts0 := atoms_spec (ws := wsX7_hasDirect) B.pre
  have hts := dr_words hts0 s.drawn
  have hK0 := hK
  have hK := hK0.drawn s.drawn
  have hown : s.vm.findClass RX7 = some m.cls := findClass_of_methodNamed B.named
  have hD := hD0.own
  generalize hAe : adr (mcells G md a pa np tb ty aw iw qu up lo su kn ik im fo) = A at hD ⊢
  have hS : va_S A s.heap s.heap [] := va_S.rf
  have hl := lv_entry ([.ref (md 0), .int x, .int (nI fr), .int (nI tt)]) (n := 5) (Nat.le_of_ble_eq_true rfl)
  rw [lg_entry_eq]
  generalize (lg_sl ([.ref (md 0), .int x, .int (nI fr), .int (nI tt)]) ++ List.replicate (5 - (lg_sl ([.ref (md 0), .int x, .int (nI fr), .int (nI tt)])).length) Slot.unset).toArray = ls at hl ⊢
  have hl : lv_has ls 5 [(0, .ref (md 0)), (1, .int x), (2, .int (nI fr)), (3, .int (nI tt))] := hl
  have hP : va_P G.1 vwCl ([(md 0, .inr (6, [.ref (md 1), .ref (md 2), .int (nI np), .ref (md 3), .int (nI ty), .int (nI aw), .int (bI iw), .ref (md 4), .float up, .float lo, .int (nI su), .ref (md 5), .ref (md 6), .ref (md 7), .float fo])), (md 1, .inl (G.2 0, 354, .inl a)), (md 2, .inl (G.2 0, 2832, .inl pa)), (md 3, .inl (G.2 3, 60, .inl tb)), (md 4, .inl (G.2 0, 36, .inl qu)), (md 5, .inl (G.2 2, 288, .inr (.inr (.inl kn)))), (md 6, .inl (G.2 1, 288, .inl (fun jj => bI (ik jj)))), (md 7, .inl (G.2 1, 288, .inl (fun jj => bI (im jj))))]) s.heap := hP
  have hD : va_D A ([(md 0, .inr (6, [.ref (md 1), .ref (md 2), .int (nI np), .ref (md 3), .int (nI ty), .int (nI aw), .int (bI iw), .ref (md 4), .float up, .float lo, .int (nI su), .ref (md 5), .ref (md 6), .ref (md 7), .float fo])), (md 1, .inl (G.2 0, 354, .inl a)), (md 2, .inl (G.2 0, 2832, .inl pa)), (md 3, .inl (G.2 3, 60, .inl tb)), (md 4, .inl (G.2 0, 36, .inl qu)), (md 5, .inl (G.2 2, 288, .inr (.inr (.inl kn)))), (md 6, .inl (G.2 1, 288, .inl (fun jj => bI (ik jj)))), (md 7, .inl (G.2 1, 288, .inl (fun jj => bI (im jj))))]) := hD
  have hit := hA.1.2
  refine lv_aload_n hx hb dX7_hasDirect_0 rfl (lv_at hl 0 rfl) ?_
  refine cw_v (va_runV (As := []) (rest := []) ⟨hx, hb, hml, hown, hts⟩ (metX7_begin l G md a pa np tb ty aw iw qu up lo su kn ik im fo) (cwV 0 hts gX7_hasDirect_X7_begin rfl rfl rfl (by decide +kernel) ⟨Nat.le_of_ble_eq_true rfl, Nat.le_of_ble_eq_true rfl⟩) (pM_V (w := mcells G md a pa np tb ty aw iw qu up lo su kn ik im fo) (q0 := 0) hK hP hD rfl rfl) rfl rfl hl.1 rfl (lv_room (Nat.le_of_ble_eq_true rfl)) dX7_hasDirect_1 ⟨Nat.zero_le _, Nat.zero_le _⟩) hD hS (fun _ => rfl) (fun  u_1 H locs hw_2 hP hD hS => ?_)
  have hP : va_P G.1 vwCl ([(md 0, .inr (6, [.ref (md 1), .ref (md 2), .int (nI np), .ref (md 3), .int (nI ty), .int (nI aw), .int (bI iw), .ref (md 4), .float FP.fconst0, .float FP.fconst0, .int (nI 0), .ref (md 5), .ref (md 6), .ref (md 7), .float fo])), (md 1, .inl (G.2 0, 354, .inl a)), (md 2, .inl (G.2 0, 2832, .inl pa)), (md 3, .inl (G.2 3, 60, .inl tb)), (md 4, .inl (G.2 0, 36, .inl qu)), (md 5, .inl (G.2 2, 288, .inr (.inr (.inl kn)))), (md 6, .inl (G.2 1, 288, .inl (fun jj => bI (ik jj)))), (md 7, .inl (G.2 1, 288, .inl (fun jj => bI (im jj))))]) H := hP
  have hD : va_D A ([(md 0, .inr (6, [.ref (md 1), .ref (md 2), .int (nI np), .ref (md 3), .int (nI ty), .int (nI aw), .int (bI iw), .ref (md 4), .float FP.fconst0, .float FP.fconst0, .int (nI 0), .ref (md 5), .ref (md 6), .ref (md 7), .float fo])), (md 1, .inl (G.2 0, 354, .inl a)), (md 2, .inl (G.2 0, 2832, .inl pa)), (md 3, .inl (G.2 3, 60, .inl tb)), (md 4, .inl (G.2 0, 36, .inl qu)), (md 5, .inl (G.2 2, 288, .inr (.inr (.inl kn)))), (md 6, .inl (G.2 1, 288, .inl (fun jj => bI (ik jj)))), (md 7, .inl (G.2 1, 288, .inl (fun jj => bI (im jj))))]) := hD
  refine lv_iconst (v := nI 0) hx hb dX7_hasDirect_4 (by decide) ?_
  refine lv_istore (lv' := [(4, .int (nI 0)), (0, .ref (md 0)), (1, .int x), (2, .int (nI fr)), (3, .int (nI tt))]) hx hb dX7_hasDirect_5 hl (by decide) rfl (fun ls hl => ?_)
  refine lpD hd0 (S := UInt32 × UInt32 × Nat) (mN a) (fun i u H locs => (acI (hdA a kn ik x fr tt (i)) u.1 u.2.1 u.2.2) ∧ va_P G.1 vwCl ([(md 0, .inr (6, [.ref (md 1), .ref (md 2), .int (nI np), .ref (md 3), .int (nI ty), .int (nI aw), .int (bI iw), .ref (md 4), .float u.1, .float u.2.1, .int (nI u.2.2), .ref (md 5), .ref (md 6), .ref (md 7), .float fo])), (md 1, .inl (G.2 0, 354, .inl a)), (md 2, .inl (G.2 0, 2832, .inl pa)), (md 3, .inl (G.2 3, 60, .inl tb)), (md 4, .inl (G.2 0, 36, .inl qu)), (md 5, .inl (G.2 2, 288, .inr (.inr (.inl kn)))), (md 6, .inl (G.2 1, 288, .inl (fun jj => bI (ik jj)))), (md 7, .inl (G.2 1, 288, .inl (fun jj => bI (im jj))))]) H ∧ va_D A ([(md 0, .inr (6, [.ref (md 1), .ref (md 2), .int (nI np), .ref (md 3), .int (nI ty), .int (nI aw), .int (bI iw), .ref (md 4), .float u.1, .float u.2.1, .int (nI u.2.2), .ref (md 5), .ref (md 6), .ref (md 7), .float fo])), (md 1, .inl (G.2 0, 354, .inl a)), (md 2, .inl (G.2 0, 2832, .inl pa)), (md 3, .inl (G.2 3, 60, .inl tb)), (md 4, .inl (G.2 0, 36, .inl qu)), (md 5, .inl (G.2 2, 288, .inr (.inr (.inl kn)))), (md 6, .inl (G.2 1, 288, .inl (fun jj => bI (ik jj)))), (md 7, .inl (G.2 1, 288, .inl (fun jj => bI (im jj))))]) ∧ va_S A s.heap H locs) (fun i u => [(0, .ref (md 0)), (1, .int x), (2, .int (nI fr)), (3, .int (nI tt)), (4, .int (nI i))]) (fun u H locs ls d0 hd0 hI0 hl => ?_) (fun i u H locs ls d0 hd0 hi_5 hI0 hl ih_3 => ?_) (0) (FP.fconst0, FP.fconst0, 0) (by omega) ⟨⟨rfl, rfl, rfl⟩, hP, hD, hS⟩ (lv_sub hl [1, 2, 3, 4, 0] rfl)
  · obtain ⟨u3, l3, n3⟩ := u
    obtain ⟨hI_4, hP, hD, hS⟩ := hI0
    try dsimp only at hI_4
    have hl : lv_has ls 5 [(0, .ref (md 0)), (1, .int x), (2, .int (nI fr)), (3, .int (nI tt)), (4, .int (nI (mN a)))] := hl
    have hts := dr_words hts0 d0
    have hK := hK0.drawn d0
    have hP : va_P G.1 vwCl ([(md 0, .inr (6, [.ref (md 1), .ref (md 2), .int (nI np), .ref (md 3), .int (nI ty), .int (nI aw), .int (bI iw), .ref (md 4), .float u3, .float l3, .int (nI n3), .ref (md 5), .ref (md 6), .ref (md 7), .float fo])), (md 1, .inl (G.2 0, 354, .inl a)), (md 2, .inl (G.2 0, 2832, .inl pa)), (md 3, .inl (G.2 3, 60, .inl tb)), (md 4, .inl (G.2 0, 36, .inl qu)), (md 5, .inl (G.2 2, 288, .inr (.inr (.inl kn)))), (md 6, .inl (G.2 1, 288, .inl (fun jj => bI (ik jj)))), (md 7, .inl (G.2 1, 288, .inl (fun jj => bI (im jj))))]) H := hP
    have hD : va_D A ([(md 0, .inr (6, [.ref (md 1), .ref (md 2), .int (nI np), .ref (md 3), .int (nI ty), .int (nI aw), .int (bI iw), .ref (md 4), .float u3, .float l3, .int (nI n3), .ref (md 5), .ref (md 6), .ref (md 7), .float fo])), (md 1, .inl (G.2 0, 354, .inl a)), (md 2, .inl (G.2 0, 2832, .inl pa)), (md 3, .inl (G.2 3, 60, .inl tb)), (md 4, .inl (G.2 0, 36, .inl qu)), (md 5, .inl (G.2 2, 288, .inr (.inr (.inl kn)))), (md 6, .inl (G.2 1, 288, .inl (fun jj => bI (ik jj)))), (md 7, .inl (G.2 1, 288, .inl (fun jj => bI (im jj))))]) := hD
    have hle : n3 ≤ 12 := by rw [hI_4.2.2]; exact Nat.le_trans (acG_le _) (by omega)
    refine lv_iload hx hb dX7_hasDirect_7 (lv_at hl 4 rfl) ?_
    refine lv_aload_n hx hb dX7_hasDirect_9 rfl (lv_at hl 0 rfl) ?_
    refine va_get (D := G.1) (ci := 6) (v := .ref (md 1)) (C := RX7) (T := TX7) (N := 15) hx hb hts (by decide +kernel) hown hK.1 hP 0 rfl rfl 0 (by decide) (hts (.fieldLink RX7 7 "PriceIndexCalculatorModel" "s" "[I") (by decide +kernel)) (fun _ h9 => h9) rfl dX7_hasDirect_10 ?_
    refine lv_iconst (v := nI 5) hx hb dX7_hasDirect_13 (by decide) ?_
    refine n_iald hx hb hK.1 hP 1 0 rfl rfl (j := 5) (by omega) (by omega) dX7_hasDirect_14 ?_
    refine eq_i (y := nI (mN a)) (hA.1.1) ?_
    refine n_icmp_ge (x := mN a) (y := mN a) (tgt := 96) hx hb (by omega) (by omega) dX7_hasDirect_15 (by decide) (fun c_6 => ?_) (fun c_6 => ?_)
    · refine lv_aload_n hx hb dX7_hasDirect_96 rfl (lv_at hl 0 rfl) ?_
      refine lv_aload_n hx hb dX7_hasDirect_97 rfl (lv_at hl 0 rfl) ?_
      refine va_get (D := G.1) (ci := 6) (v := .int (nI n3)) (C := RX7) (T := TX7) (N := 15) hx hb hts (by decide +kernel) hown hK.1 hP 0 rfl rfl 10 (by decide) (hts (.fieldLink RX7 105 "PriceIndexCalculatorModel" "summed" "I") (by decide +kernel)) (fun _ h9 => h9) rfl dX7_hasDirect_98 ?_
      refine n_if_ne (x := n3) (tgt := 108) hx hb (by omega) dX7_hasDirect_101 (by decide) (fun c_7 => ?_) (fun c_7 => ?_)
      · refine lv_aload_n hx hb dX7_hasDirect_108 rfl (lv_at hl 0 rfl) ?_
        refine crD_f hd0 (va_runV_D (As := []) (rest := [.ref (md 0)]) ⟨hx, hb, hml, hown, hts⟩ (metX7_result l G md a pa np tb ty aw iw qu u3 l3 n3 kn ik im fo) (cwV 0 hts gX7_hasDirect_X7_result rfl rfl rfl (by decide +kernel) ⟨Nat.le_of_ble_eq_true rfl, Nat.le_of_ble_eq_true rfl⟩) (pR_V (w := mcells G md a pa np tb ty aw iw qu u3 l3 n3 kn ik im fo) (q0 := 0) hK hP rfl rfl) rfl rfl hl.1 rfl (lv_room (Nat.le_of_ble_eq_true rfl)) dX7_hasDirect_109 ⟨Nat.zero_le _, Nat.zero_le _⟩) (fun r_9 hr_10 d_8 hd0 => ?_)
        have hts := dr_words hts0 d_8
        have hK := hK0.drawn d_8
        refine lv_ldcf hx hb hown (hts (.constantFloat RX7 145 (1120403456)) (by decide +kernel)) dX7_hasDirect_112 ?_
        refine lv_fmul_any hd0 lw_bits hx hb dX7_hasDirect_114 (fun r_11 d_12 ha_13 hd0 => ?_)
        have hts := dr_words hts0 d_12
        have hK := hK0.drawn d_12
        have er_14 : vl r_11 = dMul (rsD (a 4) (vl u3) (vl l3) n3) (vl (1120403456 : UInt32)) := al_fmul ha_13 hr_10 rfl
        refine va_put (D := G.1) (ci := 6) (v := .float r_11) (ty := .float) (C := RX7) (T := TX7) (N := 15) hx hb hts (by decide +kernel) tyX7 tyX7_ok nmX7 hown hK.1 hP hD hS 0 rfl rfl 14 (by decide) (hts (.fieldLink RX7 147 "PriceIndexCalculatorModel" "found" "F") (by decide +kernel)) (fun _ h9 => h9) rfl (by decide +kernel) rfl rfl (Nat.le_of_ble_eq_true rfl) dX7_hasDirect_115 (fun H locs hP hD hS => ?_)
        have hP : va_P G.1 vwCl ([(md 0, .inr (6, [.ref (md 1), .ref (md 2), .int (nI np), .ref (md 3), .int (nI ty), .int (nI aw), .int (bI iw), .ref (md 4), .float u3, .float l3, .int (nI n3), .ref (md 5), .ref (md 6), .ref (md 7), .float r_11])), (md 1, .inl (G.2 0, 354, .inl a)), (md 2, .inl (G.2 0, 2832, .inl pa)), (md 3, .inl (G.2 3, 60, .inl tb)), (md 4, .inl (G.2 0, 36, .inl qu)), (md 5, .inl (G.2 2, 288, .inr (.inr (.inl kn)))), (md 6, .inl (G.2 1, 288, .inl (fun jj => bI (ik jj)))), (md 7, .inl (G.2 1, 288, .inl (fun jj => bI (im jj))))]) H := hP
        have hD : va_D A ([(md 0, .inr (6, [.ref (md 1), .ref (md 2), .int (nI np), .ref (md 3), .int (nI ty), .int (nI aw), .int (bI iw), .ref (md 4), .float u3, .float l3, .int (nI n3), .ref (md 5), .ref (md 6), .ref (md 7), .float r_11])), (md 1, .inl (G.2 0, 354, .inl a)), (md 2, .inl (G.2 0, 2832, .inl pa)), (md 3, .inl (G.2 3, 60, .inl tb)), (md 4, .inl (G.2 0, 36, .inl qu)), (md 5, .inl (G.2 2, 288, .inr (.inr (.inl kn)))), (md 6, .inl (G.2 1, 288, .inl (fun jj => bI (ik jj)))), (md 7, .inl (G.2 1, 288, .inl (fun jj => bI (im jj))))]) := hD
        refine lv_aload_n hx hb dX7_hasDirect_118 rfl (lv_at hl 0 rfl) ?_
        refine va_get (D := G.1) (ci := 6) (v := .int (nI n3)) (C := RX7) (T := TX7) (N := 15) hx hb hts (by decide +kernel) hown hK.1 hP 0 rfl rfl 10 (by decide) (hts (.fieldLink RX7 105 "PriceIndexCalculatorModel" "summed" "I") (by decide +kernel)) (fun _ h9 => h9) rfl dX7_hasDirect_119 ?_
        refine n_if_le (x := n3) (tgt := 129) hx hb (by omega) dX7_hasDirect_122 (by decide) (fun c_15 => ?_) (fun c_15 => ?_)
        · refine lv_iconst (v := nI 0) hx hb dX7_hasDirect_129 (by decide) ?_
          refine W.endD hd0 ?_
          have hP9 := hP
          exact W.zret (v := nI 0) (ty := .boolean) hx hb hr (by rfl) (fun t ht hW => ⟨⟨_, (u3, l3, n3, r_11), rfl, ⟨(congrArg bI (by rw [← hI_4.2.2]; simp; omega : decide (0 < (hdA a kn ik x fr tt (mN a)).2.2) = false)).symm, by unfold hdF; rw [if_neg (by rw [← hI_4.2.2]; omega), ← hI_4.1, ← hI_4.2.1, ← hI_4.2.2]; exact er_14⟩, bM_end ht hP9⟩, hS.F ht⟩) hS.2.2 dX7_hasDirect_130
        · refine lv_iconst (v := nI 1) hx hb dX7_hasDirect_125 (by decide) ?_
          refine lv_goto (tgt := 130) hx hb dX7_hasDirect_126 (by decide) ?_
          refine W.endD hd0 ?_
          have hP9 := hP
          exact W.zret (v := nI 1) (ty := .boolean) hx hb hr (by rfl) (fun t ht hW => ⟨⟨_, (u3, l3, n3, r_11), rfl, ⟨(congrArg bI (by rw [← hI_4.2.2]; simp; omega : decide (0 < (hdA a kn ik x fr tt (mN a)).2.2) = true)).symm, by unfold hdF; rw [if_neg (by rw [← hI_4.2.2]; omega), ← hI_4.1, ← hI_4.2.1, ← hI_4.2.2]; exact er_14⟩, bM_end ht hP9⟩, hS.F ht⟩) hS.2.2 dX7_hasDirect_130
      · refine lv_fconst0 hx hb dX7_hasDirect_104 ?_
        refine lv_goto (tgt := 115) hx hb dX7_hasDirect_105 (by decide) ?_
        refine va_put (D := G.1) (ci := 6) (v := .float FP.fconst0) (ty := .float) (C := RX7) (T := TX7) (N := 15) hx hb hts (by decide +kernel) tyX7 tyX7_ok nmX7 hown hK.1 hP hD hS 0 rfl rfl 14 (by decide) (hts (.fieldLink RX7 147 "PriceIndexCalculatorModel" "found" "F") (by decide +kernel)) (fun _ h9 => h9) rfl (by decide +kernel) rfl rfl (Nat.le_of_ble_eq_true rfl) dX7_hasDirect_115 (fun H locs hP hD hS => ?_)
        have hP : va_P G.1 vwCl ([(md 0, .inr (6, [.ref (md 1), .ref (md 2), .int (nI np), .ref (md 3), .int (nI ty), .int (nI aw), .int (bI iw), .ref (md 4), .float u3, .float l3, .int (nI n3), .ref (md 5), .ref (md 6), .ref (md 7), .float FP.fconst0])), (md 1, .inl (G.2 0, 354, .inl a)), (md 2, .inl (G.2 0, 2832, .inl pa)), (md 3, .inl (G.2 3, 60, .inl tb)), (md 4, .inl (G.2 0, 36, .inl qu)), (md 5, .inl (G.2 2, 288, .inr (.inr (.inl kn)))), (md 6, .inl (G.2 1, 288, .inl (fun jj => bI (ik jj)))), (md 7, .inl (G.2 1, 288, .inl (fun jj => bI (im jj))))]) H := hP
        have hD : va_D A ([(md 0, .inr (6, [.ref (md 1), .ref (md 2), .int (nI np), .ref (md 3), .int (nI ty), .int (nI aw), .int (bI iw), .ref (md 4), .float u3, .float l3, .int (nI n3), .ref (md 5), .ref (md 6), .ref (md 7), .float FP.fconst0])), (md 1, .inl (G.2 0, 354, .inl a)), (md 2, .inl (G.2 0, 2832, .inl pa)), (md 3, .inl (G.2 3, 60, .inl tb)), (md 4, .inl (G.2 0, 36, .inl qu)), (md 5, .inl (G.2 2, 288, .inr (.inr (.inl kn)))), (md 6, .inl (G.2 1, 288, .inl (fun jj => bI (ik jj)))), (md 7, .inl (G.2 1, 288, .inl (fun jj => bI (im jj))))]) := hD
        refine lv_aload_n hx hb dX7_hasDirect_118 rfl (lv_at hl 0 rfl) ?_
        refine va_get (D := G.1) (ci := 6) (v := .int (nI n3)) (C := RX7) (T := TX7) (N := 15) hx hb hts (by decide +kernel) hown hK.1 hP 0 rfl rfl 10 (by decide) (hts (.fieldLink RX7 105 "PriceIndexCalculatorModel" "summed" "I") (by decide +kernel)) (fun _ h9 => h9) rfl dX7_hasDirect_119 ?_
        refine n_if_le (x := n3) (tgt := 129) hx hb (by omega) dX7_hasDirect_122 (by decide) (fun c_16 => ?_) (fun c_16 => ?_)
        · refine lv_iconst (v := nI 0) hx hb dX7_hasDirect_129 (by decide) ?_
          refine W.endD hd0 ?_
          have hP9 := hP
          exact W.zret (v := nI 0) (ty := .boolean) hx hb hr (by rfl) (fun t ht hW => ⟨⟨_, (u3, l3, n3, FP.fconst0), rfl, ⟨(congrArg bI (by rw [← hI_4.2.2]; simp; omega : decide (0 < (hdA a kn ik x fr tt (mN a)).2.2) = false)).symm, by unfold hdF; rw [if_pos (by rw [← hI_4.2.2]; omega)]⟩, bM_end ht hP9⟩, hS.F ht⟩) hS.2.2 dX7_hasDirect_130
        · refine lv_iconst (v := nI 1) hx hb dX7_hasDirect_125 (by decide) ?_
          refine lv_goto (tgt := 130) hx hb dX7_hasDirect_126 (by decide) ?_
          refine W.endD hd0 ?_
          have hP9 := hP
          exact W.zret (v := nI 1) (ty := .boolean) hx hb hr (by rfl) (fun t ht hW => ⟨⟨_, (u3, l3, n3, FP.fconst0), rfl, ⟨(congrArg bI (by rw [← hI_4.2.2]; simp; omega : decide (0 < (hdA a kn ik x fr tt (mN a)).2.2) = true)).symm, by unfold hdF; rw [if_pos (by rw [← hI_4.2.2]; omega)]⟩, bM_end ht hP9⟩, hS.F ht⟩) hS.2.2 dX7_hasDirect_130
    · exact absurd c_6 (by omega)
  · obtain ⟨u3, l3, n3⟩ := u
    obtain ⟨hI_4, hP, hD, hS⟩ := hI0
    try dsimp only at hI_4
    have hl : lv_has ls 5 [(0, .ref (md 0)), (1, .int x), (2, .int (nI fr)), (3, .int (nI tt)), (4, .int (nI i))] := hl
    have hts := dr_words hts0 d0
    have hK := hK0.drawn d0
    have hP : va_P G.1 vwCl ([(md 0, .inr (6, [.ref (md 1), .ref (md 2), .int (nI np), .ref (md 3), .int (nI ty), .int (nI aw), .int (bI iw), .ref (md 4), .float u3, .float l3, .int (nI n3), .ref (md 5), .ref (md 6), .ref (md 7), .float fo])), (md 1, .inl (G.2 0, 354, .inl a)), (md 2, .inl (G.2 0, 2832, .inl pa)), (md 3, .inl (G.2 3, 60, .inl tb)), (md 4, .inl (G.2 0, 36, .inl qu)), (md 5, .inl (G.2 2, 288, .inr (.inr (.inl kn)))), (md 6, .inl (G.2 1, 288, .inl (fun jj => bI (ik jj)))), (md 7, .inl (G.2 1, 288, .inl (fun jj => bI (im jj))))]) H := hP
    have hD : va_D A ([(md 0, .inr (6, [.ref (md 1), .ref (md 2), .int (nI np), .ref (md 3), .int (nI ty), .int (nI aw), .int (bI iw), .ref (md 4), .float u3, .float l3, .int (nI n3), .ref (md 5), .ref (md 6), .ref (md 7), .float fo])), (md 1, .inl (G.2 0, 354, .inl a)), (md 2, .inl (G.2 0, 2832, .inl pa)), (md 3, .inl (G.2 3, 60, .inl tb)), (md 4, .inl (G.2 0, 36, .inl qu)), (md 5, .inl (G.2 2, 288, .inr (.inr (.inl kn)))), (md 6, .inl (G.2 1, 288, .inl (fun jj => bI (ik jj)))), (md 7, .inl (G.2 1, 288, .inl (fun jj => bI (im jj))))]) := hD
    have hle : n3 ≤ 12 := by rw [hI_4.2.2]; exact Nat.le_trans (acG_le _) (by omega)
    refine lv_iload hx hb dX7_hasDirect_7 (lv_at hl 4 rfl) ?_
    refine lv_aload_n hx hb dX7_hasDirect_9 rfl (lv_at hl 0 rfl) ?_
    refine va_get (D := G.1) (ci := 6) (v := .ref (md 1)) (C := RX7) (T := TX7) (N := 15) hx hb hts (by decide +kernel) hown hK.1 hP 0 rfl rfl 0 (by decide) (hts (.fieldLink RX7 7 "PriceIndexCalculatorModel" "s" "[I") (by decide +kernel)) (fun _ h9 => h9) rfl dX7_hasDirect_10 ?_
    refine lv_iconst (v := nI 5) hx hb dX7_hasDirect_13 (by decide) ?_
    refine n_iald hx hb hK.1 hP 1 0 rfl rfl (j := 5) (by omega) (by omega) dX7_hasDirect_14 ?_
    refine eq_i (y := nI (mN a)) (hA.1.1) ?_
    refine n_icmp_ge (x := i) (y := mN a) (tgt := 96) hx hb (by omega) (by omega) dX7_hasDirect_15 (by decide) (fun c_17 => ?_) (fun c_17 => ?_)
    · exact absurd c_17 (by omega)
    · refine lv_aload_n hx hb dX7_hasDirect_18 rfl (lv_at hl 0 rfl) ?_
      refine va_get (D := G.1) (ci := 6) (v := .ref (md 1)) (C := RX7) (T := TX7) (N := 15) hx hb hts (by decide +kernel) hown hK.1 hP 0 rfl rfl 0 (by decide) (hts (.fieldLink RX7 7 "PriceIndexCalculatorModel" "s" "[I") (by decide +kernel)) (fun _ h9 => h9) rfl dX7_hasDirect_19 ?_
      refine lv_bipush (v := nI 6) hx hb dX7_hasDirect_22 (by decide) ?_
      refine lv_iload hx hb dX7_hasDirect_24 (lv_at hl 4 rfl) ?_
      refine n_add hx hb dX7_hasDirect_26 ?_
      refine n_iald hx hb hK.1 hP 1 0 rfl rfl (j := 6 + i) (by omega) (by omega) dX7_hasDirect_27 ?_
      refine lv_iload_n hx hb dX7_hasDirect_28 rfl (lv_at hl 1 rfl) ?_
      refine lv_icmp_ne (tgt := 90) hx hb dX7_hasDirect_29 (by decide) (fun c_18 => ?_) (fun c_18 => ?_)
      · refine lv_iinc (v := nI (i + 1)) (lv' := [(4, .int (nI (i + 1))), (0, .ref (md 0)), (1, .int x), (2, .int (nI fr)), (3, .int (nI tt))]) hx hb dX7_hasDirect_90 hl (k := 4) rfl (by exact nI_add _ _) (by decide) rfl (fun ls hl => ?_)
        refine lv_goto (tgt := 7) hx hb dX7_hasDirect_93 (by decide) ?_
        exact ih_3 (u3, l3, n3) _ _ _ _ hd0 ⟨acI_f hI_4 (by simp [hdP, c_17, c_18]), hP, hD, hS⟩ (lv_sub hl [1, 2, 3, 4, 0] rfl)
      · refine lv_aload_n hx hb dX7_hasDirect_32 rfl (lv_at hl 0 rfl) ?_
        refine va_get (D := G.1) (ci := 6) (v := .ref (md 6)) (C := RX7) (T := TX7) (N := 15) hx hb hts (by decide +kernel) hown hK.1 hP 0 rfl rfl 12 (by decide) (hts (.fieldLink RX7 27 "PriceIndexCalculatorModel" "isKnown" "[Z") (by decide +kernel)) (fun _ h9 => h9) rfl dX7_hasDirect_33 ?_
        refine lv_bipush (v := nI 24) hx hb dX7_hasDirect_36 (by decide) ?_
        refine lv_iload hx hb dX7_hasDirect_38 (lv_at hl 4 rfl) ?_
        refine n_mul hx hb dX7_hasDirect_40 ?_
        refine lv_iload_n hx hb dX7_hasDirect_41 rfl (lv_at hl 2 rfl) ?_
        refine n_add hx hb dX7_hasDirect_42 ?_
        refine n_zald hx hb hK.1 hP 6 1 rfl rfl (j := (24 * i) + fr) (by omega) (by omega) dX7_hasDirect_43 ?_
        refine nb_if_eq (B := ik ((24 * i) + fr)) (tgt := 90) hx hb dX7_hasDirect_44 (by decide) (fun c_19 => ?_) (fun c_19 => ?_)
        · refine lv_iinc (v := nI (i + 1)) (lv' := [(4, .int (nI (i + 1))), (0, .ref (md 0)), (1, .int x), (2, .int (nI fr)), (3, .int (nI tt))]) hx hb dX7_hasDirect_90 hl (k := 4) rfl (by exact nI_add _ _) (by decide) rfl (fun ls hl => ?_)
          refine lv_goto (tgt := 7) hx hb dX7_hasDirect_93 (by decide) ?_
          exact ih_3 (u3, l3, n3) _ _ _ _ hd0 ⟨acI_f hI_4 (by simp [hdP, c_17, c_18, c_19]), hP, hD, hS⟩ (lv_sub hl [1, 2, 3, 4, 0] rfl)
        · refine lv_aload_n hx hb dX7_hasDirect_47 rfl (lv_at hl 0 rfl) ?_
          refine va_get (D := G.1) (ci := 6) (v := .ref (md 6)) (C := RX7) (T := TX7) (N := 15) hx hb hts (by decide +kernel) hown hK.1 hP 0 rfl rfl 12 (by decide) (hts (.fieldLink RX7 27 "PriceIndexCalculatorModel" "isKnown" "[Z") (by decide +kernel)) (fun _ h9 => h9) rfl dX7_hasDirect_48 ?_
          refine lv_bipush (v := nI 24) hx hb dX7_hasDirect_51 (by decide) ?_
          refine lv_iload hx hb dX7_hasDirect_53 (lv_at hl 4 rfl) ?_
          refine n_mul hx hb dX7_hasDirect_55 ?_
          refine lv_iload_n hx hb dX7_hasDirect_56 rfl (lv_at hl 3 rfl) ?_
          refine n_add hx hb dX7_hasDirect_57 ?_
          refine n_zald hx hb hK.1 hP 6 1 rfl rfl (j := (24 * i) + tt) (by omega) (by omega) dX7_hasDirect_58 ?_
          refine nb_if_eq (B := ik ((24 * i) + tt)) (tgt := 90) hx hb dX7_hasDirect_59 (by decide) (fun c_20 => ?_) (fun c_20 => ?_)
          · refine lv_iinc (v := nI (i + 1)) (lv' := [(4, .int (nI (i + 1))), (0, .ref (md 0)), (1, .int x), (2, .int (nI fr)), (3, .int (nI tt))]) hx hb dX7_hasDirect_90 hl (k := 4) rfl (by exact nI_add _ _) (by decide) rfl (fun ls hl => ?_)
            refine lv_goto (tgt := 7) hx hb dX7_hasDirect_93 (by decide) ?_
            exact ih_3 (u3, l3, n3) _ _ _ _ hd0 ⟨acI_f hI_4 (by simp [hdP, c_17, c_18, c_19, c_20]), hP, hD, hS⟩ (lv_sub hl [1, 2, 3, 4, 0] rfl)
          · refine lv_aload_n hx hb dX7_hasDirect_62 rfl (lv_at hl 0 rfl) ?_
            refine lv_aload_n hx hb dX7_hasDirect_63 rfl (lv_at hl 0 rfl) ?_
            refine va_get (D := G.1) (ci := 6) (v := .ref (md 5)) (C := RX7) (T := TX7) (N := 15) hx hb hts (by decide +kernel) hown hK.1 hP 0 rfl rfl 11 (by decide) (hts (.fieldLink RX7 23 "PriceIndexCalculatorModel" "known" "[F") (by decide +kernel)) (fun _ h9 => h9) rfl dX7_hasDirect_64 ?_
            refine lv_bipush (v := nI 24) hx hb dX7_hasDirect_67 (by decide) ?_
            refine lv_iload hx hb dX7_hasDirect_69 (lv_at hl 4 rfl) ?_
            refine n_mul hx hb dX7_hasDirect_71 ?_
            refine lv_iload_n hx hb dX7_hasDirect_72 rfl (lv_at hl 2 rfl) ?_
            refine n_add hx hb dX7_hasDirect_73 ?_
            refine n_fald hx hb hK.1 hP 5 2 rfl rfl (j := (24 * i) + fr) (by omega) (by omega) dX7_hasDirect_74 ?_
            refine lv_aload_n hx hb dX7_hasDirect_75 rfl (lv_at hl 0 rfl) ?_
            refine va_get (D := G.1) (ci := 6) (v := .ref (md 5)) (C := RX7) (T := TX7) (N := 15) hx hb hts (by decide +kernel) hown hK.1 hP 0 rfl rfl 11 (by decide) (hts (.fieldLink RX7 23 "PriceIndexCalculatorModel" "known" "[F") (by decide +kernel)) (fun _ h9 => h9) rfl dX7_hasDirect_76 ?_
            refine lv_bipush (v := nI 24) hx hb dX7_hasDirect_79 (by decide) ?_
            refine lv_iload hx hb dX7_hasDirect_81 (lv_at hl 4 rfl) ?_
            refine n_mul hx hb dX7_hasDirect_83 ?_
            refine lv_iload_n hx hb dX7_hasDirect_84 rfl (lv_at hl 3 rfl) ?_
            refine n_add hx hb dX7_hasDirect_85 ?_
            refine n_fald hx hb hK.1 hP 5 2 rfl rfl (j := (24 * i) + tt) (by omega) (by omega) dX7_hasDirect_86 ?_
            refine cwD_v hd0 (va_runV_D (As := [.float (kn ((24 * i) + fr)), .float (kn ((24 * i) + tt))]) (rest := []) ⟨hx, hb, hml, hown, hts⟩ (metX7_take l G md a pa np tb ty aw iw qu u3 l3 n3 kn ik im fo (kn ((24 * i) + fr)) (kn ((24 * i) + tt))) (cwV 2 hts gX7_hasDirect_X7_take rfl rfl rfl (by decide +kernel) ⟨Nat.le_of_ble_eq_true rfl, Nat.le_of_ble_eq_true rfl⟩) (pM_V (w := mcells G md a pa np tb ty aw iw qu u3 l3 n3 kn ik im fo) (q0 := 0) hK hP hD rfl rfl) rfl rfl hl.1 rfl (lv_room (Nat.le_of_ble_eq_true rfl)) dX7_hasDirect_87 ⟨Nat.zero_le _, Nat.zero_le _⟩) hD hS (fun _ => rfl) (fun  u_23 H locs hw_24 hP hD hS d_22 hd0 => ?_)
            have hts := dr_words hts0 d_22
            have hK := hK0.drawn d_22
            obtain ⟨ua21, la21⟩ := u_23
            try dsimp only at hw_24
            have hP : va_P G.1 vwCl ([(md 0, .inr (6, [.ref (md 1), .ref (md 2), .int (nI np), .ref (md 3), .int (nI ty), .int (nI aw), .int (bI iw), .ref (md 4), .float ua21, .float la21, .int (nI (n3 + 1)), .ref (md 5), .ref (md 6), .ref (md 7), .float fo])), (md 1, .inl (G.2 0, 354, .inl a)), (md 2, .inl (G.2 0, 2832, .inl pa)), (md 3, .inl (G.2 3, 60, .inl tb)), (md 4, .inl (G.2 0, 36, .inl qu)), (md 5, .inl (G.2 2, 288, .inr (.inr (.inl kn)))), (md 6, .inl (G.2 1, 288, .inl (fun jj => bI (ik jj)))), (md 7, .inl (G.2 1, 288, .inl (fun jj => bI (im jj))))]) H := hP
            have hD : va_D A ([(md 0, .inr (6, [.ref (md 1), .ref (md 2), .int (nI np), .ref (md 3), .int (nI ty), .int (nI aw), .int (bI iw), .ref (md 4), .float ua21, .float la21, .int (nI (n3 + 1)), .ref (md 5), .ref (md 6), .ref (md 7), .float fo])), (md 1, .inl (G.2 0, 354, .inl a)), (md 2, .inl (G.2 0, 2832, .inl pa)), (md 3, .inl (G.2 3, 60, .inl tb)), (md 4, .inl (G.2 0, 36, .inl qu)), (md 5, .inl (G.2 2, 288, .inr (.inr (.inl kn)))), (md 6, .inl (G.2 1, 288, .inl (fun jj => bI (ik jj)))), (md 7, .inl (G.2 1, 288, .inl (fun jj => bI (im jj))))]) := hD
            refine lv_iinc (v := nI (i + 1)) (lv' := [(4, .int (nI (i + 1))), (0, .ref (md 0)), (1, .int x), (2, .int (nI fr)), (3, .int (nI tt))]) hx hb dX7_hasDirect_90 hl (k := 4) rfl (by exact nI_add _ _) (by decide) rfl (fun ls hl => ?_)
            refine lv_goto (tgt := 7) hx hb dX7_hasDirect_93 (by decide) ?_
            exact ih_3 (ua21, la21, n3 + 1) _ _ _ _ hd0 ⟨acI_t hI_4 (by simp [hdP, c_18, c_19, c_20]) rfl rfl hw_24, hP, hD, hS⟩ (lv_sub hl [1, 2, 3, 4, 0] rfl)
set_option maxHeartbeats 4000000 in
set_option maxRecDepth 100000 in
/-- Model.chained -/
theorem metX7_chained (l : Launch) (G : GG) (md : Nat → Nat) (a pa : Nat → Int32) (np : Nat) (tb : Nat → Int32) (ty aw : Nat) (iw : Bool) (qu : Nat → Int32) (up lo : UInt32) (su : Nat) (kn : Nat → UInt32) (ik im : Nat → Bool) (fo : UInt32) (hA : mWF a) (x : Int32) (fr tt : Nat) (hfr : fr < 24) (htt : tt < 24) (hft : fr ≤ tt)  : MetD lw_cs l yX7_chained wsX7_chained ({ frames := 5, cells := 0, slots := 0, locals := 150 }) (pM G (mcells G md a pa np tb ty aw iw qu up lo su kn ik im fo) [.ref (md 0), .int x, .int (nI fr), .int (nI tt)]) (va_Qf (fun r (u : UInt32 × UInt32 × Nat) => vl r = chD a x fr (tt - fr)) (bM G (fun (u : UInt32 × UInt32 × Nat) => mcells G md a pa np tb ty aw iw qu u.1 u.2.1 u.2.2 kn ik im fo)) (adr (mcells G md a pa np tb ty aw iw qu up lo su kn ik im fo))) 0 0 (adr (mcells G md a pa np tb ty aw iw qu up lo su kn ik im fo)) := by
  refine MetD.ofW (cc := cX7_chained) (maxL := 6) (ret := (some .float)) (by decide) rfl ?_
  intro p e s m args below meth c s₁ B hml hv hd0
  obtain ⟨rfl, hK, hP, hD0⟩ := hv
  have hx := B.exec
  have hb := B.bytes
  have hr := B.returns
  have hlocks := B.notSynchronized
  have hts0 := atoms_spec (ws := wsX7_chained) B.pre
  have hts := dr_words hts0 s.drawn
  have hK0 := hK
  have hK := hK0.drawn s.drawn
  have hown : s.vm.findClass RX7 = some m.cls := findClass_of_methodNamed B.named
  have hD := hD0.own
  generalize hAe : adr (mcells G md a pa np tb ty aw iw qu up lo su kn ik im fo) = A at hD ⊢
  have hS : va_S A s.heap s.heap [] := va_S.rf
  have hl := lv_entry ([.ref (md 0), .int x, .int (nI fr), .int (nI tt)]) (n := 6) (Nat.le_of_ble_eq_true rfl)
  rw [lg_entry_eq]
  generalize (lg_sl ([.ref (md 0), .int x, .int (nI fr), .int (nI tt)]) ++ List.replicate (6 - (lg_sl ([.ref (md 0), .int x, .int (nI fr), .int (nI tt)])).length) Slot.unset).toArray = ls at hl ⊢
  have hl : lv_has ls 6 [(0, .ref (md 0)), (1, .int x), (2, .int (nI fr)), (3, .int (nI tt))] := hl
  have hP : va_P G.1 vwCl ([(md 0, .inr (6, [.ref (md 1), .ref (md 2), .int (nI np), .ref (md 3), .int (nI ty), .int (nI aw), .int (bI iw), .ref (md 4), .float up, .float lo, .int (nI su), .ref (md 5), .ref (md 6), .ref (md 7), .float fo])), (md 1, .inl (G.2 0, 354, .inl a)), (md 2, .inl (G.2 0, 2832, .inl pa)), (md 3, .inl (G.2 3, 60, .inl tb)), (md 4, .inl (G.2 0, 36, .inl qu)), (md 5, .inl (G.2 2, 288, .inr (.inr (.inl kn)))), (md 6, .inl (G.2 1, 288, .inl (fun jj => bI (ik jj)))), (md 7, .inl (G.2 1, 288, .inl (fun jj => bI (im jj))))]) s.heap := hP
  have hD : va_D A ([(md 0, .inr (6, [.ref (md 1), .ref (md 2), .int (nI np), .ref (md 3), .int (nI ty), .int (nI aw), .int (bI iw), .ref (md 4), .float up, .float lo, .int (nI su), .ref (md 5), .ref (md 6), .ref (md 7), .float fo])), (md 1, .inl (G.2 0, 354, .inl a)), (md 2, .inl (G.2 0, 2832, .inl pa)), (md 3, .inl (G.2 3, 60, .inl tb)), (md 4, .inl (G.2 0, 36, .inl qu)), (md 5, .inl (G.2 2, 288, .inr (.inr (.inl kn)))), (md 6, .inl (G.2 1, 288, .inl (fun jj => bI (ik jj)))), (md 7, .inl (G.2 1, 288, .inl (fun jj => bI (im jj))))]) := hD
  refine lv_ldcf hx hb hown (hts (.constantFloat RX7 145 (1120403456)) (by decide +kernel)) dX7_chained_0 ?_
  refine lv_fstore (lv' := [(4, .float (1120403456 : UInt32)), (0, .ref (md 0)), (1, .int x), (2, .int (nI fr)), (3, .int (nI tt))]) hx hb dX7_chained_2 hl (by decide) rfl (fun ls hl => ?_)
  refine lv_iload_n hx hb dX7_chained_4 rfl (lv_at hl 3 rfl) ?_
  refine lv_istore (lv' := [(5, .int (nI fr)), (4, .float (1120403456 : UInt32)), (0, .ref (md 0)), (1, .int x), (2, .int (nI fr)), (3, .int (nI tt))]) hx hb dX7_chained_5 hl (by decide) rfl (fun ls hl => ?_)
  refine lpD hd0 (S := UInt32 × UInt32 × UInt32 × Nat) (tt) (fun i u H locs => (fr ≤ i ∧ vl u.1 = chD a x fr (i - fr)) ∧ va_P G.1 vwCl ([(md 0, .inr (6, [.ref (md 1), .ref (md 2), .int (nI np), .ref (md 3), .int (nI ty), .int (nI aw), .int (bI iw), .ref (md 4), .float u.2.1, .float u.2.2.1, .int (nI u.2.2.2), .ref (md 5), .ref (md 6), .ref (md 7), .float fo])), (md 1, .inl (G.2 0, 354, .inl a)), (md 2, .inl (G.2 0, 2832, .inl pa)), (md 3, .inl (G.2 3, 60, .inl tb)), (md 4, .inl (G.2 0, 36, .inl qu)), (md 5, .inl (G.2 2, 288, .inr (.inr (.inl kn)))), (md 6, .inl (G.2 1, 288, .inl (fun jj => bI (ik jj)))), (md 7, .inl (G.2 1, 288, .inl (fun jj => bI (im jj))))]) H ∧ va_D A ([(md 0, .inr (6, [.ref (md 1), .ref (md 2), .int (nI np), .ref (md 3), .int (nI ty), .int (nI aw), .int (bI iw), .ref (md 4), .float u.2.1, .float u.2.2.1, .int (nI u.2.2.2), .ref (md 5), .ref (md 6), .ref (md 7), .float fo])), (md 1, .inl (G.2 0, 354, .inl a)), (md 2, .inl (G.2 0, 2832, .inl pa)), (md 3, .inl (G.2 3, 60, .inl tb)), (md 4, .inl (G.2 0, 36, .inl qu)), (md 5, .inl (G.2 2, 288, .inr (.inr (.inl kn)))), (md 6, .inl (G.2 1, 288, .inl (fun jj => bI (ik jj)))), (md 7, .inl (G.2 1, 288, .inl (fun jj => bI (im jj))))]) ∧ va_S A s.heap H locs) (fun i u => [(0, .ref (md 0)), (1, .int x), (2, .int (nI fr)), (3, .int (nI tt)), (4, .float u.1), (5, .int (nI i))]) (fun u H locs ls d0 hd0 hI0 hl => ?_) (fun i u H locs ls d0 hd0 hi_3 hI0 hl ih_1 => ?_) (fr) (1120403456, up, lo, su) (by omega) ⟨⟨Nat.le_refl _, by rw [Nat.sub_self]; rfl⟩, hP, hD, hS⟩ (lv_sub hl [2, 3, 4, 5, 1, 0] rfl)
  · obtain ⟨y3, u3, l3, n3⟩ := u
    obtain ⟨hI_2, hP, hD, hS⟩ := hI0
    try dsimp only at hI_2
    have hl : lv_has ls 6 [(0, .ref (md 0)), (1, .int x), (2, .int (nI fr)), (3, .int (nI tt)), (4, .float y3), (5, .int (nI tt))] := hl
    have hts := dr_words hts0 d0
    have hK := hK0.drawn d0
    have hP : va_P G.1 vwCl ([(md 0, .inr (6, [.ref (md 1), .ref (md 2), .int (nI np), .ref (md 3), .int (nI ty), .int (nI aw), .int (bI iw), .ref (md 4), .float u3, .float l3, .int (nI n3), .ref (md 5), .ref (md 6), .ref (md 7), .float fo])), (md 1, .inl (G.2 0, 354, .inl a)), (md 2, .inl (G.2 0, 2832, .inl pa)), (md 3, .inl (G.2 3, 60, .inl tb)), (md 4, .inl (G.2 0, 36, .inl qu)), (md 5, .inl (G.2 2, 288, .inr (.inr (.inl kn)))), (md 6, .inl (G.2 1, 288, .inl (fun jj => bI (ik jj)))), (md 7, .inl (G.2 1, 288, .inl (fun jj => bI (im jj))))]) H := hP
    have hD : va_D A ([(md 0, .inr (6, [.ref (md 1), .ref (md 2), .int (nI np), .ref (md 3), .int (nI ty), .int (nI aw), .int (bI iw), .ref (md 4), .float u3, .float l3, .int (nI n3), .ref (md 5), .ref (md 6), .ref (md 7), .float fo])), (md 1, .inl (G.2 0, 354, .inl a)), (md 2, .inl (G.2 0, 2832, .inl pa)), (md 3, .inl (G.2 3, 60, .inl tb)), (md 4, .inl (G.2 0, 36, .inl qu)), (md 5, .inl (G.2 2, 288, .inr (.inr (.inl kn)))), (md 6, .inl (G.2 1, 288, .inl (fun jj => bI (ik jj)))), (md 7, .inl (G.2 1, 288, .inl (fun jj => bI (im jj))))]) := hD
    have hfi := hI_2.1
    refine lv_iload hx hb dX7_chained_7 (lv_at hl 5 rfl) ?_
    refine lv_iload_n hx hb dX7_chained_9 rfl (lv_at hl 3 rfl) ?_
    refine n_icmp_ge (x := tt) (y := tt) (tgt := 35) hx hb (by omega) (by omega) dX7_chained_10 (by decide) (fun c_4 => ?_) (fun c_4 => ?_)
    · refine lv_fload hx hb dX7_chained_35 (lv_at hl 4 rfl) ?_
      refine W.endD hd0 ?_
      have hP9 := hP
      exact W.fret (v := y3) hx hb hr (fun t ht hW => ⟨⟨_, (u3, l3, n3), rfl, hI_2.2, bM_end ht hP9⟩, hS.F ht⟩) hS.2.2 dX7_chained_37
    · exact absurd c_4 (by omega)
  · obtain ⟨y3, u3, l3, n3⟩ := u
    obtain ⟨hI_2, hP, hD, hS⟩ := hI0
    try dsimp only at hI_2
    have hl : lv_has ls 6 [(0, .ref (md 0)), (1, .int x), (2, .int (nI fr)), (3, .int (nI tt)), (4, .float y3), (5, .int (nI i))] := hl
    have hts := dr_words hts0 d0
    have hK := hK0.drawn d0
    have hP : va_P G.1 vwCl ([(md 0, .inr (6, [.ref (md 1), .ref (md 2), .int (nI np), .ref (md 3), .int (nI ty), .int (nI aw), .int (bI iw), .ref (md 4), .float u3, .float l3, .int (nI n3), .ref (md 5), .ref (md 6), .ref (md 7), .float fo])), (md 1, .inl (G.2 0, 354, .inl a)), (md 2, .inl (G.2 0, 2832, .inl pa)), (md 3, .inl (G.2 3, 60, .inl tb)), (md 4, .inl (G.2 0, 36, .inl qu)), (md 5, .inl (G.2 2, 288, .inr (.inr (.inl kn)))), (md 6, .inl (G.2 1, 288, .inl (fun jj => bI (ik jj)))), (md 7, .inl (G.2 1, 288, .inl (fun jj => bI (im jj))))]) H := hP
    have hD : va_D A ([(md 0, .inr (6, [.ref (md 1), .ref (md 2), .int (nI np), .ref (md 3), .int (nI ty), .int (nI aw), .int (bI iw), .ref (md 4), .float u3, .float l3, .int (nI n3), .ref (md 5), .ref (md 6), .ref (md 7), .float fo])), (md 1, .inl (G.2 0, 354, .inl a)), (md 2, .inl (G.2 0, 2832, .inl pa)), (md 3, .inl (G.2 3, 60, .inl tb)), (md 4, .inl (G.2 0, 36, .inl qu)), (md 5, .inl (G.2 2, 288, .inr (.inr (.inl kn)))), (md 6, .inl (G.2 1, 288, .inl (fun jj => bI (ik jj)))), (md 7, .inl (G.2 1, 288, .inl (fun jj => bI (im jj))))]) := hD
    have hfi := hI_2.1
    refine lv_iload hx hb dX7_chained_7 (lv_at hl 5 rfl) ?_
    refine lv_iload_n hx hb dX7_chained_9 rfl (lv_at hl 3 rfl) ?_
    refine n_icmp_ge (x := i) (y := tt) (tgt := 35) hx hb (by omega) (by omega) dX7_chained_10 (by decide) (fun c_5 => ?_) (fun c_5 => ?_)
    · exact absurd c_5 (by omega)
    · refine lv_fload hx hb dX7_chained_13 (lv_at hl 4 rfl) ?_
      refine lv_aload_n hx hb dX7_chained_15 rfl (lv_at hl 0 rfl) ?_
      refine lv_iload_n hx hb dX7_chained_16 rfl (lv_at hl 1 rfl) ?_
      refine lv_iload hx hb dX7_chained_17 (lv_at hl 5 rfl) ?_
      refine lv_iload hx hb dX7_chained_19 (lv_at hl 5 rfl) ?_
      refine lv_iconst (v := nI 1) hx hb dX7_chained_21 (by decide) ?_
      refine n_add hx hb dX7_chained_22 ?_
      refine cwD_f hd0 (va_runV_D (As := [.int x, .int (nI i), .int (nI (i + 1))]) (rest := [.float y3]) ⟨hx, hb, hml, hown, hts⟩ (metX7_movement l G md a pa np tb ty aw iw qu u3 l3 n3 kn ik im fo hA x i (i + 1) (by omega) (by omega)) (cwV 3 hts gX7_chained_X7_movement rfl rfl rfl (by decide +kernel) ⟨Nat.le_of_ble_eq_true rfl, Nat.le_of_ble_eq_true rfl⟩) (pM_V (w := mcells G md a pa np tb ty aw iw qu u3 l3 n3 kn ik im fo) (q0 := 0) hK hP hD rfl rfl) rfl rfl hl.1 rfl (lv_room (Nat.le_of_ble_eq_true rfl)) dX7_chained_23 ⟨Nat.zero_le _, Nat.zero_le _⟩) hD hS (fun _ => rfl) (fun r_10 u_8 H locs hw_9 hP hD hS d_7 hd0 => ?_)
      have hts := dr_words hts0 d_7
      have hK := hK0.drawn d_7
      obtain ⟨um6, lm6, nm6⟩ := u_8
      try dsimp only at hw_9
      have hP : va_P G.1 vwCl ([(md 0, .inr (6, [.ref (md 1), .ref (md 2), .int (nI np), .ref (md 3), .int (nI ty), .int (nI aw), .int (bI iw), .ref (md 4), .float um6, .float lm6, .int (nI nm6), .ref (md 5), .ref (md 6), .ref (md 7), .float fo])), (md 1, .inl (G.2 0, 354, .inl a)), (md 2, .inl (G.2 0, 2832, .inl pa)), (md 3, .inl (G.2 3, 60, .inl tb)), (md 4, .inl (G.2 0, 36, .inl qu)), (md 5, .inl (G.2 2, 288, .inr (.inr (.inl kn)))), (md 6, .inl (G.2 1, 288, .inl (fun jj => bI (ik jj)))), (md 7, .inl (G.2 1, 288, .inl (fun jj => bI (im jj))))]) H := hP
      have hD : va_D A ([(md 0, .inr (6, [.ref (md 1), .ref (md 2), .int (nI np), .ref (md 3), .int (nI ty), .int (nI aw), .int (bI iw), .ref (md 4), .float um6, .float lm6, .int (nI nm6), .ref (md 5), .ref (md 6), .ref (md 7), .float fo])), (md 1, .inl (G.2 0, 354, .inl a)), (md 2, .inl (G.2 0, 2832, .inl pa)), (md 3, .inl (G.2 3, 60, .inl tb)), (md 4, .inl (G.2 0, 36, .inl qu)), (md 5, .inl (G.2 2, 288, .inr (.inr (.inl kn)))), (md 6, .inl (G.2 1, 288, .inl (fun jj => bI (ik jj)))), (md 7, .inl (G.2 1, 288, .inl (fun jj => bI (im jj))))]) := hD
      refine lv_fmul_any hd0 lw_bits hx hb dX7_chained_26 (fun r_11 d_12 ha_13 hd0 => ?_)
      have hts := dr_words hts0 d_12
      have hK := hK0.drawn d_12
      have er_14 : vl r_11 = dMul (vl y3) (mvD a x i (i + 1)) := al_fmul ha_13 rfl hw_9
      refine lv_fstore (lv' := [(4, .float r_11), (0, .ref (md 0)), (1, .int x), (2, .int (nI fr)), (3, .int (nI tt)), (5, .int (nI i))]) hx hb dX7_chained_27 hl (by decide) rfl (fun ls hl => ?_)
      refine lv_iinc (v := nI (i + 1)) (lv' := [(5, .int (nI (i + 1))), (4, .float r_11), (0, .ref (md 0)), (1, .int x), (2, .int (nI fr)), (3, .int (nI tt))]) hx hb dX7_chained_29 hl (k := 5) rfl (by exact nI_add _ _) (by decide) rfl (fun ls hl => ?_)
      refine lv_goto (tgt := 7) hx hb dX7_chained_32 (by decide) ?_
      exact ih_1 (r_11, um6, lm6, nm6) _ _ _ _ hd0 ⟨⟨by omega, by rw [er_14, hI_2.2, show (i + 1) - fr = (i - fr) + 1 by omega, chD, show fr + (i - fr) = i by omega]⟩, hP, hD, hS⟩ (lv_sub hl [2, 3, 4, 5, 1, 0] rfl)
set_option maxHeartbeats 4000000 in
set_option maxRecDepth 100000 in
/-- Model.hasAggregate -/
theorem metX7_hasAggregate (l : Launch) (G : GG) (md : Nat → Nat) (a pa : Nat → Int32) (np : Nat) (tb : Nat → Int32) (ty aw : Nat) (iw : Bool) (qu : Nat → Int32) (up lo : UInt32) (su : Nat) (kn : Nat → UInt32) (ik im : Nat → Bool) (fo : UInt32) (hA : mWF a) (hw4 : ∀ k, k < 4 → 0 ≤ (a (0 + k)).toInt ∧ (a (0 + k)).toInt ≤ 100) (fr tt : Nat) (hfr : fr < 24) (htt : tt < 24)  : MetD lw_cs l yX7_hasAggregate wsX7_hasAggregate ({ frames := 6, cells := 0, slots := 0, locals := 180 }) (pM G (mcells G md a pa np tb ty aw iw qu up lo su kn ik im fo) [.ref (md 0), .int (nI fr), .int (nI tt)]) (va_Qi (fun r (u : MS) => r = bI (decide (0 < (agD a fr tt 4).2)) ∧ vl u.2.2.2.2.2.2 = aggD a fr tt) (bM G (fun (u : MS) => mcells G md a pa np tb ty aw iw qu u.1 u.2.1 u.2.2.1 u.2.2.2.1 u.2.2.2.2.1 u.2.2.2.2.2.1 u.2.2.2.2.2.2)) (adr (mcells G md a pa np tb ty aw iw qu up lo su kn ik im fo))) 0 0 (adr (mcells G md a pa np tb ty aw iw qu up lo su kn ik im fo)) := by
  refine MetD.ofW (cc := cX7_hasAggregate) (maxL := 6) (ret := (some .boolean)) (by decide) rfl ?_
  intro p e s m args below meth c s₁ B hml hv hd0
  obtain ⟨rfl, hK, hP, hD0⟩ := hv
  have hx := B.exec
  have hb := B.bytes
  have hr := B.returns
  have hlocks := B.notSynchronized
  have hts0 := atoms_spec (ws := wsX7_hasAggregate) B.pre
  have hts := dr_words hts0 s.drawn
  have hK0 := hK
  have hK := hK0.drawn s.drawn
  have hown : s.vm.findClass RX7 = some m.cls := findClass_of_methodNamed B.named
  have hD := hD0.own
  generalize hAe : adr (mcells G md a pa np tb ty aw iw qu up lo su kn ik im fo) = A at hD ⊢
  have hS : va_S A s.heap s.heap [] := va_S.rf
  have hl := lv_entry ([.ref (md 0), .int (nI fr), .int (nI tt)]) (n := 6) (Nat.le_of_ble_eq_true rfl)
  rw [lg_entry_eq]
  generalize (lg_sl ([.ref (md 0), .int (nI fr), .int (nI tt)]) ++ List.replicate (6 - (lg_sl ([.ref (md 0), .int (nI fr), .int (nI tt)])).length) Slot.unset).toArray = ls at hl ⊢
  have hl : lv_has ls 6 [(0, .ref (md 0)), (1, .int (nI fr)), (2, .int (nI tt))] := hl
  have hP : va_P G.1 vwCl ([(md 0, .inr (6, [.ref (md 1), .ref (md 2), .int (nI np), .ref (md 3), .int (nI ty), .int (nI aw), .int (bI iw), .ref (md 4), .float up, .float lo, .int (nI su), .ref (md 5), .ref (md 6), .ref (md 7), .float fo])), (md 1, .inl (G.2 0, 354, .inl a)), (md 2, .inl (G.2 0, 2832, .inl pa)), (md 3, .inl (G.2 3, 60, .inl tb)), (md 4, .inl (G.2 0, 36, .inl qu)), (md 5, .inl (G.2 2, 288, .inr (.inr (.inl kn)))), (md 6, .inl (G.2 1, 288, .inl (fun jj => bI (ik jj)))), (md 7, .inl (G.2 1, 288, .inl (fun jj => bI (im jj))))]) s.heap := hP
  have hD : va_D A ([(md 0, .inr (6, [.ref (md 1), .ref (md 2), .int (nI np), .ref (md 3), .int (nI ty), .int (nI aw), .int (bI iw), .ref (md 4), .float up, .float lo, .int (nI su), .ref (md 5), .ref (md 6), .ref (md 7), .float fo])), (md 1, .inl (G.2 0, 354, .inl a)), (md 2, .inl (G.2 0, 2832, .inl pa)), (md 3, .inl (G.2 3, 60, .inl tb)), (md 4, .inl (G.2 0, 36, .inl qu)), (md 5, .inl (G.2 2, 288, .inr (.inr (.inl kn)))), (md 6, .inl (G.2 1, 288, .inl (fun jj => bI (ik jj)))), (md 7, .inl (G.2 1, 288, .inl (fun jj => bI (im jj))))]) := hD
  have hit := hA.1.2
  refine lv_aload_n hx hb dX7_hasAggregate_0 rfl (lv_at hl 0 rfl) ?_
  refine cwD_v hd0 (va_runV_D (As := []) (rest := []) ⟨hx, hb, hml, hown, hts⟩ (metX7_find l G md a pa np tb ty aw iw qu up lo su kn ik im fo hA) (cwV 0 hts gX7_hasAggregate_X7_find rfl rfl rfl (by decide +kernel) ⟨Nat.le_of_ble_eq_true rfl, Nat.le_of_ble_eq_true rfl⟩) (pM_V (w := mcells G md a pa np tb ty aw iw qu up lo su kn ik im fo) (q0 := 0) hK hP hD rfl rfl) rfl rfl hl.1 rfl (lv_room (Nat.le_of_ble_eq_true rfl)) dX7_hasAggregate_1 ⟨Nat.zero_le _, Nat.zero_le _⟩) hD hS (fun _ => rfl) (fun  u_2 H locs hw_3 hP hD hS d_1 hd0 => ?_)
  have hts := dr_words hts0 d_1
  have hK := hK0.drawn d_1
  obtain ⟨u5, l5, n5, kn5, ik5, im5, f5⟩ := u_2
  try dsimp only at hw_3
  have hF := hw_3
  have hP : va_P G.1 vwCl ([(md 0, .inr (6, [.ref (md 1), .ref (md 2), .int (nI np), .ref (md 3), .int (nI ty), .int (nI aw), .int (bI iw), .ref (md 4), .float u5, .float l5, .int (nI n5), .ref (md 5), .ref (md 6), .ref (md 7), .float f5])), (md 1, .inl (G.2 0, 354, .inl a)), (md 2, .inl (G.2 0, 2832, .inl pa)), (md 3, .inl (G.2 3, 60, .inl tb)), (md 4, .inl (G.2 0, 36, .inl qu)), (md 5, .inl (G.2 2, 288, .inr (.inr (.inl kn5)))), (md 6, .inl (G.2 1, 288, .inl (fun jj => bI (ik5 jj)))), (md 7, .inl (G.2 1, 288, .inl (fun jj => bI (im5 jj))))]) H := hP
  have hD : va_D A ([(md 0, .inr (6, [.ref (md 1), .ref (md 2), .int (nI np), .ref (md 3), .int (nI ty), .int (nI aw), .int (bI iw), .ref (md 4), .float u5, .float l5, .int (nI n5), .ref (md 5), .ref (md 6), .ref (md 7), .float f5])), (md 1, .inl (G.2 0, 354, .inl a)), (md 2, .inl (G.2 0, 2832, .inl pa)), (md 3, .inl (G.2 3, 60, .inl tb)), (md 4, .inl (G.2 0, 36, .inl qu)), (md 5, .inl (G.2 2, 288, .inr (.inr (.inl kn5)))), (md 6, .inl (G.2 1, 288, .inl (fun jj => bI (ik5 jj)))), (md 7, .inl (G.2 1, 288, .inl (fun jj => bI (im5 jj))))]) := hD
  refine lv_fconst0 hx hb dX7_hasAggregate_4 ?_
  refine lv_fstore_n (lv' := [(3, .float FP.fconst0), (0, .ref (md 0)), (1, .int (nI fr)), (2, .int (nI tt))]) hx hb dX7_hasAggregate_5 rfl hl (by decide) rfl (fun ls hl => ?_)
  refine lv_iconst (v := nI 0) hx hb dX7_hasAggregate_6 (by decide) ?_
  refine lv_istore (lv' := [(4, .int (nI 0)), (3, .float FP.fconst0), (0, .ref (md 0)), (1, .int (nI fr)), (2, .int (nI tt))]) hx hb dX7_hasAggregate_7 hl (by decide) rfl (fun ls hl => ?_)
  refine lv_iconst (v := nI 0) hx hb dX7_hasAggregate_9 (by decide) ?_
  refine lv_istore (lv' := [(5, .int (nI 0)), (4, .int (nI 0)), (3, .float FP.fconst0), (0, .ref (md 0)), (1, .int (nI fr)), (2, .int (nI tt))]) hx hb dX7_hasAggregate_10 hl (by decide) rfl (fun ls hl => ?_)
  refine lpD hd0 (S := UInt32 × Int32 × UInt32 × UInt32 × Nat × UInt32) (4) (fun i u H locs => (vl u.1 = (agD a fr tt (i)).1 ∧ u.2.1 = (agD a fr tt (i)).2) ∧ va_P G.1 vwCl ([(md 0, .inr (6, [.ref (md 1), .ref (md 2), .int (nI np), .ref (md 3), .int (nI ty), .int (nI aw), .int (bI iw), .ref (md 4), .float u.2.2.1, .float u.2.2.2.1, .int (nI u.2.2.2.2.1), .ref (md 5), .ref (md 6), .ref (md 7), .float u.2.2.2.2.2])), (md 1, .inl (G.2 0, 354, .inl a)), (md 2, .inl (G.2 0, 2832, .inl pa)), (md 3, .inl (G.2 3, 60, .inl tb)), (md 4, .inl (G.2 0, 36, .inl qu)), (md 5, .inl (G.2 2, 288, .inr (.inr (.inl kn5)))), (md 6, .inl (G.2 1, 288, .inl (fun jj => bI (ik5 jj)))), (md 7, .inl (G.2 1, 288, .inl (fun jj => bI (im5 jj))))]) H ∧ va_D A ([(md 0, .inr (6, [.ref (md 1), .ref (md 2), .int (nI np), .ref (md 3), .int (nI ty), .int (nI aw), .int (bI iw), .ref (md 4), .float u.2.2.1, .float u.2.2.2.1, .int (nI u.2.2.2.2.1), .ref (md 5), .ref (md 6), .ref (md 7), .float u.2.2.2.2.2])), (md 1, .inl (G.2 0, 354, .inl a)), (md 2, .inl (G.2 0, 2832, .inl pa)), (md 3, .inl (G.2 3, 60, .inl tb)), (md 4, .inl (G.2 0, 36, .inl qu)), (md 5, .inl (G.2 2, 288, .inr (.inr (.inl kn5)))), (md 6, .inl (G.2 1, 288, .inl (fun jj => bI (ik5 jj)))), (md 7, .inl (G.2 1, 288, .inl (fun jj => bI (im5 jj))))]) ∧ va_S A s.heap H locs) (fun i u => [(0, .ref (md 0)), (1, .int (nI fr)), (2, .int (nI tt)), (3, .float u.1), (4, .int u.2.1), (5, .int (nI i))]) (fun u H locs ls d0 hd0 hI0 hl => ?_) (fun i u H locs ls d0 hd0 hi_6 hI0 hl ih_4 => ?_) (0) (FP.fconst0, (nI 0), u5, l5, n5, f5) (by omega) ⟨⟨by simp only [agD], by simp only [agD]⟩, hP, hD, hS⟩ (lv_sub hl [3, 4, 5, 2, 1, 0] rfl)
  · obtain ⟨y3, w3, u6, l6, n6, f6⟩ := u
    obtain ⟨hI_5, hP, hD, hS⟩ := hI0
    try dsimp only at hI_5
    have hl : lv_has ls 6 [(0, .ref (md 0)), (1, .int (nI fr)), (2, .int (nI tt)), (3, .float y3), (4, .int w3), (5, .int (nI 4))] := hl
    have hts := dr_words hts0 d0
    have hK := hK0.drawn d0
    have hP : va_P G.1 vwCl ([(md 0, .inr (6, [.ref (md 1), .ref (md 2), .int (nI np), .ref (md 3), .int (nI ty), .int (nI aw), .int (bI iw), .ref (md 4), .float u6, .float l6, .int (nI n6), .ref (md 5), .ref (md 6), .ref (md 7), .float f6])), (md 1, .inl (G.2 0, 354, .inl a)), (md 2, .inl (G.2 0, 2832, .inl pa)), (md 3, .inl (G.2 3, 60, .inl tb)), (md 4, .inl (G.2 0, 36, .inl qu)), (md 5, .inl (G.2 2, 288, .inr (.inr (.inl kn5)))), (md 6, .inl (G.2 1, 288, .inl (fun jj => bI (ik5 jj)))), (md 7, .inl (G.2 1, 288, .inl (fun jj => bI (im5 jj))))]) H := hP
    have hD : va_D A ([(md 0, .inr (6, [.ref (md 1), .ref (md 2), .int (nI np), .ref (md 3), .int (nI ty), .int (nI aw), .int (bI iw), .ref (md 4), .float u6, .float l6, .int (nI n6), .ref (md 5), .ref (md 6), .ref (md 7), .float f6])), (md 1, .inl (G.2 0, 354, .inl a)), (md 2, .inl (G.2 0, 2832, .inl pa)), (md 3, .inl (G.2 3, 60, .inl tb)), (md 4, .inl (G.2 0, 36, .inl qu)), (md 5, .inl (G.2 2, 288, .inr (.inr (.inl kn5)))), (md 6, .inl (G.2 1, 288, .inl (fun jj => bI (ik5 jj)))), (md 7, .inl (G.2 1, 288, .inl (fun jj => bI (im5 jj))))]) := hD
    refine lv_iload hx hb dX7_hasAggregate_12 (lv_at hl 5 rfl) ?_
    refine lv_iconst (v := nI 4) hx hb dX7_hasAggregate_14 (by decide) ?_
    refine n_icmp_ge (x := 4) (y := 4) (tgt := 67) hx hb (by omega) (by omega) dX7_hasAggregate_15 (by decide) (fun c_7 => ?_) (fun c_7 => ?_)
    · refine lv_aload_n hx hb dX7_hasAggregate_67 rfl (lv_at hl 0 rfl) ?_
      refine lv_iload hx hb dX7_hasAggregate_68 (lv_at hl 4 rfl) ?_
      refine lv_if_ne (tgt := 77) hx hb dX7_hasAggregate_70 (by decide) (fun c_8 => ?_) (fun c_8 => ?_)
      · refine lv_fload_n hx hb dX7_hasAggregate_77 rfl (lv_at hl 3 rfl) ?_
        refine lv_iload hx hb dX7_hasAggregate_78 (lv_at hl 4 rfl) ?_
        refine lv_i2f hx hb dX7_hasAggregate_80 ?_
        refine lv_fdiv_any hd0 lw_bits hx hb dX7_hasAggregate_81 (fun r_9 d_10 ha_11 hd0 => ?_)
        have hts := dr_words hts0 d_10
        have hK := hK0.drawn d_10
        have er_12 : vl r_9 = dDiv (vl y3) (vl (FP.i2f w3)) := al_fdiv ha_11 rfl rfl
        refine va_put (D := G.1) (ci := 6) (v := .float r_9) (ty := .float) (C := RX7) (T := TX7) (N := 15) hx hb hts (by decide +kernel) tyX7 tyX7_ok nmX7 hown hK.1 hP hD hS 0 rfl rfl 14 (by decide) (hts (.fieldLink RX7 147 "PriceIndexCalculatorModel" "found" "F") (by decide +kernel)) (fun _ h9 => h9) rfl (by decide +kernel) rfl rfl (Nat.le_of_ble_eq_true rfl) dX7_hasAggregate_82 (fun H locs hP hD hS => ?_)
        have hP : va_P G.1 vwCl ([(md 0, .inr (6, [.ref (md 1), .ref (md 2), .int (nI np), .ref (md 3), .int (nI ty), .int (nI aw), .int (bI iw), .ref (md 4), .float u6, .float l6, .int (nI n6), .ref (md 5), .ref (md 6), .ref (md 7), .float r_9])), (md 1, .inl (G.2 0, 354, .inl a)), (md 2, .inl (G.2 0, 2832, .inl pa)), (md 3, .inl (G.2 3, 60, .inl tb)), (md 4, .inl (G.2 0, 36, .inl qu)), (md 5, .inl (G.2 2, 288, .inr (.inr (.inl kn5)))), (md 6, .inl (G.2 1, 288, .inl (fun jj => bI (ik5 jj)))), (md 7, .inl (G.2 1, 288, .inl (fun jj => bI (im5 jj))))]) H := hP
        have hD : va_D A ([(md 0, .inr (6, [.ref (md 1), .ref (md 2), .int (nI np), .ref (md 3), .int (nI ty), .int (nI aw), .int (bI iw), .ref (md 4), .float u6, .float l6, .int (nI n6), .ref (md 5), .ref (md 6), .ref (md 7), .float r_9])), (md 1, .inl (G.2 0, 354, .inl a)), (md 2, .inl (G.2 0, 2832, .inl pa)), (md 3, .inl (G.2 3, 60, .inl tb)), (md 4, .inl (G.2 0, 36, .inl qu)), (md 5, .inl (G.2 2, 288, .inr (.inr (.inl kn5)))), (md 6, .inl (G.2 1, 288, .inl (fun jj => bI (ik5 jj)))), (md 7, .inl (G.2 1, 288, .inl (fun jj => bI (im5 jj))))]) := hD
        refine lv_iload hx hb dX7_hasAggregate_85 (lv_at hl 4 rfl) ?_
        refine lv_if_le (tgt := 94) hx hb dX7_hasAggregate_87 (by decide) (fun c_13 => ?_) (fun c_13 => ?_)
        · refine lv_iconst (v := nI 0) hx hb dX7_hasAggregate_94 (by decide) ?_
          refine W.endD hd0 ?_
          have hP9 := hP
          exact W.zret (v := nI 0) (ty := .boolean) hx hb hr (by rfl) (fun t ht hW => ⟨⟨_, (u6, l6, n6, kn5, ik5, im5, r_9), rfl, ⟨(congrArg bI (by rw [← hI_5.2]; simpa using c_13 : decide (0 < (agD a fr tt 4).2) = false)).symm, by unfold aggD; rw [← hI_5.2, if_neg c_8, ← hI_5.1]; exact er_12⟩, bM_end ht hP9⟩, hS.F ht⟩) hS.2.2 dX7_hasAggregate_95
        · refine lv_iconst (v := nI 1) hx hb dX7_hasAggregate_90 (by decide) ?_
          refine lv_goto (tgt := 95) hx hb dX7_hasAggregate_91 (by decide) ?_
          refine W.endD hd0 ?_
          have hP9 := hP
          exact W.zret (v := nI 1) (ty := .boolean) hx hb hr (by rfl) (fun t ht hW => ⟨⟨_, (u6, l6, n6, kn5, ik5, im5, r_9), rfl, ⟨(congrArg bI (by rw [← hI_5.2]; simpa using c_13 : decide (0 < (agD a fr tt 4).2) = true)).symm, by unfold aggD; rw [← hI_5.2, if_neg c_8, ← hI_5.1]; exact er_12⟩, bM_end ht hP9⟩, hS.F ht⟩) hS.2.2 dX7_hasAggregate_95
      · refine lv_fconst0 hx hb dX7_hasAggregate_73 ?_
        refine lv_goto (tgt := 82) hx hb dX7_hasAggregate_74 (by decide) ?_
        refine va_put (D := G.1) (ci := 6) (v := .float FP.fconst0) (ty := .float) (C := RX7) (T := TX7) (N := 15) hx hb hts (by decide +kernel) tyX7 tyX7_ok nmX7 hown hK.1 hP hD hS 0 rfl rfl 14 (by decide) (hts (.fieldLink RX7 147 "PriceIndexCalculatorModel" "found" "F") (by decide +kernel)) (fun _ h9 => h9) rfl (by decide +kernel) rfl rfl (Nat.le_of_ble_eq_true rfl) dX7_hasAggregate_82 (fun H locs hP hD hS => ?_)
        have hP : va_P G.1 vwCl ([(md 0, .inr (6, [.ref (md 1), .ref (md 2), .int (nI np), .ref (md 3), .int (nI ty), .int (nI aw), .int (bI iw), .ref (md 4), .float u6, .float l6, .int (nI n6), .ref (md 5), .ref (md 6), .ref (md 7), .float FP.fconst0])), (md 1, .inl (G.2 0, 354, .inl a)), (md 2, .inl (G.2 0, 2832, .inl pa)), (md 3, .inl (G.2 3, 60, .inl tb)), (md 4, .inl (G.2 0, 36, .inl qu)), (md 5, .inl (G.2 2, 288, .inr (.inr (.inl kn5)))), (md 6, .inl (G.2 1, 288, .inl (fun jj => bI (ik5 jj)))), (md 7, .inl (G.2 1, 288, .inl (fun jj => bI (im5 jj))))]) H := hP
        have hD : va_D A ([(md 0, .inr (6, [.ref (md 1), .ref (md 2), .int (nI np), .ref (md 3), .int (nI ty), .int (nI aw), .int (bI iw), .ref (md 4), .float u6, .float l6, .int (nI n6), .ref (md 5), .ref (md 6), .ref (md 7), .float FP.fconst0])), (md 1, .inl (G.2 0, 354, .inl a)), (md 2, .inl (G.2 0, 2832, .inl pa)), (md 3, .inl (G.2 3, 60, .inl tb)), (md 4, .inl (G.2 0, 36, .inl qu)), (md 5, .inl (G.2 2, 288, .inr (.inr (.inl kn5)))), (md 6, .inl (G.2 1, 288, .inl (fun jj => bI (ik5 jj)))), (md 7, .inl (G.2 1, 288, .inl (fun jj => bI (im5 jj))))]) := hD
        refine lv_iload hx hb dX7_hasAggregate_85 (lv_at hl 4 rfl) ?_
        refine lv_if_le (tgt := 94) hx hb dX7_hasAggregate_87 (by decide) (fun c_14 => ?_) (fun c_14 => ?_)
        · refine lv_iconst (v := nI 0) hx hb dX7_hasAggregate_94 (by decide) ?_
          refine W.endD hd0 ?_
          have hP9 := hP
          exact W.zret (v := nI 0) (ty := .boolean) hx hb hr (by rfl) (fun t ht hW => ⟨⟨_, (u6, l6, n6, kn5, ik5, im5, FP.fconst0), rfl, ⟨(congrArg bI (by rw [← hI_5.2]; simpa using c_14 : decide (0 < (agD a fr tt 4).2) = false)).symm, by unfold aggD; rw [← hI_5.2, if_pos c_8]⟩, bM_end ht hP9⟩, hS.F ht⟩) hS.2.2 dX7_hasAggregate_95
        · refine lv_iconst (v := nI 1) hx hb dX7_hasAggregate_90 (by decide) ?_
          refine lv_goto (tgt := 95) hx hb dX7_hasAggregate_91 (by decide) ?_
          refine W.endD hd0 ?_
          have hP9 := hP
          exact W.zret (v := nI 1) (ty := .boolean) hx hb hr (by rfl) (fun t ht hW => ⟨⟨_, (u6, l6, n6, kn5, ik5, im5, FP.fconst0), rfl, ⟨(congrArg bI (by rw [← hI_5.2]; simpa using c_14 : decide (0 < (agD a fr tt 4).2) = true)).symm, by unfold aggD; rw [← hI_5.2, if_pos c_8]⟩, bM_end ht hP9⟩, hS.F ht⟩) hS.2.2 dX7_hasAggregate_95
    · exact absurd c_7 (by omega)
  · obtain ⟨y3, w3, u6, l6, n6, f6⟩ := u
    obtain ⟨hI_5, hP, hD, hS⟩ := hI0
    try dsimp only at hI_5
    have hl : lv_has ls 6 [(0, .ref (md 0)), (1, .int (nI fr)), (2, .int (nI tt)), (3, .float y3), (4, .int w3), (5, .int (nI i))] := hl
    have hts := dr_words hts0 d0
    have hK := hK0.drawn d0
    have hP : va_P G.1 vwCl ([(md 0, .inr (6, [.ref (md 1), .ref (md 2), .int (nI np), .ref (md 3), .int (nI ty), .int (nI aw), .int (bI iw), .ref (md 4), .float u6, .float l6, .int (nI n6), .ref (md 5), .ref (md 6), .ref (md 7), .float f6])), (md 1, .inl (G.2 0, 354, .inl a)), (md 2, .inl (G.2 0, 2832, .inl pa)), (md 3, .inl (G.2 3, 60, .inl tb)), (md 4, .inl (G.2 0, 36, .inl qu)), (md 5, .inl (G.2 2, 288, .inr (.inr (.inl kn5)))), (md 6, .inl (G.2 1, 288, .inl (fun jj => bI (ik5 jj)))), (md 7, .inl (G.2 1, 288, .inl (fun jj => bI (im5 jj))))]) H := hP
    have hD : va_D A ([(md 0, .inr (6, [.ref (md 1), .ref (md 2), .int (nI np), .ref (md 3), .int (nI ty), .int (nI aw), .int (bI iw), .ref (md 4), .float u6, .float l6, .int (nI n6), .ref (md 5), .ref (md 6), .ref (md 7), .float f6])), (md 1, .inl (G.2 0, 354, .inl a)), (md 2, .inl (G.2 0, 2832, .inl pa)), (md 3, .inl (G.2 3, 60, .inl tb)), (md 4, .inl (G.2 0, 36, .inl qu)), (md 5, .inl (G.2 2, 288, .inr (.inr (.inl kn5)))), (md 6, .inl (G.2 1, 288, .inl (fun jj => bI (ik5 jj)))), (md 7, .inl (G.2 1, 288, .inl (fun jj => bI (im5 jj))))]) := hD
    refine lv_iload hx hb dX7_hasAggregate_12 (lv_at hl 5 rfl) ?_
    refine lv_iconst (v := nI 4) hx hb dX7_hasAggregate_14 (by decide) ?_
    refine n_icmp_ge (x := i) (y := 4) (tgt := 67) hx hb (by omega) (by omega) dX7_hasAggregate_15 (by decide) (fun c_15 => ?_) (fun c_15 => ?_)
    · exact absurd c_15 (by omega)
    · refine lv_aload_n hx hb dX7_hasAggregate_18 rfl (lv_at hl 0 rfl) ?_
      refine lv_iload hx hb dX7_hasAggregate_19 (lv_at hl 5 rfl) ?_
      refine lv_iload_n hx hb dX7_hasAggregate_21 rfl (lv_at hl 1 rfl) ?_
      refine lv_iload_n hx hb dX7_hasAggregate_22 rfl (lv_at hl 2 rfl) ?_
      refine cwD_i hd0 (va_runV_D (As := [.int (nI i), .int (nI fr), .int (nI tt)]) (rest := []) ⟨hx, hb, hml, hown, hts⟩ (metX7_hasDirect l G md a pa np tb ty aw iw qu u6 l6 n6 kn5 ik5 im5 f6 hA (nI i) fr tt (by omega) (by omega)) (cwV 3 hts gX7_hasAggregate_X7_hasDirect rfl rfl rfl (by decide +kernel) ⟨Nat.le_of_ble_eq_true rfl, Nat.le_of_ble_eq_true rfl⟩) (pM_V (w := mcells G md a pa np tb ty aw iw qu u6 l6 n6 kn5 ik5 im5 f6) (q0 := 0) hK hP hD rfl rfl) rfl rfl hl.1 rfl (lv_room (Nat.le_of_ble_eq_true rfl)) dX7_hasAggregate_23 ⟨Nat.zero_le _, Nat.zero_le _⟩) hD hS (fun _ => rfl) (fun r_20 u_18 H locs hw_19 hP hD hS d_17 hd0 => ?_)
      have hts := dr_words hts0 d_17
      have hK := hK0.drawn d_17
      obtain ⟨uh16, lh16, nh16, fh16⟩ := u_18
      try dsimp only at hw_19
      rw [hdA_eq hF (x := (nI i)) (fr := fr) (tt := tt) (by omega) (by omega)] at hw_19
      have hw_19a : r_20 = bI (diH a (nI i) fr tt) := hw_19.1
      have hw_19b : vl fh16 = diD a (nI i) fr tt := hw_19.2
      subst hw_19a
      have hP : va_P G.1 vwCl ([(md 0, .inr (6, [.ref (md 1), .ref (md 2), .int (nI np), .ref (md 3), .int (nI ty), .int (nI aw), .int (bI iw), .ref (md 4), .float uh16, .float lh16, .int (nI nh16), .ref (md 5), .ref (md 6), .ref (md 7), .float fh16])), (md 1, .inl (G.2 0, 354, .inl a)), (md 2, .inl (G.2 0, 2832, .inl pa)), (md 3, .inl (G.2 3, 60, .inl tb)), (md 4, .inl (G.2 0, 36, .inl qu)), (md 5, .inl (G.2 2, 288, .inr (.inr (.inl kn5)))), (md 6, .inl (G.2 1, 288, .inl (fun jj => bI (ik5 jj)))), (md 7, .inl (G.2 1, 288, .inl (fun jj => bI (im5 jj))))]) H := hP
      have hD : va_D A ([(md 0, .inr (6, [.ref (md 1), .ref (md 2), .int (nI np), .ref (md 3), .int (nI ty), .int (nI aw), .int (bI iw), .ref (md 4), .float uh16, .float lh16, .int (nI nh16), .ref (md 5), .ref (md 6), .ref (md 7), .float fh16])), (md 1, .inl (G.2 0, 354, .inl a)), (md 2, .inl (G.2 0, 2832, .inl pa)), (md 3, .inl (G.2 3, 60, .inl tb)), (md 4, .inl (G.2 0, 36, .inl qu)), (md 5, .inl (G.2 2, 288, .inr (.inr (.inl kn5)))), (md 6, .inl (G.2 1, 288, .inl (fun jj => bI (ik5 jj)))), (md 7, .inl (G.2 1, 288, .inl (fun jj => bI (im5 jj))))]) := hD
      refine nb_if_eq (B := diH a (nI i) fr tt) (tgt := 61) hx hb dX7_hasAggregate_26 (by decide) (fun c_21 => ?_) (fun c_21 => ?_)
      · refine lv_iinc (v := nI (i + 1)) (lv' := [(5, .int (nI (i + 1))), (0, .ref (md 0)), (1, .int (nI fr)), (2, .int (nI tt)), (3, .float y3), (4, .int w3)]) hx hb dX7_hasAggregate_61 hl (k := 5) rfl (by exact nI_add _ _) (by decide) rfl (fun ls hl => ?_)
        refine lv_goto (tgt := 12) hx hb dX7_hasAggregate_64 (by decide) ?_
        exact ih_4 (y3, w3, uh16, lh16, nh16, fh16) _ _ _ _ hd0 ⟨⟨by rw [agD, if_neg (by rw [c_21]; decide)]; exact hI_5.1, by rw [agD, if_neg (by rw [c_21]; decide)]; exact hI_5.2⟩, hP, hD, hS⟩ (lv_sub hl [1, 2, 3, 4, 5, 0] rfl)
      · refine lv_fload_n hx hb dX7_hasAggregate_29 rfl (lv_at hl 3 rfl) ?_
        refine lv_aload_n hx hb dX7_hasAggregate_30 rfl (lv_at hl 0 rfl) ?_
        refine va_get (D := G.1) (ci := 6) (v := .ref (md 1)) (C := RX7) (T := TX7) (N := 15) hx hb hts (by decide +kernel) hown hK.1 hP 0 rfl rfl 0 (by decide) (hts (.fieldLink RX7 7 "PriceIndexCalculatorModel" "s" "[I") (by decide +kernel)) (fun _ h9 => h9) rfl dX7_hasAggregate_31 ?_
        refine lv_iconst (v := nI 0) hx hb dX7_hasAggregate_34 (by decide) ?_
        refine lv_iload hx hb dX7_hasAggregate_35 (lv_at hl 5 rfl) ?_
        refine n_add hx hb dX7_hasAggregate_37 ?_
        refine n_iald hx hb hK.1 hP 1 0 rfl rfl (j := 0 + i) (by omega) (by omega) dX7_hasAggregate_38 ?_
        refine lv_i2f hx hb dX7_hasAggregate_39 ?_
        refine lv_aload_n hx hb dX7_hasAggregate_40 rfl (lv_at hl 0 rfl) ?_
        refine va_get (D := G.1) (ci := 6) (v := .float fh16) (C := RX7) (T := TX7) (N := 15) hx hb hts (by decide +kernel) hown hK.1 hP 0 rfl rfl 14 (by decide) (hts (.fieldLink RX7 147 "PriceIndexCalculatorModel" "found" "F") (by decide +kernel)) (fun _ h9 => h9) rfl dX7_hasAggregate_41 ?_
        refine lv_fmul_any hd0 lw_bits hx hb dX7_hasAggregate_44 (fun r_22 d_23 ha_24 hd0 => ?_)
        have hts := dr_words hts0 d_23
        have hK := hK0.drawn d_23
        have er_25 : vl r_22 = dMul (vl (FP.i2f (a (0 + i)))) (diD a (nI i) fr tt) := al_fmul ha_24 rfl hw_19b
        refine lv_fadd_any hd0 lw_bits hx hb dX7_hasAggregate_45 (fun r_26 d_27 ha_28 hd0 => ?_)
        have hts := dr_words hts0 d_27
        have hK := hK0.drawn d_27
        have er_29 : vl r_26 = dAdd (vl y3) (dMul (vl (FP.i2f (a (0 + i)))) (diD a (nI i) fr tt)) := al_fadd ha_28 rfl er_25
        refine lv_fstore_n (lv' := [(3, .float r_26), (0, .ref (md 0)), (1, .int (nI fr)), (2, .int (nI tt)), (4, .int w3), (5, .int (nI i))]) hx hb dX7_hasAggregate_46 rfl hl (by decide) rfl (fun ls hl => ?_)
        refine lv_iload hx hb dX7_hasAggregate_47 (lv_at hl 4 rfl) ?_
        refine lv_aload_n hx hb dX7_hasAggregate_49 rfl (lv_at hl 1 rfl) ?_
        refine va_get (D := G.1) (ci := 6) (v := .ref (md 1)) (C := RX7) (T := TX7) (N := 15) hx hb hts (by decide +kernel) hown hK.1 hP 0 rfl rfl 0 (by decide) (hts (.fieldLink RX7 7 "PriceIndexCalculatorModel" "s" "[I") (by decide +kernel)) (fun _ h9 => h9) rfl dX7_hasAggregate_50 ?_
        refine lv_iconst (v := nI 0) hx hb dX7_hasAggregate_53 (by decide) ?_
        refine lv_iload hx hb dX7_hasAggregate_54 (lv_at hl 5 rfl) ?_
        refine n_add hx hb dX7_hasAggregate_56 ?_
        refine n_iald hx hb hK.1 hP 1 0 rfl rfl (j := 0 + i) (by omega) (by omega) dX7_hasAggregate_57 ?_
        refine lv_iadd hx hb dX7_hasAggregate_58 ?_
        refine lv_istore (lv' := [(4, .int (w3 + (a (0 + i)))), (3, .float r_26), (0, .ref (md 0)), (1, .int (nI fr)), (2, .int (nI tt)), (5, .int (nI i))]) hx hb dX7_hasAggregate_59 hl (by decide) rfl (fun ls hl => ?_)
        refine lv_iinc (v := nI (i + 1)) (lv' := [(5, .int (nI (i + 1))), (4, .int (w3 + (a (0 + i)))), (3, .float r_26), (0, .ref (md 0)), (1, .int (nI fr)), (2, .int (nI tt))]) hx hb dX7_hasAggregate_61 hl (k := 5) rfl (by exact nI_add _ _) (by decide) rfl (fun ls hl => ?_)
        refine lv_goto (tgt := 12) hx hb dX7_hasAggregate_64 (by decide) ?_
        exact ih_4 (r_26, w3 + (a (0 + i)), uh16, lh16, nh16, fh16) _ _ _ _ hd0 ⟨⟨by rw [agD, if_pos c_21, er_29, hI_5.1], by rw [agD, if_pos c_21, hI_5.2]⟩, hP, hD, hS⟩ (lv_sub hl [3, 4, 5, 2, 1, 0] rfl)
set_option maxHeartbeats 4000000 in
set_option maxRecDepth 100000 in
/-- Model.knownPriceBits -/
theorem metX7_knownPriceBits (l : Launch) (G : GG) (md : Nat → Nat) (a pa : Nat → Int32) (np : Nat) (tb : Nat → Int32) (ty aw : Nat) (iw : Bool) (qu : Nat → Int32) (up lo : UInt32) (su : Nat) (kn : Nat → UInt32) (ik im : Nat → Bool) (fo : UInt32) (hA : mWF a) (y1 y2 : Int32) : MetD lw_cs l yX7_knownPriceBits wsX7_knownPriceBits ({ frames := 6, cells := 0, slots := 0, locals := 180 }) (pM G (mcells G md a pa np tb ty aw iw qu up lo su kn ik im fo) [.ref (md 0), .int y1, .int y2]) (va_Qi (fun r (_ : MS) => r = mKBf a y1 y2) (bM G (fun (u : MS) => mcells G md a pa np tb ty aw iw qu u.1 u.2.1 u.2.2.1 u.2.2.2.1 u.2.2.2.2.1 u.2.2.2.2.2.1 u.2.2.2.2.2.2)) (adr (mcells G md a pa np tb ty aw iw qu up lo su kn ik im fo))) 0 0 (adr (mcells G md a pa np tb ty aw iw qu up lo su kn ik im fo)) := by
  refine MetD.ofW (cc := cX7_knownPriceBits) (maxL := 3) (ret := (some .int)) (by decide) rfl ?_
  intro p e s m args below meth c s₁ B hml hv hd0
  obtain ⟨rfl, hK, hP, hD0⟩ := hv
  have hx := B.exec
  have hb := B.bytes
  have hr := B.returns
  have hlocks := B.notSynchronized
  have hts0 := atoms_spec (ws := wsX7_knownPriceBits) B.pre
  have hts := dr_words hts0 s.drawn
  have hK0 := hK
  have hK := hK0.drawn s.drawn
  have hown : s.vm.findClass RX7 = some m.cls := findClass_of_methodNamed B.named
  have hD := hD0.own
  generalize hAe : adr (mcells G md a pa np tb ty aw iw qu up lo su kn ik im fo) = A at hD ⊢
  have hS : va_S A s.heap s.heap [] := va_S.rf
  have hl := lv_entry ([.ref (md 0), .int y1, .int y2]) (n := 3) (Nat.le_of_ble_eq_true rfl)
  rw [lg_entry_eq]
  generalize (lg_sl ([.ref (md 0), .int y1, .int y2]) ++ List.replicate (3 - (lg_sl ([.ref (md 0), .int y1, .int y2])).length) Slot.unset).toArray = ls at hl ⊢
  have hl : lv_has ls 3 [(0, .ref (md 0)), (1, .int y1), (2, .int y2)] := hl
  have hP : va_P G.1 vwCl ([(md 0, .inr (6, [.ref (md 1), .ref (md 2), .int (nI np), .ref (md 3), .int (nI ty), .int (nI aw), .int (bI iw), .ref (md 4), .float up, .float lo, .int (nI su), .ref (md 5), .ref (md 6), .ref (md 7), .float fo])), (md 1, .inl (G.2 0, 354, .inl a)), (md 2, .inl (G.2 0, 2832, .inl pa)), (md 3, .inl (G.2 3, 60, .inl tb)), (md 4, .inl (G.2 0, 36, .inl qu)), (md 5, .inl (G.2 2, 288, .inr (.inr (.inl kn)))), (md 6, .inl (G.2 1, 288, .inl (fun jj => bI (ik jj)))), (md 7, .inl (G.2 1, 288, .inl (fun jj => bI (im jj))))]) s.heap := hP
  have hD : va_D A ([(md 0, .inr (6, [.ref (md 1), .ref (md 2), .int (nI np), .ref (md 3), .int (nI ty), .int (nI aw), .int (bI iw), .ref (md 4), .float up, .float lo, .int (nI su), .ref (md 5), .ref (md 6), .ref (md 7), .float fo])), (md 1, .inl (G.2 0, 354, .inl a)), (md 2, .inl (G.2 0, 2832, .inl pa)), (md 3, .inl (G.2 3, 60, .inl tb)), (md 4, .inl (G.2 0, 36, .inl qu)), (md 5, .inl (G.2 2, 288, .inr (.inr (.inl kn)))), (md 6, .inl (G.2 1, 288, .inl (fun jj => bI (ik jj)))), (md 7, .inl (G.2 1, 288, .inl (fun jj => bI (im jj))))]) := hD
  have hit := hA.1.2
  have hC := hA.1
  refine lv_aload_n hx hb dX7_knownPriceBits_0 rfl (lv_at hl 0 rfl) ?_
  refine lv_iload_n hx hb dX7_knownPriceBits_1 rfl (lv_at hl 1 rfl) ?_
  refine cr_i (va_runV (As := [.int y1]) (rest := []) ⟨hx, hb, hml, hown, hts⟩ (metX7_isItem l G md [.ref (md 2), .int (nI np), .ref (md 3), .int (nI ty), .int (nI aw), .int (bI iw), .ref (md 4), .float up, .float lo, .int (nI su), .ref (md 5), .ref (md 6), .ref (md 7), .float fo] a hA.1 y1) (cwV 1 hts gX7_knownPriceBits_X7_isItem rfl rfl rfl (by decide +kernel) ⟨Nat.le_of_ble_eq_true rfl, Nat.le_of_ble_eq_true rfl⟩) (pR_V (q0 := 0) hK (hP.sub (ws' := scells G md [.ref (md 2), .int (nI np), .ref (md 3), .int (nI ty), .int (nI aw), .int (bI iw), .ref (md 4), .float up, .float lo, .int (nI su), .ref (md 5), .ref (md 6), .ref (md 7), .float fo] a) [0, 1] rfl) rfl rfl) rfl rfl hl.1 rfl (lv_room (Nat.le_of_ble_eq_true rfl)) dX7_knownPriceBits_2 ⟨Nat.zero_le _, Nat.zero_le _⟩) (fun r_1 hr_2 => ?_)
  subst hr_2
  refine nb_if_eq (B := isItM a y1) (tgt := 15) hx hb dX7_knownPriceBits_5 (by decide) (fun c_3 => ?_) (fun c_3 => ?_)
  · refine lv_iconst (v := (-1)) hx hb dX7_knownPriceBits_15 (by decide) ?_
    refine W.endD hd0 ?_
    have hP9 := hP
    exact W.iret (v := (-1)) hx hb hr (fun t ht hW => ⟨⟨_, (up, lo, su, kn, ik, im, fo), rfl, (by simp [mKBf, c_3]), bM_end ht hP9⟩, hS.F ht⟩) hS.2.2 dX7_knownPriceBits_16
  · refine lv_iload_n hx hb dX7_knownPriceBits_8 rfl (lv_at hl 2 rfl) ?_
    refine cr_i (va_runS (As := [.int y2]) (rest := []) ⟨hx, hb, hml, hown, hts⟩ (metX7_isMonth l G y2) (va_cwS 1 hts gX7_knownPriceBits_X7_isMonth rfl rfl rfl (by decide +kernel) ⟨Nat.le_of_ble_eq_true rfl, Nat.le_of_ble_eq_true rfl⟩) (pR_S hK (va_P_nil _ _ _)) rfl rfl hl.1 rfl (lv_room (Nat.le_of_ble_eq_true rfl)) dX7_knownPriceBits_9 ⟨Nat.zero_le _, Nat.zero_le _⟩) (fun r_4 hr_5 => ?_)
    subst hr_5
    refine nb_if_ne (B := isMonM y2) (tgt := 17) hx hb dX7_knownPriceBits_12 (by decide) (fun c_6 => ?_) (fun c_6 => ?_)
    · obtain ⟨k1, hk1, rfl⟩ := isItM_nat hA.1 c_3
      obtain ⟨k2, hk2, rfl⟩ := isMon_nat ((isMonM_eq _).symm.trans c_6)
      have hit := hA.1.2
      have hl : lv_has ls 3 [(0, .ref (md 0)), (1, .int (nI k1)), (2, .int (nI k2))] := hl
      refine lv_aload_n hx hb dX7_knownPriceBits_17 rfl (lv_at hl 0 rfl) ?_
      refine cwD_v hd0 (va_runV_D (As := []) (rest := []) ⟨hx, hb, hml, hown, hts⟩ (metX7_find l G md a pa np tb ty aw iw qu up lo su kn ik im fo hA) (cwV 0 hts gX7_knownPriceBits_X7_find rfl rfl rfl (by decide +kernel) ⟨Nat.le_of_ble_eq_true rfl, Nat.le_of_ble_eq_true rfl⟩) (pM_V (w := mcells G md a pa np tb ty aw iw qu up lo su kn ik im fo) (q0 := 0) hK hP hD rfl rfl) rfl rfl hl.1 rfl (lv_room (Nat.le_of_ble_eq_true rfl)) dX7_knownPriceBits_18 ⟨Nat.zero_le _, Nat.zero_le _⟩) hD hS (fun _ => rfl) (fun  u_8 H locs hw_9 hP hD hS d_7 hd0 => ?_)
      have hts := dr_words hts0 d_7
      have hK := hK0.drawn d_7
      obtain ⟨u5, l5, n5, kn5, ik5, im5, f5⟩ := u_8
      try dsimp only at hw_9
      have hF := hw_9
      have hP : va_P G.1 vwCl ([(md 0, .inr (6, [.ref (md 1), .ref (md 2), .int (nI np), .ref (md 3), .int (nI ty), .int (nI aw), .int (bI iw), .ref (md 4), .float u5, .float l5, .int (nI n5), .ref (md 5), .ref (md 6), .ref (md 7), .float f5])), (md 1, .inl (G.2 0, 354, .inl a)), (md 2, .inl (G.2 0, 2832, .inl pa)), (md 3, .inl (G.2 3, 60, .inl tb)), (md 4, .inl (G.2 0, 36, .inl qu)), (md 5, .inl (G.2 2, 288, .inr (.inr (.inl kn5)))), (md 6, .inl (G.2 1, 288, .inl (fun jj => bI (ik5 jj)))), (md 7, .inl (G.2 1, 288, .inl (fun jj => bI (im5 jj))))]) H := hP
      have hD : va_D A ([(md 0, .inr (6, [.ref (md 1), .ref (md 2), .int (nI np), .ref (md 3), .int (nI ty), .int (nI aw), .int (bI iw), .ref (md 4), .float u5, .float l5, .int (nI n5), .ref (md 5), .ref (md 6), .ref (md 7), .float f5])), (md 1, .inl (G.2 0, 354, .inl a)), (md 2, .inl (G.2 0, 2832, .inl pa)), (md 3, .inl (G.2 3, 60, .inl tb)), (md 4, .inl (G.2 0, 36, .inl qu)), (md 5, .inl (G.2 2, 288, .inr (.inr (.inl kn5)))), (md 6, .inl (G.2 1, 288, .inl (fun jj => bI (ik5 jj)))), (md 7, .inl (G.2 1, 288, .inl (fun jj => bI (im5 jj))))]) := hD
      refine lv_aload_n hx hb dX7_knownPriceBits_21 rfl (lv_at hl 0 rfl) ?_
      refine va_get (D := G.1) (ci := 6) (v := .ref (md 6)) (C := RX7) (T := TX7) (N := 15) hx hb hts (by decide +kernel) hown hK.1 hP 0 rfl rfl 12 (by decide) (hts (.fieldLink RX7 27 "PriceIndexCalculatorModel" "isKnown" "[Z") (by decide +kernel)) (fun _ h9 => h9) rfl dX7_knownPriceBits_22 ?_
      refine lv_bipush (v := nI 24) hx hb dX7_knownPriceBits_25 (by decide) ?_
      refine lv_iload_n hx hb dX7_knownPriceBits_27 rfl (lv_at hl 1 rfl) ?_
      refine n_mul hx hb dX7_knownPriceBits_28 ?_
      refine lv_iload_n hx hb dX7_knownPriceBits_29 rfl (lv_at hl 2 rfl) ?_
      refine n_add hx hb dX7_knownPriceBits_30 ?_
      refine n_zald hx hb hK.1 hP 6 1 rfl rfl (j := (24 * k1) + k2) (by omega) (by omega) dX7_knownPriceBits_31 ?_
      refine nb_if_eq (B := ik5 ((24 * k1) + k2)) (tgt := 52) hx hb dX7_knownPriceBits_32 (by decide) (fun c_10 => ?_) (fun c_10 => ?_)
      · refine lv_bipush (v := (-9)) hx hb dX7_knownPriceBits_52 (by decide) ?_
        refine W.endD hd0 ?_
        have hP9 := hP
        exact W.iret (v := (-9)) hx hb hr (fun t ht hW => ⟨⟨_, (u5, l5, n5, kn5, ik5, im5, f5), rfl, (by rw [mKBf, if_pos (by simp [c_3, c_6, c_10]), nC_nI (k := k1) (by omega), nC_nI (k := k2) (by omega)]; obtain ⟨q1, q2, q3⟩ := hF k1 hk1 k2 hk2; rw [if_neg (by rw [← q1, c_10]; decide)]), bM_end ht hP9⟩, hS.F ht⟩) hS.2.2 dX7_knownPriceBits_54
      · refine lv_aload_n hx hb dX7_knownPriceBits_35 rfl (lv_at hl 0 rfl) ?_
        refine va_get (D := G.1) (ci := 6) (v := .ref (md 5)) (C := RX7) (T := TX7) (N := 15) hx hb hts (by decide +kernel) hown hK.1 hP 0 rfl rfl 11 (by decide) (hts (.fieldLink RX7 23 "PriceIndexCalculatorModel" "known" "[F") (by decide +kernel)) (fun _ h9 => h9) rfl dX7_knownPriceBits_36 ?_
        refine lv_bipush (v := nI 24) hx hb dX7_knownPriceBits_39 (by decide) ?_
        refine lv_iload_n hx hb dX7_knownPriceBits_41 rfl (lv_at hl 1 rfl) ?_
        refine n_mul hx hb dX7_knownPriceBits_42 ?_
        refine lv_iload_n hx hb dX7_knownPriceBits_43 rfl (lv_at hl 2 rfl) ?_
        refine n_add hx hb dX7_knownPriceBits_44 ?_
        refine n_fald hx hb hK.1 hP 5 2 rfl rfl (j := (24 * k1) + k2) (by omega) (by omega) dX7_knownPriceBits_45 ?_
        refine cr_i (va_runS (As := [.float (kn5 ((24 * k1) + k2))]) (rest := []) ⟨hx, hb, hml, hown, hts⟩ (metJxf58ca_floatToIntBits_5c35a l G (kn5 ((24 * k1) + k2))) (va_cwS 1 hts gX7_knownPriceBits_Jxf58ca_floatToIntBits_5c35a rfl rfl rfl (by decide +kernel) ⟨Nat.le_of_ble_eq_true rfl, Nat.le_of_ble_eq_true rfl⟩) (pR_S hK (va_P_nil _ _ _)) rfl rfl hl.1 rfl (lv_room (Nat.le_of_ble_eq_true rfl)) dX7_knownPriceBits_46 ⟨Nat.zero_le _, Nat.zero_le _⟩) (fun r_11 hr_12 => ?_)
        subst hr_12
        refine lv_goto (tgt := 54) hx hb dX7_knownPriceBits_49 (by decide) ?_
        refine W.endD hd0 ?_
        have hP9 := hP
        exact W.iret (v := bitD (vl (kn5 ((24 * k1) + k2)))) hx hb hr (fun t ht hW => ⟨⟨_, (u5, l5, n5, kn5, ik5, im5, f5), rfl, (by rw [mKBf, if_pos (by simp [c_3, c_6, c_10]), nC_nI (k := k1) (by omega), nC_nI (k := k2) (by omega)]; obtain ⟨q1, q2, q3⟩ := hF k1 hk1 k2 hk2; rw [if_pos (by rw [← q1]; exact c_10), q3 (by rw [← q1]; exact c_10)]), bM_end ht hP9⟩, hS.F ht⟩) hS.2.2 dX7_knownPriceBits_54
    · refine lv_iconst (v := (-1)) hx hb dX7_knownPriceBits_15 (by decide) ?_
      refine W.endD hd0 ?_
      have hP9 := hP
      exact W.iret (v := (-1)) hx hb hr (fun t ht hW => ⟨⟨_, (up, lo, su, kn, ik, im, fo), rfl, (by simp [mKBf, c_3, c_6]), bM_end ht hP9⟩, hS.F ht⟩) hS.2.2 dX7_knownPriceBits_16
set_option maxHeartbeats 4000000 in
set_option maxRecDepth 100000 in
/-- Model.isImputed -/
theorem metX7_isImputed (l : Launch) (G : GG) (md : Nat → Nat) (a pa : Nat → Int32) (np : Nat) (tb : Nat → Int32) (ty aw : Nat) (iw : Bool) (qu : Nat → Int32) (up lo : UInt32) (su : Nat) (kn : Nat → UInt32) (ik im : Nat → Bool) (fo : UInt32) (hA : mWF a) (y1 y2 : Int32) : MetD lw_cs l yX7_isImputed wsX7_isImputed ({ frames := 6, cells := 0, slots := 0, locals := 180 }) (pM G (mcells G md a pa np tb ty aw iw qu up lo su kn ik im fo) [.ref (md 0), .int y1, .int y2]) (va_Qi (fun r (_ : MS) => r = mIIf a y1 y2) (bM G (fun (u : MS) => mcells G md a pa np tb ty aw iw qu u.1 u.2.1 u.2.2.1 u.2.2.2.1 u.2.2.2.2.1 u.2.2.2.2.2.1 u.2.2.2.2.2.2)) (adr (mcells G md a pa np tb ty aw iw qu up lo su kn ik im fo))) 0 0 (adr (mcells G md a pa np tb ty aw iw qu up lo su kn ik im fo)) := by
  refine MetD.ofW (cc := cX7_isImputed) (maxL := 3) (ret := (some .int)) (by decide) rfl ?_
  intro p e s m args below meth c s₁ B hml hv hd0
  obtain ⟨rfl, hK, hP, hD0⟩ := hv
  have hx := B.exec
  have hb := B.bytes
  have hr := B.returns
  have hlocks := B.notSynchronized
  have hts0 := atoms_spec (ws := wsX7_isImputed) B.pre
  have hts := dr_words hts0 s.drawn
  have hK0 := hK
  have hK := hK0.drawn s.drawn
  have hown : s.vm.findClass RX7 = some m.cls := findClass_of_methodNamed B.named
  have hD := hD0.own
  generalize hAe : adr (mcells G md a pa np tb ty aw iw qu up lo su kn ik im fo) = A at hD ⊢
  have hS : va_S A s.heap s.heap [] := va_S.rf
  have hl := lv_entry ([.ref (md 0), .int y1, .int y2]) (n := 3) (Nat.le_of_ble_eq_true rfl)
  rw [lg_entry_eq]
  generalize (lg_sl ([.ref (md 0), .int y1, .int y2]) ++ List.replicate (3 - (lg_sl ([.ref (md 0), .int y1, .int y2])).length) Slot.unset).toArray = ls at hl ⊢
  have hl : lv_has ls 3 [(0, .ref (md 0)), (1, .int y1), (2, .int y2)] := hl
  have hP : va_P G.1 vwCl ([(md 0, .inr (6, [.ref (md 1), .ref (md 2), .int (nI np), .ref (md 3), .int (nI ty), .int (nI aw), .int (bI iw), .ref (md 4), .float up, .float lo, .int (nI su), .ref (md 5), .ref (md 6), .ref (md 7), .float fo])), (md 1, .inl (G.2 0, 354, .inl a)), (md 2, .inl (G.2 0, 2832, .inl pa)), (md 3, .inl (G.2 3, 60, .inl tb)), (md 4, .inl (G.2 0, 36, .inl qu)), (md 5, .inl (G.2 2, 288, .inr (.inr (.inl kn)))), (md 6, .inl (G.2 1, 288, .inl (fun jj => bI (ik jj)))), (md 7, .inl (G.2 1, 288, .inl (fun jj => bI (im jj))))]) s.heap := hP
  have hD : va_D A ([(md 0, .inr (6, [.ref (md 1), .ref (md 2), .int (nI np), .ref (md 3), .int (nI ty), .int (nI aw), .int (bI iw), .ref (md 4), .float up, .float lo, .int (nI su), .ref (md 5), .ref (md 6), .ref (md 7), .float fo])), (md 1, .inl (G.2 0, 354, .inl a)), (md 2, .inl (G.2 0, 2832, .inl pa)), (md 3, .inl (G.2 3, 60, .inl tb)), (md 4, .inl (G.2 0, 36, .inl qu)), (md 5, .inl (G.2 2, 288, .inr (.inr (.inl kn)))), (md 6, .inl (G.2 1, 288, .inl (fun jj => bI (ik jj)))), (md 7, .inl (G.2 1, 288, .inl (fun jj => bI (im jj))))]) := hD
  have hit := hA.1.2
  have hC := hA.1
  refine lv_aload_n hx hb dX7_isImputed_0 rfl (lv_at hl 0 rfl) ?_
  refine lv_iload_n hx hb dX7_isImputed_1 rfl (lv_at hl 1 rfl) ?_
  refine cr_i (va_runV (As := [.int y1]) (rest := []) ⟨hx, hb, hml, hown, hts⟩ (metX7_isItem l G md [.ref (md 2), .int (nI np), .ref (md 3), .int (nI ty), .int (nI aw), .int (bI iw), .ref (md 4), .float up, .float lo, .int (nI su), .ref (md 5), .ref (md 6), .ref (md 7), .float fo] a hA.1 y1) (cwV 1 hts gX7_isImputed_X7_isItem rfl rfl rfl (by decide +kernel) ⟨Nat.le_of_ble_eq_true rfl, Nat.le_of_ble_eq_true rfl⟩) (pR_V (q0 := 0) hK (hP.sub (ws' := scells G md [.ref (md 2), .int (nI np), .ref (md 3), .int (nI ty), .int (nI aw), .int (bI iw), .ref (md 4), .float up, .float lo, .int (nI su), .ref (md 5), .ref (md 6), .ref (md 7), .float fo] a) [0, 1] rfl) rfl rfl) rfl rfl hl.1 rfl (lv_room (Nat.le_of_ble_eq_true rfl)) dX7_isImputed_2 ⟨Nat.zero_le _, Nat.zero_le _⟩) (fun r_1 hr_2 => ?_)
  subst hr_2
  refine nb_if_eq (B := isItM a y1) (tgt := 15) hx hb dX7_isImputed_5 (by decide) (fun c_3 => ?_) (fun c_3 => ?_)
  · refine lv_iconst (v := (-1)) hx hb dX7_isImputed_15 (by decide) ?_
    refine W.endD hd0 ?_
    have hP9 := hP
    exact W.iret (v := (-1)) hx hb hr (fun t ht hW => ⟨⟨_, (up, lo, su, kn, ik, im, fo), rfl, (by simp [mIIf, c_3]), bM_end ht hP9⟩, hS.F ht⟩) hS.2.2 dX7_isImputed_16
  · refine lv_iload_n hx hb dX7_isImputed_8 rfl (lv_at hl 2 rfl) ?_
    refine cr_i (va_runS (As := [.int y2]) (rest := []) ⟨hx, hb, hml, hown, hts⟩ (metX7_isMonth l G y2) (va_cwS 1 hts gX7_isImputed_X7_isMonth rfl rfl rfl (by decide +kernel) ⟨Nat.le_of_ble_eq_true rfl, Nat.le_of_ble_eq_true rfl⟩) (pR_S hK (va_P_nil _ _ _)) rfl rfl hl.1 rfl (lv_room (Nat.le_of_ble_eq_true rfl)) dX7_isImputed_9 ⟨Nat.zero_le _, Nat.zero_le _⟩) (fun r_4 hr_5 => ?_)
    subst hr_5
    refine nb_if_ne (B := isMonM y2) (tgt := 17) hx hb dX7_isImputed_12 (by decide) (fun c_6 => ?_) (fun c_6 => ?_)
    · obtain ⟨k1, hk1, rfl⟩ := isItM_nat hA.1 c_3
      obtain ⟨k2, hk2, rfl⟩ := isMon_nat ((isMonM_eq _).symm.trans c_6)
      have hit := hA.1.2
      have hl : lv_has ls 3 [(0, .ref (md 0)), (1, .int (nI k1)), (2, .int (nI k2))] := hl
      refine lv_aload_n hx hb dX7_isImputed_17 rfl (lv_at hl 0 rfl) ?_
      refine cwD_v hd0 (va_runV_D (As := []) (rest := []) ⟨hx, hb, hml, hown, hts⟩ (metX7_find l G md a pa np tb ty aw iw qu up lo su kn ik im fo hA) (cwV 0 hts gX7_isImputed_X7_find rfl rfl rfl (by decide +kernel) ⟨Nat.le_of_ble_eq_true rfl, Nat.le_of_ble_eq_true rfl⟩) (pM_V (w := mcells G md a pa np tb ty aw iw qu up lo su kn ik im fo) (q0 := 0) hK hP hD rfl rfl) rfl rfl hl.1 rfl (lv_room (Nat.le_of_ble_eq_true rfl)) dX7_isImputed_18 ⟨Nat.zero_le _, Nat.zero_le _⟩) hD hS (fun _ => rfl) (fun  u_8 H locs hw_9 hP hD hS d_7 hd0 => ?_)
      have hts := dr_words hts0 d_7
      have hK := hK0.drawn d_7
      obtain ⟨u5, l5, n5, kn5, ik5, im5, f5⟩ := u_8
      try dsimp only at hw_9
      have hF := hw_9
      have hP : va_P G.1 vwCl ([(md 0, .inr (6, [.ref (md 1), .ref (md 2), .int (nI np), .ref (md 3), .int (nI ty), .int (nI aw), .int (bI iw), .ref (md 4), .float u5, .float l5, .int (nI n5), .ref (md 5), .ref (md 6), .ref (md 7), .float f5])), (md 1, .inl (G.2 0, 354, .inl a)), (md 2, .inl (G.2 0, 2832, .inl pa)), (md 3, .inl (G.2 3, 60, .inl tb)), (md 4, .inl (G.2 0, 36, .inl qu)), (md 5, .inl (G.2 2, 288, .inr (.inr (.inl kn5)))), (md 6, .inl (G.2 1, 288, .inl (fun jj => bI (ik5 jj)))), (md 7, .inl (G.2 1, 288, .inl (fun jj => bI (im5 jj))))]) H := hP
      have hD : va_D A ([(md 0, .inr (6, [.ref (md 1), .ref (md 2), .int (nI np), .ref (md 3), .int (nI ty), .int (nI aw), .int (bI iw), .ref (md 4), .float u5, .float l5, .int (nI n5), .ref (md 5), .ref (md 6), .ref (md 7), .float f5])), (md 1, .inl (G.2 0, 354, .inl a)), (md 2, .inl (G.2 0, 2832, .inl pa)), (md 3, .inl (G.2 3, 60, .inl tb)), (md 4, .inl (G.2 0, 36, .inl qu)), (md 5, .inl (G.2 2, 288, .inr (.inr (.inl kn5)))), (md 6, .inl (G.2 1, 288, .inl (fun jj => bI (ik5 jj)))), (md 7, .inl (G.2 1, 288, .inl (fun jj => bI (im5 jj))))]) := hD
      refine lv_aload_n hx hb dX7_isImputed_21 rfl (lv_at hl 0 rfl) ?_
      refine va_get (D := G.1) (ci := 6) (v := .ref (md 6)) (C := RX7) (T := TX7) (N := 15) hx hb hts (by decide +kernel) hown hK.1 hP 0 rfl rfl 12 (by decide) (hts (.fieldLink RX7 27 "PriceIndexCalculatorModel" "isKnown" "[Z") (by decide +kernel)) (fun _ h9 => h9) rfl dX7_isImputed_22 ?_
      refine lv_bipush (v := nI 24) hx hb dX7_isImputed_25 (by decide) ?_
      refine lv_iload_n hx hb dX7_isImputed_27 rfl (lv_at hl 1 rfl) ?_
      refine n_mul hx hb dX7_isImputed_28 ?_
      refine lv_iload_n hx hb dX7_isImputed_29 rfl (lv_at hl 2 rfl) ?_
      refine n_add hx hb dX7_isImputed_30 ?_
      refine n_zald hx hb hK.1 hP 6 1 rfl rfl (j := (24 * k1) + k2) (by omega) (by omega) dX7_isImputed_31 ?_
      refine nb_if_ne (B := ik5 ((24 * k1) + k2)) (tgt := 40) hx hb dX7_isImputed_32 (by decide) (fun c_10 => ?_) (fun c_10 => ?_)
      · refine lv_aload_n hx hb dX7_isImputed_40 rfl (lv_at hl 0 rfl) ?_
        refine va_get (D := G.1) (ci := 6) (v := .ref (md 7)) (C := RX7) (T := TX7) (N := 15) hx hb hts (by decide +kernel) hown hK.1 hP 0 rfl rfl 13 (by decide) (hts (.fieldLink RX7 31 "PriceIndexCalculatorModel" "isMade" "[Z") (by decide +kernel)) (fun _ h9 => h9) rfl dX7_isImputed_41 ?_
        refine lv_bipush (v := nI 24) hx hb dX7_isImputed_44 (by decide) ?_
        refine lv_iload_n hx hb dX7_isImputed_46 rfl (lv_at hl 1 rfl) ?_
        refine n_mul hx hb dX7_isImputed_47 ?_
        refine lv_iload_n hx hb dX7_isImputed_48 rfl (lv_at hl 2 rfl) ?_
        refine n_add hx hb dX7_isImputed_49 ?_
        refine n_zald hx hb hK.1 hP 7 1 rfl rfl (j := (24 * k1) + k2) (by omega) (by omega) dX7_isImputed_50 ?_
        refine nb_if_eq (B := im5 ((24 * k1) + k2)) (tgt := 58) hx hb dX7_isImputed_51 (by decide) (fun c_11 => ?_) (fun c_11 => ?_)
        · refine lv_iconst (v := nI 0) hx hb dX7_isImputed_58 (by decide) ?_
          refine W.endD hd0 ?_
          have hP9 := hP
          exact W.iret (v := nI 0) hx hb hr (fun t ht hW => ⟨⟨_, (u5, l5, n5, kn5, ik5, im5, f5), rfl, (by rw [mIIf, if_pos (by simp [c_3, c_6, c_10, c_11]), nC_nI (k := k1) (by omega), nC_nI (k := k2) (by omega)]; obtain ⟨q1, q2, q3⟩ := hF k1 hk1 k2 hk2; rw [if_pos (by rw [← q1]; exact c_10), ← q2]; exact (congrArg bI c_11).symm), bM_end ht hP9⟩, hS.F ht⟩) hS.2.2 dX7_isImputed_59
        · refine lv_iconst (v := nI 1) hx hb dX7_isImputed_54 (by decide) ?_
          refine lv_goto (tgt := 59) hx hb dX7_isImputed_55 (by decide) ?_
          refine W.endD hd0 ?_
          have hP9 := hP
          exact W.iret (v := nI 1) hx hb hr (fun t ht hW => ⟨⟨_, (u5, l5, n5, kn5, ik5, im5, f5), rfl, (by rw [mIIf, if_pos (by simp [c_3, c_6, c_10, c_11]), nC_nI (k := k1) (by omega), nC_nI (k := k2) (by omega)]; obtain ⟨q1, q2, q3⟩ := hF k1 hk1 k2 hk2; rw [if_pos (by rw [← q1]; exact c_10), ← q2]; exact (congrArg bI c_11).symm), bM_end ht hP9⟩, hS.F ht⟩) hS.2.2 dX7_isImputed_59
      · refine lv_bipush (v := (-9)) hx hb dX7_isImputed_35 (by decide) ?_
        refine lv_goto (tgt := 59) hx hb dX7_isImputed_37 (by decide) ?_
        refine W.endD hd0 ?_
        have hP9 := hP
        exact W.iret (v := (-9)) hx hb hr (fun t ht hW => ⟨⟨_, (u5, l5, n5, kn5, ik5, im5, f5), rfl, (by rw [mIIf, if_pos (by simp [c_3, c_6, c_10]), nC_nI (k := k1) (by omega), nC_nI (k := k2) (by omega)]; obtain ⟨q1, q2, q3⟩ := hF k1 hk1 k2 hk2; rw [if_neg (by rw [← q1, c_10]; decide)]), bM_end ht hP9⟩, hS.F ht⟩) hS.2.2 dX7_isImputed_59
    · refine lv_iconst (v := (-1)) hx hb dX7_isImputed_15 (by decide) ?_
      refine W.endD hd0 ?_
      have hP9 := hP
      exact W.iret (v := (-1)) hx hb hr (fun t ht hW => ⟨⟨_, (up, lo, su, kn, ik, im, fo), rfl, (by simp [mIIf, c_3, c_6]), bM_end ht hP9⟩, hS.F ht⟩) hS.2.2 dX7_isImputed_16
set_option maxHeartbeats 4000000 in
set_option maxRecDepth 100000 in
/-- Model.imputedCount -/
theorem metX7_imputedCount (l : Launch) (G : GG) (md : Nat → Nat) (a pa : Nat → Int32) (np : Nat) (tb : Nat → Int32) (ty aw : Nat) (iw : Bool) (qu : Nat → Int32) (up lo : UInt32) (su : Nat) (kn : Nat → UInt32) (ik im : Nat → Bool) (fo : UInt32) (hA : mWF a) (y1 : Int32) : MetD lw_cs l yX7_imputedCount wsX7_imputedCount ({ frames := 6, cells := 0, slots := 0, locals := 180 }) (pM G (mcells G md a pa np tb ty aw iw qu up lo su kn ik im fo) [.ref (md 0), .int y1]) (va_Qi (fun r (_ : MS) => r = mICf a y1) (bM G (fun (u : MS) => mcells G md a pa np tb ty aw iw qu u.1 u.2.1 u.2.2.1 u.2.2.2.1 u.2.2.2.2.1 u.2.2.2.2.2.1 u.2.2.2.2.2.2)) (adr (mcells G md a pa np tb ty aw iw qu up lo su kn ik im fo))) 0 0 (adr (mcells G md a pa np tb ty aw iw qu up lo su kn ik im fo)) := by
  refine MetD.ofW (cc := cX7_imputedCount) (maxL := 4) (ret := (some .int)) (by decide) rfl ?_
  intro p e s m args below meth c s₁ B hml hv hd0
  obtain ⟨rfl, hK, hP, hD0⟩ := hv
  have hx := B.exec
  have hb := B.bytes
  have hr := B.returns
  have hlocks := B.notSynchronized
  have hts0 := atoms_spec (ws := wsX7_imputedCount) B.pre
  have hts := dr_words hts0 s.drawn
  have hK0 := hK
  have hK := hK0.drawn s.drawn
  have hown : s.vm.findClass RX7 = some m.cls := findClass_of_methodNamed B.named
  have hD := hD0.own
  generalize hAe : adr (mcells G md a pa np tb ty aw iw qu up lo su kn ik im fo) = A at hD ⊢
  have hS : va_S A s.heap s.heap [] := va_S.rf
  have hl := lv_entry ([.ref (md 0), .int y1]) (n := 4) (Nat.le_of_ble_eq_true rfl)
  rw [lg_entry_eq]
  generalize (lg_sl ([.ref (md 0), .int y1]) ++ List.replicate (4 - (lg_sl ([.ref (md 0), .int y1])).length) Slot.unset).toArray = ls at hl ⊢
  have hl : lv_has ls 4 [(0, .ref (md 0)), (1, .int y1)] := hl
  have hP : va_P G.1 vwCl ([(md 0, .inr (6, [.ref (md 1), .ref (md 2), .int (nI np), .ref (md 3), .int (nI ty), .int (nI aw), .int (bI iw), .ref (md 4), .float up, .float lo, .int (nI su), .ref (md 5), .ref (md 6), .ref (md 7), .float fo])), (md 1, .inl (G.2 0, 354, .inl a)), (md 2, .inl (G.2 0, 2832, .inl pa)), (md 3, .inl (G.2 3, 60, .inl tb)), (md 4, .inl (G.2 0, 36, .inl qu)), (md 5, .inl (G.2 2, 288, .inr (.inr (.inl kn)))), (md 6, .inl (G.2 1, 288, .inl (fun jj => bI (ik jj)))), (md 7, .inl (G.2 1, 288, .inl (fun jj => bI (im jj))))]) s.heap := hP
  have hD : va_D A ([(md 0, .inr (6, [.ref (md 1), .ref (md 2), .int (nI np), .ref (md 3), .int (nI ty), .int (nI aw), .int (bI iw), .ref (md 4), .float up, .float lo, .int (nI su), .ref (md 5), .ref (md 6), .ref (md 7), .float fo])), (md 1, .inl (G.2 0, 354, .inl a)), (md 2, .inl (G.2 0, 2832, .inl pa)), (md 3, .inl (G.2 3, 60, .inl tb)), (md 4, .inl (G.2 0, 36, .inl qu)), (md 5, .inl (G.2 2, 288, .inr (.inr (.inl kn)))), (md 6, .inl (G.2 1, 288, .inl (fun jj => bI (ik jj)))), (md 7, .inl (G.2 1, 288, .inl (fun jj => bI (im jj))))]) := hD
  have hit := hA.1.2
  have hC := hA.1
  refine lv_iload_n hx hb dX7_imputedCount_0 rfl (lv_at hl 1 rfl) ?_
  refine cr_i (va_runS (As := [.int y1]) (rest := []) ⟨hx, hb, hml, hown, hts⟩ (metX7_isMonth l G y1) (va_cwS 1 hts gX7_imputedCount_X7_isMonth rfl rfl rfl (by decide +kernel) ⟨Nat.le_of_ble_eq_true rfl, Nat.le_of_ble_eq_true rfl⟩) (pR_S hK (va_P_nil _ _ _)) rfl rfl hl.1 rfl (lv_room (Nat.le_of_ble_eq_true rfl)) dX7_imputedCount_1 ⟨Nat.zero_le _, Nat.zero_le _⟩) (fun r_1 hr_2 => ?_)
  subst hr_2
  refine nb_if_ne (B := isMonM y1) (tgt := 9) hx hb dX7_imputedCount_4 (by decide) (fun c_3 => ?_) (fun c_3 => ?_)
  · obtain ⟨k1, hk1, rfl⟩ := isMon_nat ((isMonM_eq _).symm.trans c_3)
    have hit := hA.1.2
    have hl : lv_has ls 4 [(0, .ref (md 0)), (1, .int (nI k1))] := hl
    refine lv_aload_n hx hb dX7_imputedCount_9 rfl (lv_at hl 0 rfl) ?_
    refine cwD_v hd0 (va_runV_D (As := []) (rest := []) ⟨hx, hb, hml, hown, hts⟩ (metX7_find l G md a pa np tb ty aw iw qu up lo su kn ik im fo hA) (cwV 0 hts gX7_imputedCount_X7_find rfl rfl rfl (by decide +kernel) ⟨Nat.le_of_ble_eq_true rfl, Nat.le_of_ble_eq_true rfl⟩) (pM_V (w := mcells G md a pa np tb ty aw iw qu up lo su kn ik im fo) (q0 := 0) hK hP hD rfl rfl) rfl rfl hl.1 rfl (lv_room (Nat.le_of_ble_eq_true rfl)) dX7_imputedCount_10 ⟨Nat.zero_le _, Nat.zero_le _⟩) hD hS (fun _ => rfl) (fun  u_5 H locs hw_6 hP hD hS d_4 hd0 => ?_)
    have hts := dr_words hts0 d_4
    have hK := hK0.drawn d_4
    obtain ⟨u5, l5, n5, kn5, ik5, im5, f5⟩ := u_5
    try dsimp only at hw_6
    have hF := hw_6
    have hP : va_P G.1 vwCl ([(md 0, .inr (6, [.ref (md 1), .ref (md 2), .int (nI np), .ref (md 3), .int (nI ty), .int (nI aw), .int (bI iw), .ref (md 4), .float u5, .float l5, .int (nI n5), .ref (md 5), .ref (md 6), .ref (md 7), .float f5])), (md 1, .inl (G.2 0, 354, .inl a)), (md 2, .inl (G.2 0, 2832, .inl pa)), (md 3, .inl (G.2 3, 60, .inl tb)), (md 4, .inl (G.2 0, 36, .inl qu)), (md 5, .inl (G.2 2, 288, .inr (.inr (.inl kn5)))), (md 6, .inl (G.2 1, 288, .inl (fun jj => bI (ik5 jj)))), (md 7, .inl (G.2 1, 288, .inl (fun jj => bI (im5 jj))))]) H := hP
    have hD : va_D A ([(md 0, .inr (6, [.ref (md 1), .ref (md 2), .int (nI np), .ref (md 3), .int (nI ty), .int (nI aw), .int (bI iw), .ref (md 4), .float u5, .float l5, .int (nI n5), .ref (md 5), .ref (md 6), .ref (md 7), .float f5])), (md 1, .inl (G.2 0, 354, .inl a)), (md 2, .inl (G.2 0, 2832, .inl pa)), (md 3, .inl (G.2 3, 60, .inl tb)), (md 4, .inl (G.2 0, 36, .inl qu)), (md 5, .inl (G.2 2, 288, .inr (.inr (.inl kn5)))), (md 6, .inl (G.2 1, 288, .inl (fun jj => bI (ik5 jj)))), (md 7, .inl (G.2 1, 288, .inl (fun jj => bI (im5 jj))))]) := hD
    refine lv_iconst (v := nI 0) hx hb dX7_imputedCount_13 (by decide) ?_
    refine lv_istore_n (lv' := [(2, .int (nI 0)), (0, .ref (md 0)), (1, .int (nI k1))]) hx hb dX7_imputedCount_14 rfl hl (by decide) rfl (fun ls hl => ?_)
    refine lv_iconst (v := nI 0) hx hb dX7_imputedCount_15 (by decide) ?_
    refine lv_istore_n (lv' := [(3, .int (nI 0)), (2, .int (nI 0)), (0, .ref (md 0)), (1, .int (nI k1))]) hx hb dX7_imputedCount_16 rfl hl (by decide) rfl (fun ls hl => ?_)
    refine lpRD hd0 (S := Nat) (mN a) (fun j9 u => u = cntP (fun k => im5 (24 * k + k1)) (j9)) (fun j9 u => [(0, .ref (md 0)), (1, .int (nI k1)), (2, .int (nI u)), (3, .int (nI j9))]) (fun u ls d0 hd0 hI_8 hl => ?_) (fun j9 u ls d0 hd0 hi_9 hI_8 hl ih_7 => ?_) (0) 0 (by omega) (rfl) (lv_sub hl [2, 3, 1, 0] rfl)
    · obtain ⟨c9, rfl⟩ : ∃ z, z = u := ⟨_, rfl⟩
      have hl : lv_has ls 4 [(0, .ref (md 0)), (1, .int (nI k1)), (2, .int (nI c9)), (3, .int (nI (mN a)))] := hl
      have hts := dr_words hts0 d0
      have hK := hK0.drawn d0
      refine lv_iload_n hx hb dX7_imputedCount_17 rfl (lv_at hl 3 rfl) ?_
      refine lv_aload_n hx hb dX7_imputedCount_18 rfl (lv_at hl 0 rfl) ?_
      refine va_get (D := G.1) (ci := 6) (v := .ref (md 1)) (C := RX7) (T := TX7) (N := 15) hx hb hts (by decide +kernel) hown hK.1 hP 0 rfl rfl 0 (by decide) (hts (.fieldLink RX7 7 "PriceIndexCalculatorModel" "s" "[I") (by decide +kernel)) (fun _ h9 => h9) rfl dX7_imputedCount_19 ?_
      refine lv_iconst (v := nI 5) hx hb dX7_imputedCount_22 (by decide) ?_
      refine n_iald hx hb hK.1 hP 1 0 rfl rfl (j := 5) (by omega) (by omega) dX7_imputedCount_23 ?_
      refine eq_i (y := nI (mN a)) (hA.1.1) ?_
      refine n_icmp_ge (x := mN a) (y := mN a) (tgt := 55) hx hb (by omega) (by omega) dX7_imputedCount_24 (by decide) (fun c_10 => ?_) (fun c_10 => ?_)
      · refine lv_iload_n hx hb dX7_imputedCount_55 rfl (lv_at hl 2 rfl) ?_
        refine W.endD hd0 ?_
        have hP9 := hP
        exact W.iret (v := nI c9) hx hb hr (fun t ht hW => ⟨⟨_, (u5, l5, n5, kn5, ik5, im5, f5), rfl, (by rw [mICf, if_pos (by simp [c_3, c_10]), nC_nI (k := k1) (by omega)]; exact congrArg nI (hI_8.trans (cntP_congr fun k hk => (hF k hk k1 hk1).2.1))), bM_end ht hP9⟩, hS.F ht⟩) hS.2.2 dX7_imputedCount_56
      · exact absurd c_10 (by omega)
    · obtain ⟨c9, rfl⟩ : ∃ z, z = u := ⟨_, rfl⟩
      have hl : lv_has ls 4 [(0, .ref (md 0)), (1, .int (nI k1)), (2, .int (nI c9)), (3, .int (nI j9))] := hl
      have hts := dr_words hts0 d0
      have hK := hK0.drawn d0
      refine lv_iload_n hx hb dX7_imputedCount_17 rfl (lv_at hl 3 rfl) ?_
      refine lv_aload_n hx hb dX7_imputedCount_18 rfl (lv_at hl 0 rfl) ?_
      refine va_get (D := G.1) (ci := 6) (v := .ref (md 1)) (C := RX7) (T := TX7) (N := 15) hx hb hts (by decide +kernel) hown hK.1 hP 0 rfl rfl 0 (by decide) (hts (.fieldLink RX7 7 "PriceIndexCalculatorModel" "s" "[I") (by decide +kernel)) (fun _ h9 => h9) rfl dX7_imputedCount_19 ?_
      refine lv_iconst (v := nI 5) hx hb dX7_imputedCount_22 (by decide) ?_
      refine n_iald hx hb hK.1 hP 1 0 rfl rfl (j := 5) (by omega) (by omega) dX7_imputedCount_23 ?_
      refine eq_i (y := nI (mN a)) (hA.1.1) ?_
      refine n_icmp_ge (x := j9) (y := mN a) (tgt := 55) hx hb (by omega) (by omega) dX7_imputedCount_24 (by decide) (fun c_11 => ?_) (fun c_11 => ?_)
      · exact absurd c_11 (by omega)
      · refine lv_iload_n hx hb dX7_imputedCount_27 rfl (lv_at hl 2 rfl) ?_
        refine lv_aload_n hx hb dX7_imputedCount_28 rfl (lv_at hl 0 rfl) ?_
        refine va_get (D := G.1) (ci := 6) (v := .ref (md 7)) (C := RX7) (T := TX7) (N := 15) hx hb hts (by decide +kernel) hown hK.1 hP 0 rfl rfl 13 (by decide) (hts (.fieldLink RX7 31 "PriceIndexCalculatorModel" "isMade" "[Z") (by decide +kernel)) (fun _ h9 => h9) rfl dX7_imputedCount_29 ?_
        refine lv_bipush (v := nI 24) hx hb dX7_imputedCount_32 (by decide) ?_
        refine lv_iload_n hx hb dX7_imputedCount_34 rfl (lv_at hl 3 rfl) ?_
        refine n_mul hx hb dX7_imputedCount_35 ?_
        refine lv_iload_n hx hb dX7_imputedCount_36 rfl (lv_at hl 1 rfl) ?_
        refine n_add hx hb dX7_imputedCount_37 ?_
        refine n_zald hx hb hK.1 hP 7 1 rfl rfl (j := (24 * j9) + k1) (by omega) (by omega) dX7_imputedCount_38 ?_
        refine nb_if_eq (B := im5 ((24 * j9) + k1)) (tgt := 46) hx hb dX7_imputedCount_39 (by decide) (fun c_12 => ?_) (fun c_12 => ?_)
        · refine lv_iconst (v := nI 0) hx hb dX7_imputedCount_46 (by decide) ?_
          refine n_add hx hb dX7_imputedCount_47 ?_
          refine lv_istore_n (lv' := [(2, .int (nI (c9 + 0))), (0, .ref (md 0)), (1, .int (nI k1)), (3, .int (nI j9))]) hx hb dX7_imputedCount_48 rfl hl (by decide) rfl (fun ls hl => ?_)
          refine lv_iinc (v := nI (j9 + 1)) (lv' := [(3, .int (nI (j9 + 1))), (2, .int (nI (c9 + 0))), (0, .ref (md 0)), (1, .int (nI k1))]) hx hb dX7_imputedCount_49 hl (k := 3) rfl (by exact nI_add _ _) (by decide) rfl (fun ls hl => ?_)
          refine lv_goto (tgt := 17) hx hb dX7_imputedCount_52 (by decide) ?_
          exact ih_7 (c9 + 0) _ _ hd0 (by rw [hI_8]; simp [cntP, c_12]) (lv_sub hl [2, 3, 1, 0] rfl)
        · refine lv_iconst (v := nI 1) hx hb dX7_imputedCount_42 (by decide) ?_
          refine lv_goto (tgt := 47) hx hb dX7_imputedCount_43 (by decide) ?_
          refine n_add hx hb dX7_imputedCount_47 ?_
          refine lv_istore_n (lv' := [(2, .int (nI (c9 + 1))), (0, .ref (md 0)), (1, .int (nI k1)), (3, .int (nI j9))]) hx hb dX7_imputedCount_48 rfl hl (by decide) rfl (fun ls hl => ?_)
          refine lv_iinc (v := nI (j9 + 1)) (lv' := [(3, .int (nI (j9 + 1))), (2, .int (nI (c9 + 1))), (0, .ref (md 0)), (1, .int (nI k1))]) hx hb dX7_imputedCount_49 hl (k := 3) rfl (by exact nI_add _ _) (by decide) rfl (fun ls hl => ?_)
          refine lv_goto (tgt := 17) hx hb dX7_imputedCount_52 (by decide) ?_
          exact ih_7 (c9 + 1) _ _ hd0 (by rw [hI_8]; simp [cntP, c_12]) (lv_sub hl [2, 3, 1, 0] rfl)
  · refine lv_iconst (v := (-1)) hx hb dX7_imputedCount_7 (by decide) ?_
    refine W.endD hd0 ?_
    have hP9 := hP
    exact W.iret (v := (-1)) hx hb hr (fun t ht hW => ⟨⟨_, (up, lo, su, kn, ik, im, fo), rfl, (by simp [mICf, c_3]), bM_end ht hP9⟩, hS.F ht⟩) hS.2.2 dX7_imputedCount_8
set_option maxHeartbeats 4000000 in
set_option maxRecDepth 100000 in
/-- Model.movementBits -/
theorem metX7_movementBits (l : Launch) (G : GG) (md : Nat → Nat) (a pa : Nat → Int32) (np : Nat) (tb : Nat → Int32) (ty aw : Nat) (iw : Bool) (qu : Nat → Int32) (up lo : UInt32) (su : Nat) (kn : Nat → UInt32) (ik im : Nat → Bool) (fo : UInt32) (hA : mWF a) (y1 y2 y3 : Int32) : MetD lw_cs l yX7_movementBits wsX7_movementBits ({ frames := 6, cells := 0, slots := 0, locals := 180 }) (pM G (mcells G md a pa np tb ty aw iw qu up lo su kn ik im fo) [.ref (md 0), .int y1, .int y2, .int y3]) (va_Qi (fun r (_ : MS) => r = mMBf a y1 y2 y3) (bM G (fun (u : MS) => mcells G md a pa np tb ty aw iw qu u.1 u.2.1 u.2.2.1 u.2.2.2.1 u.2.2.2.2.1 u.2.2.2.2.2.1 u.2.2.2.2.2.2)) (adr (mcells G md a pa np tb ty aw iw qu up lo su kn ik im fo))) 0 0 (adr (mcells G md a pa np tb ty aw iw qu up lo su kn ik im fo)) := by
  refine MetD.ofW (cc := cX7_movementBits) (maxL := 4) (ret := (some .int)) (by decide) rfl ?_
  intro p e s m args below meth c s₁ B hml hv hd0
  obtain ⟨rfl, hK, hP, hD0⟩ := hv
  have hx := B.exec
  have hb := B.bytes
  have hr := B.returns
  have hlocks := B.notSynchronized
  have hts0 := atoms_spec (ws := wsX7_movementBits) B.pre
  have hts := dr_words hts0 s.drawn
  have hK0 := hK
  have hK := hK0.drawn s.drawn
  have hown : s.vm.findClass RX7 = some m.cls := findClass_of_methodNamed B.named
  have hD := hD0.own
  generalize hAe : adr (mcells G md a pa np tb ty aw iw qu up lo su kn ik im fo) = A at hD ⊢
  have hS : va_S A s.heap s.heap [] := va_S.rf
  have hl := lv_entry ([.ref (md 0), .int y1, .int y2, .int y3]) (n := 4) (Nat.le_of_ble_eq_true rfl)
  rw [lg_entry_eq]
  generalize (lg_sl ([.ref (md 0), .int y1, .int y2, .int y3]) ++ List.replicate (4 - (lg_sl ([.ref (md 0), .int y1, .int y2, .int y3])).length) Slot.unset).toArray = ls at hl ⊢
  have hl : lv_has ls 4 [(0, .ref (md 0)), (1, .int y1), (2, .int y2), (3, .int y3)] := hl
  have hP : va_P G.1 vwCl ([(md 0, .inr (6, [.ref (md 1), .ref (md 2), .int (nI np), .ref (md 3), .int (nI ty), .int (nI aw), .int (bI iw), .ref (md 4), .float up, .float lo, .int (nI su), .ref (md 5), .ref (md 6), .ref (md 7), .float fo])), (md 1, .inl (G.2 0, 354, .inl a)), (md 2, .inl (G.2 0, 2832, .inl pa)), (md 3, .inl (G.2 3, 60, .inl tb)), (md 4, .inl (G.2 0, 36, .inl qu)), (md 5, .inl (G.2 2, 288, .inr (.inr (.inl kn)))), (md 6, .inl (G.2 1, 288, .inl (fun jj => bI (ik jj)))), (md 7, .inl (G.2 1, 288, .inl (fun jj => bI (im jj))))]) s.heap := hP
  have hD : va_D A ([(md 0, .inr (6, [.ref (md 1), .ref (md 2), .int (nI np), .ref (md 3), .int (nI ty), .int (nI aw), .int (bI iw), .ref (md 4), .float up, .float lo, .int (nI su), .ref (md 5), .ref (md 6), .ref (md 7), .float fo])), (md 1, .inl (G.2 0, 354, .inl a)), (md 2, .inl (G.2 0, 2832, .inl pa)), (md 3, .inl (G.2 3, 60, .inl tb)), (md 4, .inl (G.2 0, 36, .inl qu)), (md 5, .inl (G.2 2, 288, .inr (.inr (.inl kn)))), (md 6, .inl (G.2 1, 288, .inl (fun jj => bI (ik jj)))), (md 7, .inl (G.2 1, 288, .inl (fun jj => bI (im jj))))]) := hD
  have hit := hA.1.2
  have hC := hA.1
  refine lv_iload_n hx hb dX7_movementBits_0 rfl (lv_at hl 1 rfl) ?_
  refine lv_iload_n hx hb dX7_movementBits_1 rfl (lv_at hl 2 rfl) ?_
  refine lv_iload_n hx hb dX7_movementBits_2 rfl (lv_at hl 3 rfl) ?_
  refine cr_i (va_runS (As := [.int y1, .int y2, .int y3]) (rest := []) ⟨hx, hb, hml, hown, hts⟩ (metX7_areThere l G y1 y2 y3) (va_cwS 3 hts gX7_movementBits_X7_areThere rfl rfl rfl (by decide +kernel) ⟨Nat.le_of_ble_eq_true rfl, Nat.le_of_ble_eq_true rfl⟩) (pR_S hK (va_P_nil _ _ _)) rfl rfl hl.1 rfl (lv_room (Nat.le_of_ble_eq_true rfl)) dX7_movementBits_3 ⟨Nat.zero_le _, Nat.zero_le _⟩) (fun r_1 hr_2 => ?_)
  subst hr_2
  refine nb_if_eq (B := smmM y1 y2 y3) (tgt := 22) hx hb dX7_movementBits_6 (by decide) (fun c_3 => ?_) (fun c_3 => ?_)
  · refine lv_iconst (v := (-1)) hx hb dX7_movementBits_22 (by decide) ?_
    refine W.endD hd0 ?_
    have hP9 := hP
    exact W.iret (v := (-1)) hx hb hr (fun t ht hW => ⟨⟨_, (up, lo, su, kn, ik, im, fo), rfl, (by simp [mMBf, c_3]), bM_end ht hP9⟩, hS.F ht⟩) hS.2.2 dX7_movementBits_23
  · have hsm := c_3
    unfold smmM at hsm
    simp only [Bool.and_eq_true] at hsm
    obtain ⟨⟨hs1, hs2⟩, hs3⟩ := hsm
    obtain ⟨k2, hk2, rfl⟩ := isMon_nat ((isMonM_eq _).symm.trans hs2)
    obtain ⟨k3, hk3, rfl⟩ := isMon_nat ((isMonM_eq _).symm.trans hs3)
    have hit := hA.1.2
    have hl : lv_has ls 4 [(0, .ref (md 0)), (1, .int y1), (2, .int (nI k2)), (3, .int (nI k3))] := hl
    refine lv_aload_n hx hb dX7_movementBits_9 rfl (lv_at hl 0 rfl) ?_
    refine lv_iload_n hx hb dX7_movementBits_10 rfl (lv_at hl 1 rfl) ?_
    refine lv_iload_n hx hb dX7_movementBits_11 rfl (lv_at hl 2 rfl) ?_
    refine lv_iload_n hx hb dX7_movementBits_12 rfl (lv_at hl 3 rfl) ?_
    refine cwD_f hd0 (va_runV_D (As := [.int y1, .int (nI k2), .int (nI k3)]) (rest := []) ⟨hx, hb, hml, hown, hts⟩ (metX7_movement l G md a pa np tb ty aw iw qu up lo su kn ik im fo hA y1 k2 k3 (by omega) (by omega)) (cwV 3 hts gX7_movementBits_X7_movement rfl rfl rfl (by decide +kernel) ⟨Nat.le_of_ble_eq_true rfl, Nat.le_of_ble_eq_true rfl⟩) (pM_V (w := mcells G md a pa np tb ty aw iw qu up lo su kn ik im fo) (q0 := 0) hK hP hD rfl rfl) rfl rfl hl.1 rfl (lv_room (Nat.le_of_ble_eq_true rfl)) dX7_movementBits_13 ⟨Nat.zero_le _, Nat.zero_le _⟩) hD hS (fun _ => rfl) (fun r_8 u_6 H locs hw_7 hP hD hS d_5 hd0 => ?_)
    have hts := dr_words hts0 d_5
    have hK := hK0.drawn d_5
    obtain ⟨um4, lm4, nm4⟩ := u_6
    try dsimp only at hw_7
    have hP : va_P G.1 vwCl ([(md 0, .inr (6, [.ref (md 1), .ref (md 2), .int (nI np), .ref (md 3), .int (nI ty), .int (nI aw), .int (bI iw), .ref (md 4), .float um4, .float lm4, .int (nI nm4), .ref (md 5), .ref (md 6), .ref (md 7), .float fo])), (md 1, .inl (G.2 0, 354, .inl a)), (md 2, .inl (G.2 0, 2832, .inl pa)), (md 3, .inl (G.2 3, 60, .inl tb)), (md 4, .inl (G.2 0, 36, .inl qu)), (md 5, .inl (G.2 2, 288, .inr (.inr (.inl kn)))), (md 6, .inl (G.2 1, 288, .inl (fun jj => bI (ik jj)))), (md 7, .inl (G.2 1, 288, .inl (fun jj => bI (im jj))))]) H := hP
    have hD : va_D A ([(md 0, .inr (6, [.ref (md 1), .ref (md 2), .int (nI np), .ref (md 3), .int (nI ty), .int (nI aw), .int (bI iw), .ref (md 4), .float um4, .float lm4, .int (nI nm4), .ref (md 5), .ref (md 6), .ref (md 7), .float fo])), (md 1, .inl (G.2 0, 354, .inl a)), (md 2, .inl (G.2 0, 2832, .inl pa)), (md 3, .inl (G.2 3, 60, .inl tb)), (md 4, .inl (G.2 0, 36, .inl qu)), (md 5, .inl (G.2 2, 288, .inr (.inr (.inl kn)))), (md 6, .inl (G.2 1, 288, .inl (fun jj => bI (ik jj)))), (md 7, .inl (G.2 1, 288, .inl (fun jj => bI (im jj))))]) := hD
    refine cr_i (va_runS (As := [.float r_8]) (rest := []) ⟨hx, hb, hml, hown, hts⟩ (metJxf58ca_floatToIntBits_5c35a l G r_8) (va_cwS 1 hts gX7_movementBits_Jxf58ca_floatToIntBits_5c35a rfl rfl rfl (by decide +kernel) ⟨Nat.le_of_ble_eq_true rfl, Nat.le_of_ble_eq_true rfl⟩) (pR_S hK (va_P_nil _ _ _)) rfl rfl hl.1 rfl (lv_room (Nat.le_of_ble_eq_true rfl)) dX7_movementBits_16 ⟨Nat.zero_le _, Nat.zero_le _⟩) (fun r_9 hr_10 => ?_)
    subst hr_10
    refine lv_goto (tgt := 23) hx hb dX7_movementBits_19 (by decide) ?_
    refine W.endD hd0 ?_
    have hP9 := hP
    exact W.iret (v := bitD (vl r_8)) hx hb hr (fun t ht hW => ⟨⟨_, (um4, lm4, nm4, kn, ik, im, fo), rfl, (by rw [mMBf, if_pos (by simp [c_3]), nC_nI (k := k2) (by omega), nC_nI (k := k3) (by omega)]; rw [hw_7]), bM_end ht hP9⟩, hS.F ht⟩) hS.2.2 dX7_movementBits_23
set_option maxHeartbeats 4000000 in
set_option maxRecDepth 100000 in
/-- Model.directIndex -/
theorem metX7_directIndex (l : Launch) (G : GG) (md : Nat → Nat) (a pa : Nat → Int32) (np : Nat) (tb : Nat → Int32) (ty aw : Nat) (iw : Bool) (qu : Nat → Int32) (up lo : UInt32) (su : Nat) (kn : Nat → UInt32) (ik im : Nat → Bool) (fo : UInt32) (hA : mWF a) (y1 y2 y3 : Int32) : MetD lw_cs l yX7_directIndex wsX7_directIndex ({ frames := 6, cells := 0, slots := 0, locals := 180 }) (pM G (mcells G md a pa np tb ty aw iw qu up lo su kn ik im fo) [.ref (md 0), .int y1, .int y2, .int y3]) (va_Qi (fun r (_ : MS) => r = mDIf a y1 y2 y3) (bM G (fun (u : MS) => mcells G md a pa np tb ty aw iw qu u.1 u.2.1 u.2.2.1 u.2.2.2.1 u.2.2.2.2.1 u.2.2.2.2.2.1 u.2.2.2.2.2.2)) (adr (mcells G md a pa np tb ty aw iw qu up lo su kn ik im fo))) 0 0 (adr (mcells G md a pa np tb ty aw iw qu up lo su kn ik im fo)) := by
  refine MetD.ofW (cc := cX7_directIndex) (maxL := 4) (ret := (some .int)) (by decide) rfl ?_
  intro p e s m args below meth c s₁ B hml hv hd0
  obtain ⟨rfl, hK, hP, hD0⟩ := hv
  have hx := B.exec
  have hb := B.bytes
  have hr := B.returns
  have hlocks := B.notSynchronized
  have hts0 := atoms_spec (ws := wsX7_directIndex) B.pre
  have hts := dr_words hts0 s.drawn
  have hK0 := hK
  have hK := hK0.drawn s.drawn
  have hown : s.vm.findClass RX7 = some m.cls := findClass_of_methodNamed B.named
  have hD := hD0.own
  generalize hAe : adr (mcells G md a pa np tb ty aw iw qu up lo su kn ik im fo) = A at hD ⊢
  have hS : va_S A s.heap s.heap [] := va_S.rf
  have hl := lv_entry ([.ref (md 0), .int y1, .int y2, .int y3]) (n := 4) (Nat.le_of_ble_eq_true rfl)
  rw [lg_entry_eq]
  generalize (lg_sl ([.ref (md 0), .int y1, .int y2, .int y3]) ++ List.replicate (4 - (lg_sl ([.ref (md 0), .int y1, .int y2, .int y3])).length) Slot.unset).toArray = ls at hl ⊢
  have hl : lv_has ls 4 [(0, .ref (md 0)), (1, .int y1), (2, .int y2), (3, .int y3)] := hl
  have hP : va_P G.1 vwCl ([(md 0, .inr (6, [.ref (md 1), .ref (md 2), .int (nI np), .ref (md 3), .int (nI ty), .int (nI aw), .int (bI iw), .ref (md 4), .float up, .float lo, .int (nI su), .ref (md 5), .ref (md 6), .ref (md 7), .float fo])), (md 1, .inl (G.2 0, 354, .inl a)), (md 2, .inl (G.2 0, 2832, .inl pa)), (md 3, .inl (G.2 3, 60, .inl tb)), (md 4, .inl (G.2 0, 36, .inl qu)), (md 5, .inl (G.2 2, 288, .inr (.inr (.inl kn)))), (md 6, .inl (G.2 1, 288, .inl (fun jj => bI (ik jj)))), (md 7, .inl (G.2 1, 288, .inl (fun jj => bI (im jj))))]) s.heap := hP
  have hD : va_D A ([(md 0, .inr (6, [.ref (md 1), .ref (md 2), .int (nI np), .ref (md 3), .int (nI ty), .int (nI aw), .int (bI iw), .ref (md 4), .float up, .float lo, .int (nI su), .ref (md 5), .ref (md 6), .ref (md 7), .float fo])), (md 1, .inl (G.2 0, 354, .inl a)), (md 2, .inl (G.2 0, 2832, .inl pa)), (md 3, .inl (G.2 3, 60, .inl tb)), (md 4, .inl (G.2 0, 36, .inl qu)), (md 5, .inl (G.2 2, 288, .inr (.inr (.inl kn)))), (md 6, .inl (G.2 1, 288, .inl (fun jj => bI (ik jj)))), (md 7, .inl (G.2 1, 288, .inl (fun jj => bI (im jj))))]) := hD
  have hit := hA.1.2
  have hC := hA.1
  refine lv_iload_n hx hb dX7_directIndex_0 rfl (lv_at hl 1 rfl) ?_
  refine lv_iload_n hx hb dX7_directIndex_1 rfl (lv_at hl 2 rfl) ?_
  refine lv_iload_n hx hb dX7_directIndex_2 rfl (lv_at hl 3 rfl) ?_
  refine cr_i (va_runS (As := [.int y1, .int y2, .int y3]) (rest := []) ⟨hx, hb, hml, hown, hts⟩ (metX7_areThere l G y1 y2 y3) (va_cwS 3 hts gX7_directIndex_X7_areThere rfl rfl rfl (by decide +kernel) ⟨Nat.le_of_ble_eq_true rfl, Nat.le_of_ble_eq_true rfl⟩) (pR_S hK (va_P_nil _ _ _)) rfl rfl hl.1 rfl (lv_room (Nat.le_of_ble_eq_true rfl)) dX7_directIndex_3 ⟨Nat.zero_le _, Nat.zero_le _⟩) (fun r_1 hr_2 => ?_)
  subst hr_2
  refine nb_if_ne (B := smmM y1 y2 y3) (tgt := 11) hx hb dX7_directIndex_6 (by decide) (fun c_3 => ?_) (fun c_3 => ?_)
  · have hsm := c_3
    unfold smmM at hsm
    simp only [Bool.and_eq_true] at hsm
    obtain ⟨⟨hs1, hs2⟩, hs3⟩ := hsm
    obtain ⟨k2, hk2, rfl⟩ := isMon_nat ((isMonM_eq _).symm.trans hs2)
    obtain ⟨k3, hk3, rfl⟩ := isMon_nat ((isMonM_eq _).symm.trans hs3)
    have hit := hA.1.2
    have hl : lv_has ls 4 [(0, .ref (md 0)), (1, .int y1), (2, .int (nI k2)), (3, .int (nI k3))] := hl
    refine lv_aload_n hx hb dX7_directIndex_11 rfl (lv_at hl 0 rfl) ?_
    refine cwD_v hd0 (va_runV_D (As := []) (rest := []) ⟨hx, hb, hml, hown, hts⟩ (metX7_find l G md a pa np tb ty aw iw qu up lo su kn ik im fo hA) (cwV 0 hts gX7_directIndex_X7_find rfl rfl rfl (by decide +kernel) ⟨Nat.le_of_ble_eq_true rfl, Nat.le_of_ble_eq_true rfl⟩) (pM_V (w := mcells G md a pa np tb ty aw iw qu up lo su kn ik im fo) (q0 := 0) hK hP hD rfl rfl) rfl rfl hl.1 rfl (lv_room (Nat.le_of_ble_eq_true rfl)) dX7_directIndex_12 ⟨Nat.zero_le _, Nat.zero_le _⟩) hD hS (fun _ => rfl) (fun  u_5 H locs hw_6 hP hD hS d_4 hd0 => ?_)
    have hts := dr_words hts0 d_4
    have hK := hK0.drawn d_4
    obtain ⟨u5, l5, n5, kn5, ik5, im5, f5⟩ := u_5
    try dsimp only at hw_6
    have hF := hw_6
    have hP : va_P G.1 vwCl ([(md 0, .inr (6, [.ref (md 1), .ref (md 2), .int (nI np), .ref (md 3), .int (nI ty), .int (nI aw), .int (bI iw), .ref (md 4), .float u5, .float l5, .int (nI n5), .ref (md 5), .ref (md 6), .ref (md 7), .float f5])), (md 1, .inl (G.2 0, 354, .inl a)), (md 2, .inl (G.2 0, 2832, .inl pa)), (md 3, .inl (G.2 3, 60, .inl tb)), (md 4, .inl (G.2 0, 36, .inl qu)), (md 5, .inl (G.2 2, 288, .inr (.inr (.inl kn5)))), (md 6, .inl (G.2 1, 288, .inl (fun jj => bI (ik5 jj)))), (md 7, .inl (G.2 1, 288, .inl (fun jj => bI (im5 jj))))]) H := hP
    have hD : va_D A ([(md 0, .inr (6, [.ref (md 1), .ref (md 2), .int (nI np), .ref (md 3), .int (nI ty), .int (nI aw), .int (bI iw), .ref (md 4), .float u5, .float l5, .int (nI n5), .ref (md 5), .ref (md 6), .ref (md 7), .float f5])), (md 1, .inl (G.2 0, 354, .inl a)), (md 2, .inl (G.2 0, 2832, .inl pa)), (md 3, .inl (G.2 3, 60, .inl tb)), (md 4, .inl (G.2 0, 36, .inl qu)), (md 5, .inl (G.2 2, 288, .inr (.inr (.inl kn5)))), (md 6, .inl (G.2 1, 288, .inl (fun jj => bI (ik5 jj)))), (md 7, .inl (G.2 1, 288, .inl (fun jj => bI (im5 jj))))]) := hD
    refine lv_aload_n hx hb dX7_directIndex_15 rfl (lv_at hl 0 rfl) ?_
    refine lv_iload_n hx hb dX7_directIndex_16 rfl (lv_at hl 1 rfl) ?_
    refine lv_iload_n hx hb dX7_directIndex_17 rfl (lv_at hl 2 rfl) ?_
    refine lv_iload_n hx hb dX7_directIndex_18 rfl (lv_at hl 3 rfl) ?_
    refine cwD_i hd0 (va_runV_D (As := [.int y1, .int (nI k2), .int (nI k3)]) (rest := []) ⟨hx, hb, hml, hown, hts⟩ (metX7_hasDirect l G md a pa np tb ty aw iw qu u5 l5 n5 kn5 ik5 im5 f5 hA y1 k2 k3 (by omega) (by omega)) (cwV 3 hts gX7_directIndex_X7_hasDirect rfl rfl rfl (by decide +kernel) ⟨Nat.le_of_ble_eq_true rfl, Nat.le_of_ble_eq_true rfl⟩) (pM_V (w := mcells G md a pa np tb ty aw iw qu u5 l5 n5 kn5 ik5 im5 f5) (q0 := 0) hK hP hD rfl rfl) rfl rfl hl.1 rfl (lv_room (Nat.le_of_ble_eq_true rfl)) dX7_directIndex_19 ⟨Nat.zero_le _, Nat.zero_le _⟩) hD hS (fun _ => rfl) (fun r_11 u_9 H locs hw_10 hP hD hS d_8 hd0 => ?_)
    have hts := dr_words hts0 d_8
    have hK := hK0.drawn d_8
    obtain ⟨uh7, lh7, nh7, fh7⟩ := u_9
    try dsimp only at hw_10
    rw [hdA_eq hF (x := y1) (fr := k2) (tt := k3) (by omega) (by omega)] at hw_10
    have hw_10a : r_11 = bI (diH a y1 k2 k3) := hw_10.1
    have hw_10b : vl fh7 = diD a y1 k2 k3 := hw_10.2
    subst hw_10a
    have hP : va_P G.1 vwCl ([(md 0, .inr (6, [.ref (md 1), .ref (md 2), .int (nI np), .ref (md 3), .int (nI ty), .int (nI aw), .int (bI iw), .ref (md 4), .float uh7, .float lh7, .int (nI nh7), .ref (md 5), .ref (md 6), .ref (md 7), .float fh7])), (md 1, .inl (G.2 0, 354, .inl a)), (md 2, .inl (G.2 0, 2832, .inl pa)), (md 3, .inl (G.2 3, 60, .inl tb)), (md 4, .inl (G.2 0, 36, .inl qu)), (md 5, .inl (G.2 2, 288, .inr (.inr (.inl kn5)))), (md 6, .inl (G.2 1, 288, .inl (fun jj => bI (ik5 jj)))), (md 7, .inl (G.2 1, 288, .inl (fun jj => bI (im5 jj))))]) H := hP
    have hD : va_D A ([(md 0, .inr (6, [.ref (md 1), .ref (md 2), .int (nI np), .ref (md 3), .int (nI ty), .int (nI aw), .int (bI iw), .ref (md 4), .float uh7, .float lh7, .int (nI nh7), .ref (md 5), .ref (md 6), .ref (md 7), .float fh7])), (md 1, .inl (G.2 0, 354, .inl a)), (md 2, .inl (G.2 0, 2832, .inl pa)), (md 3, .inl (G.2 3, 60, .inl tb)), (md 4, .inl (G.2 0, 36, .inl qu)), (md 5, .inl (G.2 2, 288, .inr (.inr (.inl kn5)))), (md 6, .inl (G.2 1, 288, .inl (fun jj => bI (ik5 jj)))), (md 7, .inl (G.2 1, 288, .inl (fun jj => bI (im5 jj))))]) := hD
    refine nb_if_eq (B := diH a y1 k2 k3) (tgt := 35) hx hb dX7_directIndex_22 (by decide) (fun c_12 => ?_) (fun c_12 => ?_)
    · refine lv_bipush (v := (-9)) hx hb dX7_directIndex_35 (by decide) ?_
      refine W.endD hd0 ?_
      have hP9 := hP
      exact W.iret (v := (-9)) hx hb hr (fun t ht hW => ⟨⟨_, (uh7, lh7, nh7, kn5, ik5, im5, fh7), rfl, (by rw [mDIf, if_pos (by simp [c_3, c_12]), nC_nI (k := k2) (by omega), nC_nI (k := k3) (by omega)]; rw [if_neg (by rw [c_12]; decide)]), bM_end ht hP9⟩, hS.F ht⟩) hS.2.2 dX7_directIndex_37
    · refine lv_aload_n hx hb dX7_directIndex_25 rfl (lv_at hl 0 rfl) ?_
      refine va_get (D := G.1) (ci := 6) (v := .float fh7) (C := RX7) (T := TX7) (N := 15) hx hb hts (by decide +kernel) hown hK.1 hP 0 rfl rfl 14 (by decide) (hts (.fieldLink RX7 147 "PriceIndexCalculatorModel" "found" "F") (by decide +kernel)) (fun _ h9 => h9) rfl dX7_directIndex_26 ?_
      refine crD_i hd0 (va_runS_D (As := [.float fh7]) (rest := []) ⟨hx, hb, hml, hown, hts⟩ (metX7_hundredths l G fh7) (va_cwS 1 hts gX7_directIndex_X7_hundredths rfl rfl rfl (by decide +kernel) ⟨Nat.le_of_ble_eq_true rfl, Nat.le_of_ble_eq_true rfl⟩) (pR_S hK (va_P_nil _ _ _)) rfl rfl hl.1 rfl (lv_room (Nat.le_of_ble_eq_true rfl)) dX7_directIndex_29 ⟨Nat.zero_le _, Nat.zero_le _⟩) (fun r_14 hr_15 d_13 hd0 => ?_)
      have hts := dr_words hts0 d_13
      have hK := hK0.drawn d_13
      subst hr_15
      refine lv_goto (tgt := 37) hx hb dX7_directIndex_32 (by decide) ?_
      refine W.endD hd0 ?_
      have hP9 := hP
      exact W.iret (v := hunD (vl fh7)) hx hb hr (fun t ht hW => ⟨⟨_, (uh7, lh7, nh7, kn5, ik5, im5, fh7), rfl, (by rw [mDIf, if_pos (by simp [c_3, c_12]), nC_nI (k := k2) (by omega), nC_nI (k := k3) (by omega)]; rw [if_pos c_12, hw_10b]), bM_end ht hP9⟩, hS.F ht⟩) hS.2.2 dX7_directIndex_37
  · refine lv_iconst (v := (-1)) hx hb dX7_directIndex_9 (by decide) ?_
    refine W.endD hd0 ?_
    have hP9 := hP
    exact W.iret (v := (-1)) hx hb hr (fun t ht hW => ⟨⟨_, (up, lo, su, kn, ik, im, fo), rfl, (by simp [mDIf, c_3]), bM_end ht hP9⟩, hS.F ht⟩) hS.2.2 dX7_directIndex_10
set_option maxHeartbeats 4000000 in
set_option maxRecDepth 100000 in
/-- Model.chainedIndex -/
theorem metX7_chainedIndex (l : Launch) (G : GG) (md : Nat → Nat) (a pa : Nat → Int32) (np : Nat) (tb : Nat → Int32) (ty aw : Nat) (iw : Bool) (qu : Nat → Int32) (up lo : UInt32) (su : Nat) (kn : Nat → UInt32) (ik im : Nat → Bool) (fo : UInt32) (hA : mWF a) (y1 y2 y3 : Int32) : MetD lw_cs l yX7_chainedIndex wsX7_chainedIndex ({ frames := 6, cells := 0, slots := 0, locals := 180 }) (pM G (mcells G md a pa np tb ty aw iw qu up lo su kn ik im fo) [.ref (md 0), .int y1, .int y2, .int y3]) (va_Qi (fun r (_ : MS) => r = mCIf a y1 y2 y3) (bM G (fun (u : MS) => mcells G md a pa np tb ty aw iw qu u.1 u.2.1 u.2.2.1 u.2.2.2.1 u.2.2.2.2.1 u.2.2.2.2.2.1 u.2.2.2.2.2.2)) (adr (mcells G md a pa np tb ty aw iw qu up lo su kn ik im fo))) 0 0 (adr (mcells G md a pa np tb ty aw iw qu up lo su kn ik im fo)) := by
  refine MetD.ofW (cc := cX7_chainedIndex) (maxL := 4) (ret := (some .int)) (by decide) rfl ?_
  intro p e s m args below meth c s₁ B hml hv hd0
  obtain ⟨rfl, hK, hP, hD0⟩ := hv
  have hx := B.exec
  have hb := B.bytes
  have hr := B.returns
  have hlocks := B.notSynchronized
  have hts0 := atoms_spec (ws := wsX7_chainedIndex) B.pre
  have hts := dr_words hts0 s.drawn
  have hK0 := hK
  have hK := hK0.drawn s.drawn
  have hown : s.vm.findClass RX7 = some m.cls := findClass_of_methodNamed B.named
  have hD := hD0.own
  generalize hAe : adr (mcells G md a pa np tb ty aw iw qu up lo su kn ik im fo) = A at hD ⊢
  have hS : va_S A s.heap s.heap [] := va_S.rf
  have hl := lv_entry ([.ref (md 0), .int y1, .int y2, .int y3]) (n := 4) (Nat.le_of_ble_eq_true rfl)
  rw [lg_entry_eq]
  generalize (lg_sl ([.ref (md 0), .int y1, .int y2, .int y3]) ++ List.replicate (4 - (lg_sl ([.ref (md 0), .int y1, .int y2, .int y3])).length) Slot.unset).toArray = ls at hl ⊢
  have hl : lv_has ls 4 [(0, .ref (md 0)), (1, .int y1), (2, .int y2), (3, .int y3)] := hl
  have hP : va_P G.1 vwCl ([(md 0, .inr (6, [.ref (md 1), .ref (md 2), .int (nI np), .ref (md 3), .int (nI ty), .int (nI aw), .int (bI iw), .ref (md 4), .float up, .float lo, .int (nI su), .ref (md 5), .ref (md 6), .ref (md 7), .float fo])), (md 1, .inl (G.2 0, 354, .inl a)), (md 2, .inl (G.2 0, 2832, .inl pa)), (md 3, .inl (G.2 3, 60, .inl tb)), (md 4, .inl (G.2 0, 36, .inl qu)), (md 5, .inl (G.2 2, 288, .inr (.inr (.inl kn)))), (md 6, .inl (G.2 1, 288, .inl (fun jj => bI (ik jj)))), (md 7, .inl (G.2 1, 288, .inl (fun jj => bI (im jj))))]) s.heap := hP
  have hD : va_D A ([(md 0, .inr (6, [.ref (md 1), .ref (md 2), .int (nI np), .ref (md 3), .int (nI ty), .int (nI aw), .int (bI iw), .ref (md 4), .float up, .float lo, .int (nI su), .ref (md 5), .ref (md 6), .ref (md 7), .float fo])), (md 1, .inl (G.2 0, 354, .inl a)), (md 2, .inl (G.2 0, 2832, .inl pa)), (md 3, .inl (G.2 3, 60, .inl tb)), (md 4, .inl (G.2 0, 36, .inl qu)), (md 5, .inl (G.2 2, 288, .inr (.inr (.inl kn)))), (md 6, .inl (G.2 1, 288, .inl (fun jj => bI (ik jj)))), (md 7, .inl (G.2 1, 288, .inl (fun jj => bI (im jj))))]) := hD
  have hit := hA.1.2
  have hC := hA.1
  refine lv_iload_n hx hb dX7_chainedIndex_0 rfl (lv_at hl 1 rfl) ?_
  refine lv_iload_n hx hb dX7_chainedIndex_1 rfl (lv_at hl 2 rfl) ?_
  refine lv_iload_n hx hb dX7_chainedIndex_2 rfl (lv_at hl 3 rfl) ?_
  refine cr_i (va_runS (As := [.int y1, .int y2, .int y3]) (rest := []) ⟨hx, hb, hml, hown, hts⟩ (metX7_areThere l G y1 y2 y3) (va_cwS 3 hts gX7_chainedIndex_X7_areThere rfl rfl rfl (by decide +kernel) ⟨Nat.le_of_ble_eq_true rfl, Nat.le_of_ble_eq_true rfl⟩) (pR_S hK (va_P_nil _ _ _)) rfl rfl hl.1 rfl (lv_room (Nat.le_of_ble_eq_true rfl)) dX7_chainedIndex_3 ⟨Nat.zero_le _, Nat.zero_le _⟩) (fun r_1 hr_2 => ?_)
  subst hr_2
  refine nb_if_eq (B := smmM y1 y2 y3) (tgt := 27) hx hb dX7_chainedIndex_6 (by decide) (fun c_3 => ?_) (fun c_3 => ?_)
  · refine lv_iconst (v := (-1)) hx hb dX7_chainedIndex_27 (by decide) ?_
    refine W.endD hd0 ?_
    have hP9 := hP
    exact W.iret (v := (-1)) hx hb hr (fun t ht hW => ⟨⟨_, (up, lo, su, kn, ik, im, fo), rfl, (by simp [mCIf, c_3]), bM_end ht hP9⟩, hS.F ht⟩) hS.2.2 dX7_chainedIndex_28
  · refine lv_iload_n hx hb dX7_chainedIndex_9 rfl (lv_at hl 3 rfl) ?_
    refine lv_iload_n hx hb dX7_chainedIndex_10 rfl (lv_at hl 2 rfl) ?_
    refine lv_icmp_lt (tgt := 27) hx hb dX7_chainedIndex_11 (by decide) (fun c_4 => ?_) (fun c_4 => ?_)
    · refine lv_iconst (v := (-1)) hx hb dX7_chainedIndex_27 (by decide) ?_
      refine W.endD hd0 ?_
      have hP9 := hP
      exact W.iret (v := (-1)) hx hb hr (fun t ht hW => ⟨⟨_, (up, lo, su, kn, ik, im, fo), rfl, (by simp [mCIf, c_3, c_4]), bM_end ht hP9⟩, hS.F ht⟩) hS.2.2 dX7_chainedIndex_28
    · have hsm := c_3
      unfold smmM at hsm
      simp only [Bool.and_eq_true] at hsm
      obtain ⟨⟨hs1, hs2⟩, hs3⟩ := hsm
      obtain ⟨k2, hk2, rfl⟩ := isMon_nat ((isMonM_eq _).symm.trans hs2)
      obtain ⟨k3, hk3, rfl⟩ := isMon_nat ((isMonM_eq _).symm.trans hs3)
      have hit := hA.1.2
      have hl : lv_has ls 4 [(0, .ref (md 0)), (1, .int y1), (2, .int (nI k2)), (3, .int (nI k3))] := hl
      have hft : k2 ≤ k3 := by first | exact (nI_leI (by omega) (by omega)).mp c_4 | (rcases Nat.lt_or_ge k3 k2 with g | g; exact absurd (nI_lt g (by omega)) c_4; exact g)
      refine lv_aload_n hx hb dX7_chainedIndex_14 rfl (lv_at hl 0 rfl) ?_
      refine lv_iload_n hx hb dX7_chainedIndex_15 rfl (lv_at hl 1 rfl) ?_
      refine lv_iload_n hx hb dX7_chainedIndex_16 rfl (lv_at hl 2 rfl) ?_
      refine lv_iload_n hx hb dX7_chainedIndex_17 rfl (lv_at hl 3 rfl) ?_
      refine cwD_f hd0 (va_runV_D (As := [.int y1, .int (nI k2), .int (nI k3)]) (rest := []) ⟨hx, hb, hml, hown, hts⟩ (metX7_chained l G md a pa np tb ty aw iw qu up lo su kn ik im fo hA y1 k2 k3 (by omega) (by omega) (by omega)) (cwV 3 hts gX7_chainedIndex_X7_chained rfl rfl rfl (by decide +kernel) ⟨Nat.le_of_ble_eq_true rfl, Nat.le_of_ble_eq_true rfl⟩) (pM_V (w := mcells G md a pa np tb ty aw iw qu up lo su kn ik im fo) (q0 := 0) hK hP hD rfl rfl) rfl rfl hl.1 rfl (lv_room (Nat.le_of_ble_eq_true rfl)) dX7_chainedIndex_18 ⟨Nat.zero_le _, Nat.zero_le _⟩) hD hS (fun _ => rfl) (fun r_9 u_7 H locs hw_8 hP hD hS d_6 hd0 => ?_)
      have hts := dr_words hts0 d_6
      have hK := hK0.drawn d_6
      obtain ⟨uc5, lc5, nc5⟩ := u_7
      try dsimp only at hw_8
      have hP : va_P G.1 vwCl ([(md 0, .inr (6, [.ref (md 1), .ref (md 2), .int (nI np), .ref (md 3), .int (nI ty), .int (nI aw), .int (bI iw), .ref (md 4), .float uc5, .float lc5, .int (nI nc5), .ref (md 5), .ref (md 6), .ref (md 7), .float fo])), (md 1, .inl (G.2 0, 354, .inl a)), (md 2, .inl (G.2 0, 2832, .inl pa)), (md 3, .inl (G.2 3, 60, .inl tb)), (md 4, .inl (G.2 0, 36, .inl qu)), (md 5, .inl (G.2 2, 288, .inr (.inr (.inl kn)))), (md 6, .inl (G.2 1, 288, .inl (fun jj => bI (ik jj)))), (md 7, .inl (G.2 1, 288, .inl (fun jj => bI (im jj))))]) H := hP
      have hD : va_D A ([(md 0, .inr (6, [.ref (md 1), .ref (md 2), .int (nI np), .ref (md 3), .int (nI ty), .int (nI aw), .int (bI iw), .ref (md 4), .float uc5, .float lc5, .int (nI nc5), .ref (md 5), .ref (md 6), .ref (md 7), .float fo])), (md 1, .inl (G.2 0, 354, .inl a)), (md 2, .inl (G.2 0, 2832, .inl pa)), (md 3, .inl (G.2 3, 60, .inl tb)), (md 4, .inl (G.2 0, 36, .inl qu)), (md 5, .inl (G.2 2, 288, .inr (.inr (.inl kn)))), (md 6, .inl (G.2 1, 288, .inl (fun jj => bI (ik jj)))), (md 7, .inl (G.2 1, 288, .inl (fun jj => bI (im jj))))]) := hD
      refine crD_i hd0 (va_runS_D (As := [.float r_9]) (rest := []) ⟨hx, hb, hml, hown, hts⟩ (metX7_hundredths l G r_9) (va_cwS 1 hts gX7_chainedIndex_X7_hundredths rfl rfl rfl (by decide +kernel) ⟨Nat.le_of_ble_eq_true rfl, Nat.le_of_ble_eq_true rfl⟩) (pR_S hK (va_P_nil _ _ _)) rfl rfl hl.1 rfl (lv_room (Nat.le_of_ble_eq_true rfl)) dX7_chainedIndex_21 ⟨Nat.zero_le _, Nat.zero_le _⟩) (fun r_11 hr_12 d_10 hd0 => ?_)
      have hts := dr_words hts0 d_10
      have hK := hK0.drawn d_10
      subst hr_12
      refine lv_goto (tgt := 28) hx hb dX7_chainedIndex_24 (by decide) ?_
      refine W.endD hd0 ?_
      have hP9 := hP
      exact W.iret (v := hunD (vl r_9)) hx hb hr (fun t ht hW => ⟨⟨_, (uc5, lc5, nc5, kn, ik, im, fo), rfl, (by rw [mCIf, if_pos (by simp [c_3, c_4]), nC_nI (k := k2) (by omega), nC_nI (k := k3) (by omega)]; rw [hw_8]), bM_end ht hP9⟩, hS.F ht⟩) hS.2.2 dX7_chainedIndex_28
set_option maxHeartbeats 4000000 in
set_option maxRecDepth 100000 in
/-- Model.drift -/
theorem metX7_drift (l : Launch) (G : GG) (md : Nat → Nat) (a pa : Nat → Int32) (np : Nat) (tb : Nat → Int32) (ty aw : Nat) (iw : Bool) (qu : Nat → Int32) (up lo : UInt32) (su : Nat) (kn : Nat → UInt32) (ik im : Nat → Bool) (fo : UInt32) (hA : mWF a) (y1 y2 y3 : Int32) : MetD lw_cs l yX7_drift wsX7_drift ({ frames := 6, cells := 0, slots := 0, locals := 180 }) (pM G (mcells G md a pa np tb ty aw iw qu up lo su kn ik im fo) [.ref (md 0), .int y1, .int y2, .int y3]) (va_Qi (fun r (_ : MS) => r = mDRf a y1 y2 y3) (bM G (fun (u : MS) => mcells G md a pa np tb ty aw iw qu u.1 u.2.1 u.2.2.1 u.2.2.2.1 u.2.2.2.2.1 u.2.2.2.2.2.1 u.2.2.2.2.2.2)) (adr (mcells G md a pa np tb ty aw iw qu up lo su kn ik im fo))) 0 0 (adr (mcells G md a pa np tb ty aw iw qu up lo su kn ik im fo)) := by
  refine MetD.ofW (cc := cX7_drift) (maxL := 5) (ret := (some .int)) (by decide) rfl ?_
  intro p e s m args below meth c s₁ B hml hv hd0
  obtain ⟨rfl, hK, hP, hD0⟩ := hv
  have hx := B.exec
  have hb := B.bytes
  have hr := B.returns
  have hlocks := B.notSynchronized
  have hts0 := atoms_spec (ws := wsX7_drift) B.pre
  have hts := dr_words hts0 s.drawn
  have hK0 := hK
  have hK := hK0.drawn s.drawn
  have hown : s.vm.findClass RX7 = some m.cls := findClass_of_methodNamed B.named
  have hD := hD0.own
  generalize hAe : adr (mcells G md a pa np tb ty aw iw qu up lo su kn ik im fo) = A at hD ⊢
  have hS : va_S A s.heap s.heap [] := va_S.rf
  have hl := lv_entry ([.ref (md 0), .int y1, .int y2, .int y3]) (n := 5) (Nat.le_of_ble_eq_true rfl)
  rw [lg_entry_eq]
  generalize (lg_sl ([.ref (md 0), .int y1, .int y2, .int y3]) ++ List.replicate (5 - (lg_sl ([.ref (md 0), .int y1, .int y2, .int y3])).length) Slot.unset).toArray = ls at hl ⊢
  have hl : lv_has ls 5 [(0, .ref (md 0)), (1, .int y1), (2, .int y2), (3, .int y3)] := hl
  have hP : va_P G.1 vwCl ([(md 0, .inr (6, [.ref (md 1), .ref (md 2), .int (nI np), .ref (md 3), .int (nI ty), .int (nI aw), .int (bI iw), .ref (md 4), .float up, .float lo, .int (nI su), .ref (md 5), .ref (md 6), .ref (md 7), .float fo])), (md 1, .inl (G.2 0, 354, .inl a)), (md 2, .inl (G.2 0, 2832, .inl pa)), (md 3, .inl (G.2 3, 60, .inl tb)), (md 4, .inl (G.2 0, 36, .inl qu)), (md 5, .inl (G.2 2, 288, .inr (.inr (.inl kn)))), (md 6, .inl (G.2 1, 288, .inl (fun jj => bI (ik jj)))), (md 7, .inl (G.2 1, 288, .inl (fun jj => bI (im jj))))]) s.heap := hP
  have hD : va_D A ([(md 0, .inr (6, [.ref (md 1), .ref (md 2), .int (nI np), .ref (md 3), .int (nI ty), .int (nI aw), .int (bI iw), .ref (md 4), .float up, .float lo, .int (nI su), .ref (md 5), .ref (md 6), .ref (md 7), .float fo])), (md 1, .inl (G.2 0, 354, .inl a)), (md 2, .inl (G.2 0, 2832, .inl pa)), (md 3, .inl (G.2 3, 60, .inl tb)), (md 4, .inl (G.2 0, 36, .inl qu)), (md 5, .inl (G.2 2, 288, .inr (.inr (.inl kn)))), (md 6, .inl (G.2 1, 288, .inl (fun jj => bI (ik jj)))), (md 7, .inl (G.2 1, 288, .inl (fun jj => bI (im jj))))]) := hD
  have hit := hA.1.2
  have hC := hA.1
  refine lv_iload_n hx hb dX7_drift_0 rfl (lv_at hl 1 rfl) ?_
  refine lv_iload_n hx hb dX7_drift_1 rfl (lv_at hl 2 rfl) ?_
  refine lv_iload_n hx hb dX7_drift_2 rfl (lv_at hl 3 rfl) ?_
  refine cr_i (va_runS (As := [.int y1, .int y2, .int y3]) (rest := []) ⟨hx, hb, hml, hown, hts⟩ (metX7_areThere l G y1 y2 y3) (va_cwS 3 hts gX7_drift_X7_areThere rfl rfl rfl (by decide +kernel) ⟨Nat.le_of_ble_eq_true rfl, Nat.le_of_ble_eq_true rfl⟩) (pR_S hK (va_P_nil _ _ _)) rfl rfl hl.1 rfl (lv_room (Nat.le_of_ble_eq_true rfl)) dX7_drift_3 ⟨Nat.zero_le _, Nat.zero_le _⟩) (fun r_1 hr_2 => ?_)
  subst hr_2
  refine nb_if_eq (B := smmM y1 y2 y3) (tgt := 14) hx hb dX7_drift_6 (by decide) (fun c_3 => ?_) (fun c_3 => ?_)
  · refine lv_iconst (v := (-1)) hx hb dX7_drift_14 (by decide) ?_
    refine W.endD hd0 ?_
    have hP9 := hP
    exact W.iret (v := (-1)) hx hb hr (fun t ht hW => ⟨⟨_, (up, lo, su, kn, ik, im, fo), rfl, (by simp [mDRf, c_3]), bM_end ht hP9⟩, hS.F ht⟩) hS.2.2 dX7_drift_15
  · refine lv_iload_n hx hb dX7_drift_9 rfl (lv_at hl 3 rfl) ?_
    refine lv_iload_n hx hb dX7_drift_10 rfl (lv_at hl 2 rfl) ?_
    refine lv_icmp_ge (tgt := 16) hx hb dX7_drift_11 (by decide) (fun c_4 => ?_) (fun c_4 => ?_)
    · have hsm := c_3
      unfold smmM at hsm
      simp only [Bool.and_eq_true] at hsm
      obtain ⟨⟨hs1, hs2⟩, hs3⟩ := hsm
      obtain ⟨k2, hk2, rfl⟩ := isMon_nat ((isMonM_eq _).symm.trans hs2)
      obtain ⟨k3, hk3, rfl⟩ := isMon_nat ((isMonM_eq _).symm.trans hs3)
      have hit := hA.1.2
      have hl : lv_has ls 5 [(0, .ref (md 0)), (1, .int y1), (2, .int (nI k2)), (3, .int (nI k3))] := hl
      have hft : k2 ≤ k3 := by first | exact (nI_leI (by omega) (by omega)).mp c_4 | (rcases Nat.lt_or_ge k3 k2 with g | g; exact absurd (nI_lt g (by omega)) c_4; exact g)
      refine lv_aload_n hx hb dX7_drift_16 rfl (lv_at hl 0 rfl) ?_
      refine lv_iload_n hx hb dX7_drift_17 rfl (lv_at hl 1 rfl) ?_
      refine lv_iload_n hx hb dX7_drift_18 rfl (lv_at hl 2 rfl) ?_
      refine lv_iload_n hx hb dX7_drift_19 rfl (lv_at hl 3 rfl) ?_
      refine cwD_f hd0 (va_runV_D (As := [.int y1, .int (nI k2), .int (nI k3)]) (rest := []) ⟨hx, hb, hml, hown, hts⟩ (metX7_chained l G md a pa np tb ty aw iw qu up lo su kn ik im fo hA y1 k2 k3 (by omega) (by omega) (by omega)) (cwV 3 hts gX7_drift_X7_chained rfl rfl rfl (by decide +kernel) ⟨Nat.le_of_ble_eq_true rfl, Nat.le_of_ble_eq_true rfl⟩) (pM_V (w := mcells G md a pa np tb ty aw iw qu up lo su kn ik im fo) (q0 := 0) hK hP hD rfl rfl) rfl rfl hl.1 rfl (lv_room (Nat.le_of_ble_eq_true rfl)) dX7_drift_20 ⟨Nat.zero_le _, Nat.zero_le _⟩) hD hS (fun _ => rfl) (fun r_9 u_7 H locs hw_8 hP hD hS d_6 hd0 => ?_)
      have hts := dr_words hts0 d_6
      have hK := hK0.drawn d_6
      obtain ⟨uc5, lc5, nc5⟩ := u_7
      try dsimp only at hw_8
      have hP : va_P G.1 vwCl ([(md 0, .inr (6, [.ref (md 1), .ref (md 2), .int (nI np), .ref (md 3), .int (nI ty), .int (nI aw), .int (bI iw), .ref (md 4), .float uc5, .float lc5, .int (nI nc5), .ref (md 5), .ref (md 6), .ref (md 7), .float fo])), (md 1, .inl (G.2 0, 354, .inl a)), (md 2, .inl (G.2 0, 2832, .inl pa)), (md 3, .inl (G.2 3, 60, .inl tb)), (md 4, .inl (G.2 0, 36, .inl qu)), (md 5, .inl (G.2 2, 288, .inr (.inr (.inl kn)))), (md 6, .inl (G.2 1, 288, .inl (fun jj => bI (ik jj)))), (md 7, .inl (G.2 1, 288, .inl (fun jj => bI (im jj))))]) H := hP
      have hD : va_D A ([(md 0, .inr (6, [.ref (md 1), .ref (md 2), .int (nI np), .ref (md 3), .int (nI ty), .int (nI aw), .int (bI iw), .ref (md 4), .float uc5, .float lc5, .int (nI nc5), .ref (md 5), .ref (md 6), .ref (md 7), .float fo])), (md 1, .inl (G.2 0, 354, .inl a)), (md 2, .inl (G.2 0, 2832, .inl pa)), (md 3, .inl (G.2 3, 60, .inl tb)), (md 4, .inl (G.2 0, 36, .inl qu)), (md 5, .inl (G.2 2, 288, .inr (.inr (.inl kn)))), (md 6, .inl (G.2 1, 288, .inl (fun jj => bI (ik jj)))), (md 7, .inl (G.2 1, 288, .inl (fun jj => bI (im jj))))]) := hD
      refine crD_i hd0 (va_runS_D (As := [.float r_9]) (rest := []) ⟨hx, hb, hml, hown, hts⟩ (metX7_hundredths l G r_9) (va_cwS 1 hts gX7_drift_X7_hundredths rfl rfl rfl (by decide +kernel) ⟨Nat.le_of_ble_eq_true rfl, Nat.le_of_ble_eq_true rfl⟩) (pR_S hK (va_P_nil _ _ _)) rfl rfl hl.1 rfl (lv_room (Nat.le_of_ble_eq_true rfl)) dX7_drift_23 ⟨Nat.zero_le _, Nat.zero_le _⟩) (fun r_11 hr_12 d_10 hd0 => ?_)
      have hts := dr_words hts0 d_10
      have hK := hK0.drawn d_10
      subst hr_12
      refine lv_istore (lv' := [(4, .int (hunD (vl r_9))), (0, .ref (md 0)), (1, .int y1), (2, .int (nI k2)), (3, .int (nI k3))]) hx hb dX7_drift_26 hl (by decide) rfl (fun ls hl => ?_)
      refine lv_aload_n hx hb dX7_drift_28 rfl (lv_at hl 1 rfl) ?_
      refine cwD_v hd0 (va_runV_D (As := []) (rest := []) ⟨hx, hb, hml, hown, hts⟩ (metX7_find l G md a pa np tb ty aw iw qu uc5 lc5 nc5 kn ik im fo hA) (cwV 0 hts gX7_drift_X7_find rfl rfl rfl (by decide +kernel) ⟨Nat.le_of_ble_eq_true rfl, Nat.le_of_ble_eq_true rfl⟩) (pM_V (w := mcells G md a pa np tb ty aw iw qu uc5 lc5 nc5 kn ik im fo) (q0 := 0) hK hP hD rfl rfl) rfl rfl hl.1 rfl (lv_room (Nat.le_of_ble_eq_true rfl)) dX7_drift_29 ⟨Nat.zero_le _, Nat.zero_le _⟩) hD hS (fun _ => rfl) (fun  u_14 H locs hw_15 hP hD hS d_13 hd0 => ?_)
      have hts := dr_words hts0 d_13
      have hK := hK0.drawn d_13
      obtain ⟨u5, l5, n5, kn5, ik5, im5, f5⟩ := u_14
      try dsimp only at hw_15
      have hF := hw_15
      have hP : va_P G.1 vwCl ([(md 0, .inr (6, [.ref (md 1), .ref (md 2), .int (nI np), .ref (md 3), .int (nI ty), .int (nI aw), .int (bI iw), .ref (md 4), .float u5, .float l5, .int (nI n5), .ref (md 5), .ref (md 6), .ref (md 7), .float f5])), (md 1, .inl (G.2 0, 354, .inl a)), (md 2, .inl (G.2 0, 2832, .inl pa)), (md 3, .inl (G.2 3, 60, .inl tb)), (md 4, .inl (G.2 0, 36, .inl qu)), (md 5, .inl (G.2 2, 288, .inr (.inr (.inl kn5)))), (md 6, .inl (G.2 1, 288, .inl (fun jj => bI (ik5 jj)))), (md 7, .inl (G.2 1, 288, .inl (fun jj => bI (im5 jj))))]) H := hP
      have hD : va_D A ([(md 0, .inr (6, [.ref (md 1), .ref (md 2), .int (nI np), .ref (md 3), .int (nI ty), .int (nI aw), .int (bI iw), .ref (md 4), .float u5, .float l5, .int (nI n5), .ref (md 5), .ref (md 6), .ref (md 7), .float f5])), (md 1, .inl (G.2 0, 354, .inl a)), (md 2, .inl (G.2 0, 2832, .inl pa)), (md 3, .inl (G.2 3, 60, .inl tb)), (md 4, .inl (G.2 0, 36, .inl qu)), (md 5, .inl (G.2 2, 288, .inr (.inr (.inl kn5)))), (md 6, .inl (G.2 1, 288, .inl (fun jj => bI (ik5 jj)))), (md 7, .inl (G.2 1, 288, .inl (fun jj => bI (im5 jj))))]) := hD
      refine lv_aload_n hx hb dX7_drift_32 rfl (lv_at hl 1 rfl) ?_
      refine lv_iload_n hx hb dX7_drift_33 rfl (lv_at hl 2 rfl) ?_
      refine lv_iload_n hx hb dX7_drift_34 rfl (lv_at hl 3 rfl) ?_
      refine lv_iload_n hx hb dX7_drift_35 rfl (lv_at hl 4 rfl) ?_
      refine cwD_i hd0 (va_runV_D (As := [.int y1, .int (nI k2), .int (nI k3)]) (rest := []) ⟨hx, hb, hml, hown, hts⟩ (metX7_hasDirect l G md a pa np tb ty aw iw qu u5 l5 n5 kn5 ik5 im5 f5 hA y1 k2 k3 (by omega) (by omega)) (cwV 3 hts gX7_drift_X7_hasDirect rfl rfl rfl (by decide +kernel) ⟨Nat.le_of_ble_eq_true rfl, Nat.le_of_ble_eq_true rfl⟩) (pM_V (w := mcells G md a pa np tb ty aw iw qu u5 l5 n5 kn5 ik5 im5 f5) (q0 := 0) hK hP hD rfl rfl) rfl rfl hl.1 rfl (lv_room (Nat.le_of_ble_eq_true rfl)) dX7_drift_36 ⟨Nat.zero_le _, Nat.zero_le _⟩) hD hS (fun _ => rfl) (fun r_20 u_18 H locs hw_19 hP hD hS d_17 hd0 => ?_)
      have hts := dr_words hts0 d_17
      have hK := hK0.drawn d_17
      obtain ⟨uh16, lh16, nh16, fh16⟩ := u_18
      try dsimp only at hw_19
      rw [hdA_eq hF (x := y1) (fr := k2) (tt := k3) (by omega) (by omega)] at hw_19
      have hw_19a : r_20 = bI (diH a y1 k2 k3) := hw_19.1
      have hw_19b : vl fh16 = diD a y1 k2 k3 := hw_19.2
      subst hw_19a
      have hP : va_P G.1 vwCl ([(md 0, .inr (6, [.ref (md 1), .ref (md 2), .int (nI np), .ref (md 3), .int (nI ty), .int (nI aw), .int (bI iw), .ref (md 4), .float uh16, .float lh16, .int (nI nh16), .ref (md 5), .ref (md 6), .ref (md 7), .float fh16])), (md 1, .inl (G.2 0, 354, .inl a)), (md 2, .inl (G.2 0, 2832, .inl pa)), (md 3, .inl (G.2 3, 60, .inl tb)), (md 4, .inl (G.2 0, 36, .inl qu)), (md 5, .inl (G.2 2, 288, .inr (.inr (.inl kn5)))), (md 6, .inl (G.2 1, 288, .inl (fun jj => bI (ik5 jj)))), (md 7, .inl (G.2 1, 288, .inl (fun jj => bI (im5 jj))))]) H := hP
      have hD : va_D A ([(md 0, .inr (6, [.ref (md 1), .ref (md 2), .int (nI np), .ref (md 3), .int (nI ty), .int (nI aw), .int (bI iw), .ref (md 4), .float uh16, .float lh16, .int (nI nh16), .ref (md 5), .ref (md 6), .ref (md 7), .float fh16])), (md 1, .inl (G.2 0, 354, .inl a)), (md 2, .inl (G.2 0, 2832, .inl pa)), (md 3, .inl (G.2 3, 60, .inl tb)), (md 4, .inl (G.2 0, 36, .inl qu)), (md 5, .inl (G.2 2, 288, .inr (.inr (.inl kn5)))), (md 6, .inl (G.2 1, 288, .inl (fun jj => bI (ik5 jj)))), (md 7, .inl (G.2 1, 288, .inl (fun jj => bI (im5 jj))))]) := hD
      refine nb_if_eq (B := diH a y1 k2 k3) (tgt := 58) hx hb dX7_drift_39 (by decide) (fun c_21 => ?_) (fun c_21 => ?_)
      · refine lv_bipush (v := (-9)) hx hb dX7_drift_58 (by decide) ?_
        refine W.endD hd0 ?_
        have hP9 := hP
        exact W.iret (v := (-9)) hx hb hr (fun t ht hW => ⟨⟨_, (uh16, lh16, nh16, kn5, ik5, im5, fh16), rfl, (by rw [mDRf, if_pos (by simp [c_3, c_4, c_21]), nC_nI (k := k2) (by omega), nC_nI (k := k3) (by omega)]; rw [if_neg (by rw [c_21]; decide)]), bM_end ht hP9⟩, hS.F ht⟩) hS.2.2 dX7_drift_60
      · refine lv_ldc (v := nI 1000000) hx hb hown (hts (.constant RX7 159 (1000000)) (by decide +kernel)) dX7_drift_42 ?_
        refine lv_iload hx hb dX7_drift_44 (lv_at hl 0 rfl) ?_
        refine lv_aload_n hx hb dX7_drift_46 rfl (lv_at hl 1 rfl) ?_
        refine va_get (D := G.1) (ci := 6) (v := .float fh16) (C := RX7) (T := TX7) (N := 15) hx hb hts (by decide +kernel) hown hK.1 hP 0 rfl rfl 14 (by decide) (hts (.fieldLink RX7 147 "PriceIndexCalculatorModel" "found" "F") (by decide +kernel)) (fun _ h9 => h9) rfl dX7_drift_47 ?_
        refine crD_i hd0 (va_runS_D (As := [.float fh16]) (rest := [.int (hunD (vl r_9)), .int (nI 1000000)]) ⟨hx, hb, hml, hown, hts⟩ (metX7_hundredths l G fh16) (va_cwS 1 hts gX7_drift_X7_hundredths rfl rfl rfl (by decide +kernel) ⟨Nat.le_of_ble_eq_true rfl, Nat.le_of_ble_eq_true rfl⟩) (pR_S hK (va_P_nil _ _ _)) rfl rfl hl.1 rfl (lv_room (Nat.le_of_ble_eq_true rfl)) dX7_drift_50 ⟨Nat.zero_le _, Nat.zero_le _⟩) (fun r_23 hr_24 d_22 hd0 => ?_)
        have hts := dr_words hts0 d_22
        have hK := hK0.drawn d_22
        subst hr_24
        refine lv_isub hx hb dX7_drift_53 ?_
        refine lv_iadd hx hb dX7_drift_54 ?_
        refine lv_goto (tgt := 60) hx hb dX7_drift_55 (by decide) ?_
        refine W.endD hd0 ?_
        have hP9 := hP
        exact W.iret (v := (nI 1000000) + ((hunD (vl r_9)) - (hunD (vl fh16)))) hx hb hr (fun t ht hW => ⟨⟨_, (uh16, lh16, nh16, kn5, ik5, im5, fh16), rfl, (by rw [mDRf, if_pos (by simp [c_3, c_4, c_21]), nC_nI (k := k2) (by omega), nC_nI (k := k3) (by omega)]; rw [if_pos c_21, hw_8, hw_19b]), bM_end ht hP9⟩, hS.F ht⟩) hS.2.2 dX7_drift_60
    · refine lv_iconst (v := (-1)) hx hb dX7_drift_14 (by decide) ?_
      refine W.endD hd0 ?_
      have hP9 := hP
      exact W.iret (v := (-1)) hx hb hr (fun t ht hW => ⟨⟨_, (up, lo, su, kn, ik, im, fo), rfl, (by simp [mDRf, c_3, c_4]), bM_end ht hP9⟩, hS.F ht⟩) hS.2.2 dX7_drift_15
set_option maxHeartbeats 4000000 in
set_option maxRecDepth 100000 in
/-- Model.aggregateIndex -/
theorem metX7_aggregateIndex (l : Launch) (G : GG) (md : Nat → Nat) (a pa : Nat → Int32) (np : Nat) (tb : Nat → Int32) (ty aw : Nat) (iw : Bool) (qu : Nat → Int32) (up lo : UInt32) (su : Nat) (kn : Nat → UInt32) (ik im : Nat → Bool) (fo : UInt32) (hA : mWF a) (hw4 : ∀ k, k < 4 → 0 ≤ (a (0 + k)).toInt ∧ (a (0 + k)).toInt ≤ 100) (y1 y2 : Int32) : MetD lw_cs l yX7_aggregateIndex wsX7_aggregateIndex ({ frames := 7, cells := 0, slots := 0, locals := 210 }) (pM G (mcells G md a pa np tb ty aw iw qu up lo su kn ik im fo) [.ref (md 0), .int y1, .int y2]) (va_Qi (fun r (_ : MS) => r = mAXf a y1 y2) (bM G (fun (u : MS) => mcells G md a pa np tb ty aw iw qu u.1 u.2.1 u.2.2.1 u.2.2.2.1 u.2.2.2.2.1 u.2.2.2.2.2.1 u.2.2.2.2.2.2)) (adr (mcells G md a pa np tb ty aw iw qu up lo su kn ik im fo))) 0 0 (adr (mcells G md a pa np tb ty aw iw qu up lo su kn ik im fo)) := by
  refine MetD.ofW (cc := cX7_aggregateIndex) (maxL := 3) (ret := (some .int)) (by decide) rfl ?_
  intro p e s m args below meth c s₁ B hml hv hd0
  obtain ⟨rfl, hK, hP, hD0⟩ := hv
  have hx := B.exec
  have hb := B.bytes
  have hr := B.returns
  have hlocks := B.notSynchronized
  have hts0 := atoms_spec (ws := wsX7_aggregateIndex) B.pre
  have hts := dr_words hts0 s.drawn
  have hK0 := hK
  have hK := hK0.drawn s.drawn
  have hown : s.vm.findClass RX7 = some m.cls := findClass_of_methodNamed B.named
  have hD := hD0.own
  generalize hAe : adr (mcells G md a pa np tb ty aw iw qu up lo su kn ik im fo) = A at hD ⊢
  have hS : va_S A s.heap s.heap [] := va_S.rf
  have hl := lv_entry ([.ref (md 0), .int y1, .int y2]) (n := 3) (Nat.le_of_ble_eq_true rfl)
  rw [lg_entry_eq]
  generalize (lg_sl ([.ref (md 0), .int y1, .int y2]) ++ List.replicate (3 - (lg_sl ([.ref (md 0), .int y1, .int y2])).length) Slot.unset).toArray = ls at hl ⊢
  have hl : lv_has ls 3 [(0, .ref (md 0)), (1, .int y1), (2, .int y2)] := hl
  have hP : va_P G.1 vwCl ([(md 0, .inr (6, [.ref (md 1), .ref (md 2), .int (nI np), .ref (md 3), .int (nI ty), .int (nI aw), .int (bI iw), .ref (md 4), .float up, .float lo, .int (nI su), .ref (md 5), .ref (md 6), .ref (md 7), .float fo])), (md 1, .inl (G.2 0, 354, .inl a)), (md 2, .inl (G.2 0, 2832, .inl pa)), (md 3, .inl (G.2 3, 60, .inl tb)), (md 4, .inl (G.2 0, 36, .inl qu)), (md 5, .inl (G.2 2, 288, .inr (.inr (.inl kn)))), (md 6, .inl (G.2 1, 288, .inl (fun jj => bI (ik jj)))), (md 7, .inl (G.2 1, 288, .inl (fun jj => bI (im jj))))]) s.heap := hP
  have hD : va_D A ([(md 0, .inr (6, [.ref (md 1), .ref (md 2), .int (nI np), .ref (md 3), .int (nI ty), .int (nI aw), .int (bI iw), .ref (md 4), .float up, .float lo, .int (nI su), .ref (md 5), .ref (md 6), .ref (md 7), .float fo])), (md 1, .inl (G.2 0, 354, .inl a)), (md 2, .inl (G.2 0, 2832, .inl pa)), (md 3, .inl (G.2 3, 60, .inl tb)), (md 4, .inl (G.2 0, 36, .inl qu)), (md 5, .inl (G.2 2, 288, .inr (.inr (.inl kn)))), (md 6, .inl (G.2 1, 288, .inl (fun jj => bI (ik jj)))), (md 7, .inl (G.2 1, 288, .inl (fun jj => bI (im jj))))]) := hD
  have hit := hA.1.2
  have hC := hA.1
  refine lv_iload_n hx hb dX7_aggregateIndex_0 rfl (lv_at hl 1 rfl) ?_
  refine cr_i (va_runS (As := [.int y1]) (rest := []) ⟨hx, hb, hml, hown, hts⟩ (metX7_isMonth l G y1) (va_cwS 1 hts gX7_aggregateIndex_X7_isMonth rfl rfl rfl (by decide +kernel) ⟨Nat.le_of_ble_eq_true rfl, Nat.le_of_ble_eq_true rfl⟩) (pR_S hK (va_P_nil _ _ _)) rfl rfl hl.1 rfl (lv_room (Nat.le_of_ble_eq_true rfl)) dX7_aggregateIndex_1 ⟨Nat.zero_le _, Nat.zero_le _⟩) (fun r_1 hr_2 => ?_)
  subst hr_2
  refine nb_if_eq (B := isMonM y1) (tgt := 14) hx hb dX7_aggregateIndex_4 (by decide) (fun c_3 => ?_) (fun c_3 => ?_)
  · refine lv_iconst (v := (-1)) hx hb dX7_aggregateIndex_14 (by decide) ?_
    refine W.endD hd0 ?_
    have hP9 := hP
    exact W.iret (v := (-1)) hx hb hr (fun t ht hW => ⟨⟨_, (up, lo, su, kn, ik, im, fo), rfl, (by simp [mAXf, c_3]), bM_end ht hP9⟩, hS.F ht⟩) hS.2.2 dX7_aggregateIndex_15
  · refine lv_iload_n hx hb dX7_aggregateIndex_7 rfl (lv_at hl 2 rfl) ?_
    refine cr_i (va_runS (As := [.int y2]) (rest := []) ⟨hx, hb, hml, hown, hts⟩ (metX7_isMonth l G y2) (va_cwS 1 hts gX7_aggregateIndex_X7_isMonth rfl rfl rfl (by decide +kernel) ⟨Nat.le_of_ble_eq_true rfl, Nat.le_of_ble_eq_true rfl⟩) (pR_S hK (va_P_nil _ _ _)) rfl rfl hl.1 rfl (lv_room (Nat.le_of_ble_eq_true rfl)) dX7_aggregateIndex_8 ⟨Nat.zero_le _, Nat.zero_le _⟩) (fun r_4 hr_5 => ?_)
    subst hr_5
    refine nb_if_ne (B := isMonM y2) (tgt := 16) hx hb dX7_aggregateIndex_11 (by decide) (fun c_6 => ?_) (fun c_6 => ?_)
    · obtain ⟨k1, hk1, rfl⟩ := isMon_nat ((isMonM_eq _).symm.trans c_3)
      obtain ⟨k2, hk2, rfl⟩ := isMon_nat ((isMonM_eq _).symm.trans c_6)
      have hit := hA.1.2
      have hl : lv_has ls 3 [(0, .ref (md 0)), (1, .int (nI k1)), (2, .int (nI k2))] := hl
      refine lv_aload_n hx hb dX7_aggregateIndex_16 rfl (lv_at hl 0 rfl) ?_
      refine lv_iload_n hx hb dX7_aggregateIndex_17 rfl (lv_at hl 1 rfl) ?_
      refine lv_iload_n hx hb dX7_aggregateIndex_18 rfl (lv_at hl 2 rfl) ?_
      refine cwD_i hd0 (va_runV_D (As := [.int (nI k1), .int (nI k2)]) (rest := []) ⟨hx, hb, hml, hown, hts⟩ (metX7_hasAggregate l G md a pa np tb ty aw iw qu up lo su kn ik im fo hA hw4 k1 k2 (by omega) (by omega)) (cwV 2 hts gX7_aggregateIndex_X7_hasAggregate rfl rfl rfl (by decide +kernel) ⟨Nat.le_of_ble_eq_true rfl, Nat.le_of_ble_eq_true rfl⟩) (pM_V (w := mcells G md a pa np tb ty aw iw qu up lo su kn ik im fo) (q0 := 0) hK hP hD rfl rfl) rfl rfl hl.1 rfl (lv_room (Nat.le_of_ble_eq_true rfl)) dX7_aggregateIndex_19 ⟨Nat.zero_le _, Nat.zero_le _⟩) hD hS (fun _ => rfl) (fun r_10 u_8 H locs hw_9 hP hD hS d_7 hd0 => ?_)
      have hts := dr_words hts0 d_7
      have hK := hK0.drawn d_7
      obtain ⟨u7, l7, n7, kn7, ik7, im7, f7⟩ := u_8
      try dsimp only at hw_9
      obtain ⟨hw_9a, hw_9b⟩ := hw_9
      subst hw_9a
      have hP : va_P G.1 vwCl ([(md 0, .inr (6, [.ref (md 1), .ref (md 2), .int (nI np), .ref (md 3), .int (nI ty), .int (nI aw), .int (bI iw), .ref (md 4), .float u7, .float l7, .int (nI n7), .ref (md 5), .ref (md 6), .ref (md 7), .float f7])), (md 1, .inl (G.2 0, 354, .inl a)), (md 2, .inl (G.2 0, 2832, .inl pa)), (md 3, .inl (G.2 3, 60, .inl tb)), (md 4, .inl (G.2 0, 36, .inl qu)), (md 5, .inl (G.2 2, 288, .inr (.inr (.inl kn7)))), (md 6, .inl (G.2 1, 288, .inl (fun jj => bI (ik7 jj)))), (md 7, .inl (G.2 1, 288, .inl (fun jj => bI (im7 jj))))]) H := hP
      have hD : va_D A ([(md 0, .inr (6, [.ref (md 1), .ref (md 2), .int (nI np), .ref (md 3), .int (nI ty), .int (nI aw), .int (bI iw), .ref (md 4), .float u7, .float l7, .int (nI n7), .ref (md 5), .ref (md 6), .ref (md 7), .float f7])), (md 1, .inl (G.2 0, 354, .inl a)), (md 2, .inl (G.2 0, 2832, .inl pa)), (md 3, .inl (G.2 3, 60, .inl tb)), (md 4, .inl (G.2 0, 36, .inl qu)), (md 5, .inl (G.2 2, 288, .inr (.inr (.inl kn7)))), (md 6, .inl (G.2 1, 288, .inl (fun jj => bI (ik7 jj)))), (md 7, .inl (G.2 1, 288, .inl (fun jj => bI (im7 jj))))]) := hD
      refine nb_if_eq (B := decide (0 < (agD a k1 k2 4).2)) (tgt := 35) hx hb dX7_aggregateIndex_22 (by decide) (fun c_11 => ?_) (fun c_11 => ?_)
      · refine lv_bipush (v := (-9)) hx hb dX7_aggregateIndex_35 (by decide) ?_
        refine W.endD hd0 ?_
        have hP9 := hP
        exact W.iret (v := (-9)) hx hb hr (fun t ht hW => ⟨⟨_, (u7, l7, n7, kn7, ik7, im7, f7), rfl, (by rw [mAXf, if_pos (by simp [c_3, c_6, c_11]), nC_nI (k := k1) (by omega), nC_nI (k := k2) (by omega)]; rw [if_neg (of_decide_eq_false c_11)]), bM_end ht hP9⟩, hS.F ht⟩) hS.2.2 dX7_aggregateIndex_37
      · refine lv_aload_n hx hb dX7_aggregateIndex_25 rfl (lv_at hl 0 rfl) ?_
        refine va_get (D := G.1) (ci := 6) (v := .float f7) (C := RX7) (T := TX7) (N := 15) hx hb hts (by decide +kernel) hown hK.1 hP 0 rfl rfl 14 (by decide) (hts (.fieldLink RX7 147 "PriceIndexCalculatorModel" "found" "F") (by decide +kernel)) (fun _ h9 => h9) rfl dX7_aggregateIndex_26 ?_
        refine crD_i hd0 (va_runS_D (As := [.float f7]) (rest := []) ⟨hx, hb, hml, hown, hts⟩ (metX7_hundredths l G f7) (va_cwS 1 hts gX7_aggregateIndex_X7_hundredths rfl rfl rfl (by decide +kernel) ⟨Nat.le_of_ble_eq_true rfl, Nat.le_of_ble_eq_true rfl⟩) (pR_S hK (va_P_nil _ _ _)) rfl rfl hl.1 rfl (lv_room (Nat.le_of_ble_eq_true rfl)) dX7_aggregateIndex_29 ⟨Nat.zero_le _, Nat.zero_le _⟩) (fun r_13 hr_14 d_12 hd0 => ?_)
        have hts := dr_words hts0 d_12
        have hK := hK0.drawn d_12
        subst hr_14
        refine lv_goto (tgt := 37) hx hb dX7_aggregateIndex_32 (by decide) ?_
        refine W.endD hd0 ?_
        have hP9 := hP
        exact W.iret (v := hunD (vl f7)) hx hb hr (fun t ht hW => ⟨⟨_, (u7, l7, n7, kn7, ik7, im7, f7), rfl, (by rw [mAXf, if_pos (by simp [c_3, c_6, c_11]), nC_nI (k := k1) (by omega), nC_nI (k := k2) (by omega)]; rw [if_pos (of_decide_eq_true c_11), hw_9b]), bM_end ht hP9⟩, hS.F ht⟩) hS.2.2 dX7_aggregateIndex_37
    · refine lv_iconst (v := (-1)) hx hb dX7_aggregateIndex_14 (by decide) ?_
      refine W.endD hd0 ?_
      have hP9 := hP
      exact W.iret (v := (-1)) hx hb hr (fun t ht hW => ⟨⟨_, (up, lo, su, kn, ik, im, fo), rfl, (by simp [mAXf, c_3, c_6]), bM_end ht hP9⟩, hS.F ht⟩) hS.2.2 dX7_aggregateIndex_15
set_option maxHeartbeats 4000000 in
set_option maxRecDepth 100000 in
/-- Model.aggregateBits -/
theorem metX7_aggregateBits (l : Launch) (G : GG) (md : Nat → Nat) (a pa : Nat → Int32) (np : Nat) (tb : Nat → Int32) (ty aw : Nat) (iw : Bool) (qu : Nat → Int32) (up lo : UInt32) (su : Nat) (kn : Nat → UInt32) (ik im : Nat → Bool) (fo : UInt32) (hA : mWF a) (hw4 : ∀ k, k < 4 → 0 ≤ (a (0 + k)).toInt ∧ (a (0 + k)).toInt ≤ 100) (y1 y2 : Int32) : MetD lw_cs l yX7_aggregateBits wsX7_aggregateBits ({ frames := 7, cells := 0, slots := 0, locals := 210 }) (pM G (mcells G md a pa np tb ty aw iw qu up lo su kn ik im fo) [.ref (md 0), .int y1, .int y2]) (va_Qi (fun r (_ : MS) => r = mABf a y1 y2) (bM G (fun (u : MS) => mcells G md a pa np tb ty aw iw qu u.1 u.2.1 u.2.2.1 u.2.2.2.1 u.2.2.2.2.1 u.2.2.2.2.2.1 u.2.2.2.2.2.2)) (adr (mcells G md a pa np tb ty aw iw qu up lo su kn ik im fo))) 0 0 (adr (mcells G md a pa np tb ty aw iw qu up lo su kn ik im fo)) := by
  refine MetD.ofW (cc := cX7_aggregateBits) (maxL := 3) (ret := (some .int)) (by decide) rfl ?_
  intro p e s m args below meth c s₁ B hml hv hd0
  obtain ⟨rfl, hK, hP, hD0⟩ := hv
  have hx := B.exec
  have hb := B.bytes
  have hr := B.returns
  have hlocks := B.notSynchronized
  have hts0 := atoms_spec (ws := wsX7_aggregateBits) B.pre
  have hts := dr_words hts0 s.drawn
  have hK0 := hK
  have hK := hK0.drawn s.drawn
  have hown : s.vm.findClass RX7 = some m.cls := findClass_of_methodNamed B.named
  have hD := hD0.own
  generalize hAe : adr (mcells G md a pa np tb ty aw iw qu up lo su kn ik im fo) = A at hD ⊢
  have hS : va_S A s.heap s.heap [] := va_S.rf
  have hl := lv_entry ([.ref (md 0), .int y1, .int y2]) (n := 3) (Nat.le_of_ble_eq_true rfl)
  rw [lg_entry_eq]
  generalize (lg_sl ([.ref (md 0), .int y1, .int y2]) ++ List.replicate (3 - (lg_sl ([.ref (md 0), .int y1, .int y2])).length) Slot.unset).toArray = ls at hl ⊢
  have hl : lv_has ls 3 [(0, .ref (md 0)), (1, .int y1), (2, .int y2)] := hl
  have hP : va_P G.1 vwCl ([(md 0, .inr (6, [.ref (md 1), .ref (md 2), .int (nI np), .ref (md 3), .int (nI ty), .int (nI aw), .int (bI iw), .ref (md 4), .float up, .float lo, .int (nI su), .ref (md 5), .ref (md 6), .ref (md 7), .float fo])), (md 1, .inl (G.2 0, 354, .inl a)), (md 2, .inl (G.2 0, 2832, .inl pa)), (md 3, .inl (G.2 3, 60, .inl tb)), (md 4, .inl (G.2 0, 36, .inl qu)), (md 5, .inl (G.2 2, 288, .inr (.inr (.inl kn)))), (md 6, .inl (G.2 1, 288, .inl (fun jj => bI (ik jj)))), (md 7, .inl (G.2 1, 288, .inl (fun jj => bI (im jj))))]) s.heap := hP
  have hD : va_D A ([(md 0, .inr (6, [.ref (md 1), .ref (md 2), .int (nI np), .ref (md 3), .int (nI ty), .int (nI aw), .int (bI iw), .ref (md 4), .float up, .float lo, .int (nI su), .ref (md 5), .ref (md 6), .ref (md 7), .float fo])), (md 1, .inl (G.2 0, 354, .inl a)), (md 2, .inl (G.2 0, 2832, .inl pa)), (md 3, .inl (G.2 3, 60, .inl tb)), (md 4, .inl (G.2 0, 36, .inl qu)), (md 5, .inl (G.2 2, 288, .inr (.inr (.inl kn)))), (md 6, .inl (G.2 1, 288, .inl (fun jj => bI (ik jj)))), (md 7, .inl (G.2 1, 288, .inl (fun jj => bI (im jj))))]) := hD
  have hit := hA.1.2
  have hC := hA.1
  refine lv_iload_n hx hb dX7_aggregateBits_0 rfl (lv_at hl 1 rfl) ?_
  refine cr_i (va_runS (As := [.int y1]) (rest := []) ⟨hx, hb, hml, hown, hts⟩ (metX7_isMonth l G y1) (va_cwS 1 hts gX7_aggregateBits_X7_isMonth rfl rfl rfl (by decide +kernel) ⟨Nat.le_of_ble_eq_true rfl, Nat.le_of_ble_eq_true rfl⟩) (pR_S hK (va_P_nil _ _ _)) rfl rfl hl.1 rfl (lv_room (Nat.le_of_ble_eq_true rfl)) dX7_aggregateBits_1 ⟨Nat.zero_le _, Nat.zero_le _⟩) (fun r_1 hr_2 => ?_)
  subst hr_2
  refine nb_if_eq (B := isMonM y1) (tgt := 14) hx hb dX7_aggregateBits_4 (by decide) (fun c_3 => ?_) (fun c_3 => ?_)
  · refine lv_iconst (v := (-1)) hx hb dX7_aggregateBits_14 (by decide) ?_
    refine W.endD hd0 ?_
    have hP9 := hP
    exact W.iret (v := (-1)) hx hb hr (fun t ht hW => ⟨⟨_, (up, lo, su, kn, ik, im, fo), rfl, (by simp [mABf, c_3]), bM_end ht hP9⟩, hS.F ht⟩) hS.2.2 dX7_aggregateBits_15
  · refine lv_iload_n hx hb dX7_aggregateBits_7 rfl (lv_at hl 2 rfl) ?_
    refine cr_i (va_runS (As := [.int y2]) (rest := []) ⟨hx, hb, hml, hown, hts⟩ (metX7_isMonth l G y2) (va_cwS 1 hts gX7_aggregateBits_X7_isMonth rfl rfl rfl (by decide +kernel) ⟨Nat.le_of_ble_eq_true rfl, Nat.le_of_ble_eq_true rfl⟩) (pR_S hK (va_P_nil _ _ _)) rfl rfl hl.1 rfl (lv_room (Nat.le_of_ble_eq_true rfl)) dX7_aggregateBits_8 ⟨Nat.zero_le _, Nat.zero_le _⟩) (fun r_4 hr_5 => ?_)
    subst hr_5
    refine nb_if_ne (B := isMonM y2) (tgt := 16) hx hb dX7_aggregateBits_11 (by decide) (fun c_6 => ?_) (fun c_6 => ?_)
    · obtain ⟨k1, hk1, rfl⟩ := isMon_nat ((isMonM_eq _).symm.trans c_3)
      obtain ⟨k2, hk2, rfl⟩ := isMon_nat ((isMonM_eq _).symm.trans c_6)
      have hit := hA.1.2
      have hl : lv_has ls 3 [(0, .ref (md 0)), (1, .int (nI k1)), (2, .int (nI k2))] := hl
      refine lv_aload_n hx hb dX7_aggregateBits_16 rfl (lv_at hl 0 rfl) ?_
      refine lv_iload_n hx hb dX7_aggregateBits_17 rfl (lv_at hl 1 rfl) ?_
      refine lv_iload_n hx hb dX7_aggregateBits_18 rfl (lv_at hl 2 rfl) ?_
      refine cwD_i hd0 (va_runV_D (As := [.int (nI k1), .int (nI k2)]) (rest := []) ⟨hx, hb, hml, hown, hts⟩ (metX7_hasAggregate l G md a pa np tb ty aw iw qu up lo su kn ik im fo hA hw4 k1 k2 (by omega) (by omega)) (cwV 2 hts gX7_aggregateBits_X7_hasAggregate rfl rfl rfl (by decide +kernel) ⟨Nat.le_of_ble_eq_true rfl, Nat.le_of_ble_eq_true rfl⟩) (pM_V (w := mcells G md a pa np tb ty aw iw qu up lo su kn ik im fo) (q0 := 0) hK hP hD rfl rfl) rfl rfl hl.1 rfl (lv_room (Nat.le_of_ble_eq_true rfl)) dX7_aggregateBits_19 ⟨Nat.zero_le _, Nat.zero_le _⟩) hD hS (fun _ => rfl) (fun r_10 u_8 H locs hw_9 hP hD hS d_7 hd0 => ?_)
      have hts := dr_words hts0 d_7
      have hK := hK0.drawn d_7
      obtain ⟨u7, l7, n7, kn7, ik7, im7, f7⟩ := u_8
      try dsimp only at hw_9
      obtain ⟨hw_9a, hw_9b⟩ := hw_9
      subst hw_9a
      have hP : va_P G.1 vwCl ([(md 0, .inr (6, [.ref (md 1), .ref (md 2), .int (nI np), .ref (md 3), .int (nI ty), .int (nI aw), .int (bI iw), .ref (md 4), .float u7, .float l7, .int (nI n7), .ref (md 5), .ref (md 6), .ref (md 7), .float f7])), (md 1, .inl (G.2 0, 354, .inl a)), (md 2, .inl (G.2 0, 2832, .inl pa)), (md 3, .inl (G.2 3, 60, .inl tb)), (md 4, .inl (G.2 0, 36, .inl qu)), (md 5, .inl (G.2 2, 288, .inr (.inr (.inl kn7)))), (md 6, .inl (G.2 1, 288, .inl (fun jj => bI (ik7 jj)))), (md 7, .inl (G.2 1, 288, .inl (fun jj => bI (im7 jj))))]) H := hP
      have hD : va_D A ([(md 0, .inr (6, [.ref (md 1), .ref (md 2), .int (nI np), .ref (md 3), .int (nI ty), .int (nI aw), .int (bI iw), .ref (md 4), .float u7, .float l7, .int (nI n7), .ref (md 5), .ref (md 6), .ref (md 7), .float f7])), (md 1, .inl (G.2 0, 354, .inl a)), (md 2, .inl (G.2 0, 2832, .inl pa)), (md 3, .inl (G.2 3, 60, .inl tb)), (md 4, .inl (G.2 0, 36, .inl qu)), (md 5, .inl (G.2 2, 288, .inr (.inr (.inl kn7)))), (md 6, .inl (G.2 1, 288, .inl (fun jj => bI (ik7 jj)))), (md 7, .inl (G.2 1, 288, .inl (fun jj => bI (im7 jj))))]) := hD
      refine nb_if_eq (B := decide (0 < (agD a k1 k2 4).2)) (tgt := 35) hx hb dX7_aggregateBits_22 (by decide) (fun c_11 => ?_) (fun c_11 => ?_)
      · refine lv_bipush (v := (-9)) hx hb dX7_aggregateBits_35 (by decide) ?_
        refine W.endD hd0 ?_
        have hP9 := hP
        exact W.iret (v := (-9)) hx hb hr (fun t ht hW => ⟨⟨_, (u7, l7, n7, kn7, ik7, im7, f7), rfl, (by rw [mABf, if_pos (by simp [c_3, c_6, c_11]), nC_nI (k := k1) (by omega), nC_nI (k := k2) (by omega)]; rw [if_neg (of_decide_eq_false c_11)]), bM_end ht hP9⟩, hS.F ht⟩) hS.2.2 dX7_aggregateBits_37
      · refine lv_aload_n hx hb dX7_aggregateBits_25 rfl (lv_at hl 0 rfl) ?_
        refine va_get (D := G.1) (ci := 6) (v := .float f7) (C := RX7) (T := TX7) (N := 15) hx hb hts (by decide +kernel) hown hK.1 hP 0 rfl rfl 14 (by decide) (hts (.fieldLink RX7 147 "PriceIndexCalculatorModel" "found" "F") (by decide +kernel)) (fun _ h9 => h9) rfl dX7_aggregateBits_26 ?_
        refine cr_i (va_runS (As := [.float f7]) (rest := []) ⟨hx, hb, hml, hown, hts⟩ (metJxf58ca_floatToIntBits_5c35a l G f7) (va_cwS 1 hts gX7_aggregateBits_Jxf58ca_floatToIntBits_5c35a rfl rfl rfl (by decide +kernel) ⟨Nat.le_of_ble_eq_true rfl, Nat.le_of_ble_eq_true rfl⟩) (pR_S hK (va_P_nil _ _ _)) rfl rfl hl.1 rfl (lv_room (Nat.le_of_ble_eq_true rfl)) dX7_aggregateBits_29 ⟨Nat.zero_le _, Nat.zero_le _⟩) (fun r_12 hr_13 => ?_)
        subst hr_13
        refine lv_goto (tgt := 37) hx hb dX7_aggregateBits_32 (by decide) ?_
        refine W.endD hd0 ?_
        have hP9 := hP
        exact W.iret (v := bitD (vl f7)) hx hb hr (fun t ht hW => ⟨⟨_, (u7, l7, n7, kn7, ik7, im7, f7), rfl, (by rw [mABf, if_pos (by simp [c_3, c_6, c_11]), nC_nI (k := k1) (by omega), nC_nI (k := k2) (by omega)]; rw [if_pos (of_decide_eq_true c_11), hw_9b]), bM_end ht hP9⟩, hS.F ht⟩) hS.2.2 dX7_aggregateBits_37
    · refine lv_iconst (v := (-1)) hx hb dX7_aggregateBits_14 (by decide) ?_
      refine W.endD hd0 ?_
      have hP9 := hP
      exact W.iret (v := (-1)) hx hb hr (fun t ht hW => ⟨⟨_, (up, lo, su, kn, ik, im, fo), rfl, (by simp [mABf, c_3, c_6]), bM_end ht hP9⟩, hS.F ht⟩) hS.2.2 dX7_aggregateBits_15
set_option maxHeartbeats 4000000 in
set_option maxRecDepth 100000 in
/-- Model.greatestRise -/
theorem metX7_greatestRise (l : Launch) (G : GG) (md : Nat → Nat) (fl : List Value) (a : Nat → Int32) (hA : mWF a) (y1 y2 y3 : Int32) : MetD lw_cs l yX7_greatestRise wsX7_greatestRise ({ frames := 4, cells := 0, slots := 0, locals := 120 }) (pR G (scells G md fl a) [.ref (md 0), .int y1, .int y2, .int y3]) (vp_Si (fun r => r = mGRf a y1 y2 y3)) 0 0 (fun _ => False) := by
  refine MetD.ofW (cc := cX7_greatestRise) (maxL := 9) (ret := (some .int)) (by decide) rfl ?_
  intro p e s m args below meth c s₁ B hml hv hd0
  obtain ⟨rfl, hK, hP⟩ := hv
  have hx := B.exec
  have hb := B.bytes
  have hr := B.returns
  have hlocks := B.notSynchronized
  have hts0 := atoms_spec (ws := wsX7_greatestRise) B.pre
  have hts := dr_words hts0 s.drawn
  have hK0 := hK
  have hK := hK0.drawn s.drawn
  have hown : s.vm.findClass RX7 = some m.cls := findClass_of_methodNamed B.named
  have hl := lv_entry ([.ref (md 0), .int y1, .int y2, .int y3]) (n := 9) (Nat.le_of_ble_eq_true rfl)
  rw [lg_entry_eq]
  generalize (lg_sl ([.ref (md 0), .int y1, .int y2, .int y3]) ++ List.replicate (9 - (lg_sl ([.ref (md 0), .int y1, .int y2, .int y3])).length) Slot.unset).toArray = ls at hl ⊢
  have hl : lv_has ls 9 [(0, .ref (md 0)), (1, .int y1), (2, .int y2), (3, .int y3)] := hl
  have hit := hA.1.2
  refine lv_iload_n hx hb dX7_greatestRise_0 rfl (lv_at hl 1 rfl) ?_
  refine lv_iload_n hx hb dX7_greatestRise_1 rfl (lv_at hl 2 rfl) ?_
  refine lv_iload_n hx hb dX7_greatestRise_2 rfl (lv_at hl 3 rfl) ?_
  refine cr_i (va_runS (As := [.int y1, .int y2, .int y3]) (rest := []) ⟨hx, hb, hml, hown, hts⟩ (metX7_areThere l G y1 y2 y3) (va_cwS 3 hts gX7_greatestRise_X7_areThere rfl rfl rfl (by decide +kernel) ⟨Nat.le_of_ble_eq_true rfl, Nat.le_of_ble_eq_true rfl⟩) (pR_S hK (va_P_nil _ _ _)) rfl rfl hl.1 rfl (lv_room (Nat.le_of_ble_eq_true rfl)) dX7_greatestRise_3 ⟨Nat.zero_le _, Nat.zero_le _⟩) (fun r_1 hr_2 => ?_)
  subst hr_2
  refine nb_if_ne (B := smmM y1 y2 y3) (tgt := 11) hx hb dX7_greatestRise_6 (by decide) (fun c_3 => ?_) (fun c_3 => ?_)
  · have hsm := c_3
    unfold smmM at hsm
    simp only [Bool.and_eq_true] at hsm
    obtain ⟨⟨hs1, hs2⟩, hs3⟩ := hsm
    obtain ⟨k2, hk2, rfl⟩ := isMon_nat ((isMonM_eq _).symm.trans hs2)
    obtain ⟨k3, hk3, rfl⟩ := isMon_nat ((isMonM_eq _).symm.trans hs3)
    have hit := hA.1.2
    have hl : lv_has ls 9 [(0, .ref (md 0)), (1, .int y1), (2, .int (nI k2)), (3, .int (nI k3))] := hl
    refine lv_bipush (v := (-9)) hx hb dX7_greatestRise_11 (by decide) ?_
    refine lv_istore (lv' := [(4, .int (-9)), (0, .ref (md 0)), (1, .int y1), (2, .int (nI k2)), (3, .int (nI k3))]) hx hb dX7_greatestRise_13 hl (by decide) rfl (fun ls hl => ?_)
    refine lv_fconst0 hx hb dX7_greatestRise_15 ?_
    refine lv_fstore (lv' := [(5, .float FP.fconst0), (4, .int (-9)), (0, .ref (md 0)), (1, .int y1), (2, .int (nI k2)), (3, .int (nI k3))]) hx hb dX7_greatestRise_16 hl (by decide) rfl (fun ls hl => ?_)
    refine lv_iconst (v := nI 0) hx hb dX7_greatestRise_18 (by decide) ?_
    refine lv_istore (lv' := [(6, .int (nI 0)), (5, .float FP.fconst0), (4, .int (-9)), (0, .ref (md 0)), (1, .int y1), (2, .int (nI k2)), (3, .int (nI k3))]) hx hb dX7_greatestRise_19 hl (by decide) rfl (fun ls hl => ?_)
    refine lpRD hd0 (S := Int32 × UInt32) (mN a) (fun i u => u.1 = (grD a y1 k2 k3 (i)).1 ∧ vl u.2 = (grD a y1 k2 k3 (i)).2) (fun i u => [(0, .ref (md 0)), (1, .int y1), (2, .int (nI k2)), (3, .int (nI k3)), (4, .int u.1), (5, .float u.2), (6, .int (nI i))]) (fun u ls d0 hd0 hI_5 hl => ?_) (fun i u ls d0 hd0 hi_6 hI_5 hl ih_4 => ?_) (0) ((-9), FP.fconst0) (by omega) (⟨rfl, rfl⟩) (lv_sub hl [3, 4, 5, 6, 2, 1, 0] rfl)
    · obtain ⟨bs, rt⟩ := u
      have hl : lv_has ls 9 [(0, .ref (md 0)), (1, .int y1), (2, .int (nI k2)), (3, .int (nI k3)), (4, .int bs), (5, .float rt), (6, .int (nI (mN a)))] := hl
      have hts := dr_words hts0 d0
      have hK := hK0.drawn d0
      refine lv_iload hx hb dX7_greatestRise_21 (lv_at hl 6 rfl) ?_
      refine lv_aload_n hx hb dX7_greatestRise_23 rfl (lv_at hl 0 rfl) ?_
      refine va_get (D := G.1) (ci := 6) (v := .ref (md 1)) (C := RX7) (T := TX7) (N := 15) hx hb hts (by decide +kernel) hown hK.1 hP 0 rfl rfl 0 (by decide) (hts (.fieldLink RX7 7 "PriceIndexCalculatorModel" "s" "[I") (by decide +kernel)) (fun _ h9 => h9) rfl dX7_greatestRise_24 ?_
      refine lv_iconst (v := nI 5) hx hb dX7_greatestRise_27 (by decide) ?_
      refine n_iald hx hb hK.1 hP 1 0 rfl rfl (j := 5) (by omega) (by omega) dX7_greatestRise_28 ?_
      refine eq_i (y := nI (mN a)) (hA.1.1) ?_
      refine n_icmp_ge (x := mN a) (y := mN a) (tgt := 117) hx hb (by omega) (by omega) dX7_greatestRise_29 (by decide) (fun c_7 => ?_) (fun c_7 => ?_)
      · refine lv_iload hx hb dX7_greatestRise_117 (lv_at hl 4 rfl) ?_
        refine W.endD hd0 ?_
        exact W.iret (v := bs) hx hb hr (fun t ht hW => ⟨_, rfl, (by rw [mGRf, if_pos c_3, nC_nI (k := k2) (by omega), nC_nI (k := k3) (by omega)]; exact hI_5.1), ht⟩) (fun q hq => absurd hq List.not_mem_nil) dX7_greatestRise_119
      · exact absurd c_7 (by omega)
    · obtain ⟨bs, rt⟩ := u
      have hl : lv_has ls 9 [(0, .ref (md 0)), (1, .int y1), (2, .int (nI k2)), (3, .int (nI k3)), (4, .int bs), (5, .float rt), (6, .int (nI i))] := hl
      have hts := dr_words hts0 d0
      have hK := hK0.drawn d0
      refine lv_iload hx hb dX7_greatestRise_21 (lv_at hl 6 rfl) ?_
      refine lv_aload_n hx hb dX7_greatestRise_23 rfl (lv_at hl 0 rfl) ?_
      refine va_get (D := G.1) (ci := 6) (v := .ref (md 1)) (C := RX7) (T := TX7) (N := 15) hx hb hts (by decide +kernel) hown hK.1 hP 0 rfl rfl 0 (by decide) (hts (.fieldLink RX7 7 "PriceIndexCalculatorModel" "s" "[I") (by decide +kernel)) (fun _ h9 => h9) rfl dX7_greatestRise_24 ?_
      refine lv_iconst (v := nI 5) hx hb dX7_greatestRise_27 (by decide) ?_
      refine n_iald hx hb hK.1 hP 1 0 rfl rfl (j := 5) (by omega) (by omega) dX7_greatestRise_28 ?_
      refine eq_i (y := nI (mN a)) (hA.1.1) ?_
      refine n_icmp_ge (x := i) (y := mN a) (tgt := 117) hx hb (by omega) (by omega) dX7_greatestRise_29 (by decide) (fun c_8 => ?_) (fun c_8 => ?_)
      · exact absurd c_8 (by omega)
      · refine lv_aload_n hx hb dX7_greatestRise_32 rfl (lv_at hl 0 rfl) ?_
        refine lv_iload hx hb dX7_greatestRise_33 (lv_at hl 6 rfl) ?_
        refine lv_iload_n hx hb dX7_greatestRise_35 rfl (lv_at hl 1 rfl) ?_
        refine lv_iload_n hx hb dX7_greatestRise_36 rfl (lv_at hl 2 rfl) ?_
        refine lv_iload_n hx hb dX7_greatestRise_37 rfl (lv_at hl 3 rfl) ?_
        refine cr_i (va_runV (As := [.int (nI i), .int y1, .int (nI k2), .int (nI k3)]) (rest := []) ⟨hx, hb, hml, hown, hts⟩ (metX7_isMatched l G md fl a hA i y1 k2 k3 (by omega) (by omega) (by omega)) (cwV 4 hts gX7_greatestRise_X7_isMatched rfl rfl rfl (by decide +kernel) ⟨Nat.le_of_ble_eq_true rfl, Nat.le_of_ble_eq_true rfl⟩) (pR_V (q0 := 0) hK (hP.sub (ws' := scells G md fl a) [0, 1] rfl) rfl rfl) rfl rfl hl.1 rfl (lv_room (Nat.le_of_ble_eq_true rfl)) dX7_greatestRise_38 ⟨Nat.zero_le _, Nat.zero_le _⟩) (fun r_9 hr_10 => ?_)
        subst hr_10
        refine nb_if_eq (B := maM a y1 k2 k3 i) (tgt := 111) hx hb dX7_greatestRise_41 (by decide) (fun c_11 => ?_) (fun c_11 => ?_)
        · refine lv_iinc (v := nI (i + 1)) (lv' := [(6, .int (nI (i + 1))), (0, .ref (md 0)), (1, .int y1), (2, .int (nI k2)), (3, .int (nI k3)), (4, .int bs), (5, .float rt)]) hx hb dX7_greatestRise_111 hl (k := 6) rfl (by exact nI_add _ _) (by decide) rfl (fun ls hl => ?_)
          refine lv_goto (tgt := 21) hx hb dX7_greatestRise_114 (by decide) ?_
          exact ih_4 (bs, rt) _ _ hd0 (⟨by rw [grD, if_neg (by simp [c_11])]; exact hI_5.1, by rw [grD, if_neg (by simp [c_11])]; exact hI_5.2⟩) (lv_sub hl [1, 2, 3, 4, 5, 6, 0] rfl)
        · refine lv_aload_n hx hb dX7_greatestRise_44 rfl (lv_at hl 0 rfl) ?_
          refine lv_iload hx hb dX7_greatestRise_45 (lv_at hl 6 rfl) ?_
          refine lv_iload_n hx hb dX7_greatestRise_47 rfl (lv_at hl 3 rfl) ?_
          refine crD_f hd0 (va_runV_D (As := [.int (nI i), .int (nI k3)]) (rest := []) ⟨hx, hb, hml, hown, hts⟩ (metX7_effective l G md fl a hA i k3 (by omega) (by omega)) (cwV 2 hts gX7_greatestRise_X7_effective rfl rfl rfl (by decide +kernel) ⟨Nat.le_of_ble_eq_true rfl, Nat.le_of_ble_eq_true rfl⟩) (pR_V (q0 := 0) hK (hP.sub (ws' := scells G md fl a) [0, 1] rfl) rfl rfl) rfl rfl hl.1 rfl (lv_room (Nat.le_of_ble_eq_true rfl)) dX7_greatestRise_48 ⟨Nat.zero_le _, Nat.zero_le _⟩) (fun r_13 hr_14 d_12 hd0 => ?_)
          have hts := dr_words hts0 d_12
          have hK := hK0.drawn d_12
          refine lv_aload_n hx hb dX7_greatestRise_51 rfl (lv_at hl 0 rfl) ?_
          refine lv_iload hx hb dX7_greatestRise_52 (lv_at hl 6 rfl) ?_
          refine lv_iload_n hx hb dX7_greatestRise_54 rfl (lv_at hl 2 rfl) ?_
          refine crD_f hd0 (va_runV_D (As := [.int (nI i), .int (nI k2)]) (rest := [.float r_13]) ⟨hx, hb, hml, hown, hts⟩ (metX7_effective l G md fl a hA i k2 (by omega) (by omega)) (cwV 2 hts gX7_greatestRise_X7_effective rfl rfl rfl (by decide +kernel) ⟨Nat.le_of_ble_eq_true rfl, Nat.le_of_ble_eq_true rfl⟩) (pR_V (q0 := 0) hK (hP.sub (ws' := scells G md fl a) [0, 1] rfl) rfl rfl) rfl rfl hl.1 rfl (lv_room (Nat.le_of_ble_eq_true rfl)) dX7_greatestRise_55 ⟨Nat.zero_le _, Nat.zero_le _⟩) (fun r_16 hr_17 d_15 hd0 => ?_)
          have hts := dr_words hts0 d_15
          have hK := hK0.drawn d_15
          refine lv_fdiv_any hd0 lw_bits hx hb dX7_greatestRise_58 (fun r_18 d_19 ha_20 hd0 => ?_)
          have hts := dr_words hts0 d_19
          have hK := hK0.drawn d_19
          have er_21 : vl r_18 = dDiv (efD a i k3) (efD a i k2) := al_fdiv ha_20 hr_14 hr_17
          refine lv_fstore (lv' := [(7, .float r_18), (0, .ref (md 0)), (1, .int y1), (2, .int (nI k2)), (3, .int (nI k3)), (4, .int bs), (5, .float rt), (6, .int (nI i))]) hx hb dX7_greatestRise_59 hl (by decide) rfl (fun ls hl => ?_)
          refine lv_iload hx hb dX7_greatestRise_61 (lv_at hl 5 rfl) ?_
          refine lv_bipush (v := (-9)) hx hb dX7_greatestRise_63 (by decide) ?_
          refine lv_icmp_eq (tgt := 76) hx hb dX7_greatestRise_65 (by decide) (fun c_22 => ?_) (fun c_22 => ?_)
          · refine lv_iconst (v := nI 1) hx hb dX7_greatestRise_76 (by decide) ?_
            refine lv_goto (tgt := 81) hx hb dX7_greatestRise_77 (by decide) ?_
            refine lv_istore (lv' := [(8, .int (nI 1)), (7, .float r_18), (0, .ref (md 0)), (1, .int y1), (2, .int (nI k2)), (3, .int (nI k3)), (4, .int bs), (5, .float rt), (6, .int (nI i))]) hx hb dX7_greatestRise_81 hl (by decide) rfl (fun ls hl => ?_)
            refine lv_iload hx hb dX7_greatestRise_83 (lv_at hl 0 rfl) ?_
            refine n_if_eq (x := 1) (tgt := 93) hx hb (by omega) dX7_greatestRise_85 (by decide) (fun c_23 => ?_) (fun c_23 => ?_)
            · exact absurd c_23 (by decide)
            · refine lv_iload hx hb dX7_greatestRise_88 (lv_at hl 8 rfl) ?_
              refine lv_goto (tgt := 95) hx hb dX7_greatestRise_90 (by decide) ?_
              refine lv_istore (lv' := [(4, .int (nI i)), (8, .int (nI 1)), (7, .float r_18), (0, .ref (md 0)), (1, .int y1), (2, .int (nI k2)), (3, .int (nI k3)), (5, .float rt), (6, .int (nI i))]) hx hb dX7_greatestRise_95 hl (by decide) rfl (fun ls hl => ?_)
              refine lv_iload hx hb dX7_greatestRise_97 (lv_at hl 1 rfl) ?_
              refine n_if_eq (x := 1) (tgt := 107) hx hb (by omega) dX7_greatestRise_99 (by decide) (fun c_24 => ?_) (fun c_24 => ?_)
              · exact absurd c_24 (by decide)
              · refine lv_fload hx hb dX7_greatestRise_102 (lv_at hl 2 rfl) ?_
                refine lv_goto (tgt := 109) hx hb dX7_greatestRise_104 (by decide) ?_
                refine lv_fstore (lv' := [(5, .float r_18), (4, .int (nI i)), (8, .int (nI 1)), (7, .float r_18), (0, .ref (md 0)), (1, .int y1), (2, .int (nI k2)), (3, .int (nI k3)), (6, .int (nI i))]) hx hb dX7_greatestRise_109 hl (by decide) rfl (fun ls hl => ?_)
                refine lv_iinc (v := nI (i + 1)) (lv' := [(6, .int (nI (i + 1))), (5, .float r_18), (4, .int (nI i)), (8, .int (nI 1)), (7, .float r_18), (0, .ref (md 0)), (1, .int y1), (2, .int (nI k2)), (3, .int (nI k3))]) hx hb dX7_greatestRise_111 hl (k := 8) rfl (by exact nI_add _ _) (by decide) rfl (fun ls hl => ?_)
                refine lv_goto (tgt := 21) hx hb dX7_greatestRise_114 (by decide) ?_
                exact ih_4 (nI i, r_18) _ _ hd0 (⟨by rw [grD, ← hI_5.1, ← hI_5.2, ← er_21, if_pos (by simp [c_11, c_22, c_23, c_24])], by rw [grD, ← hI_5.1, ← hI_5.2, ← er_21, if_pos (by simp [c_11, c_22, c_23, c_24])]⟩) (lv_sub hl [5, 6, 7, 8, 2, 1, 0] rfl)
          · refine lv_fload hx hb dX7_greatestRise_68 (lv_at hl 0 rfl) ?_
            refine lv_fload hx hb dX7_greatestRise_70 (lv_at hl 6 rfl) ?_
            refine lv_fcmp hx hb dX7_greatestRise_72 ?_
            refine nf_l_le (tgt := 80) hx hb dX7_greatestRise_73 (by decide) (fun c_25 => ?_) (fun c_25 => ?_)
            · refine lv_iconst (v := nI 0) hx hb dX7_greatestRise_80 (by decide) ?_
              refine lv_istore (lv' := [(8, .int (nI 0)), (7, .float r_18), (0, .ref (md 0)), (1, .int y1), (2, .int (nI k2)), (3, .int (nI k3)), (4, .int bs), (5, .float rt), (6, .int (nI i))]) hx hb dX7_greatestRise_81 hl (by decide) rfl (fun ls hl => ?_)
              refine lv_iload hx hb dX7_greatestRise_83 (lv_at hl 0 rfl) ?_
              refine n_if_eq (x := 0) (tgt := 93) hx hb (by omega) dX7_greatestRise_85 (by decide) (fun c_26 => ?_) (fun c_26 => ?_)
              · refine lv_iload hx hb dX7_greatestRise_93 (lv_at hl 6 rfl) ?_
                refine lv_istore (lv' := [(4, .int bs), (8, .int (nI 0)), (7, .float r_18), (0, .ref (md 0)), (1, .int y1), (2, .int (nI k2)), (3, .int (nI k3)), (5, .float rt), (6, .int (nI i))]) hx hb dX7_greatestRise_95 hl (by decide) rfl (fun ls hl => ?_)
                refine lv_iload hx hb dX7_greatestRise_97 (lv_at hl 1 rfl) ?_
                refine n_if_eq (x := 0) (tgt := 107) hx hb (by omega) dX7_greatestRise_99 (by decide) (fun c_27 => ?_) (fun c_27 => ?_)
                · refine lv_fload hx hb dX7_greatestRise_107 (lv_at hl 7 rfl) ?_
                  refine lv_fstore (lv' := [(5, .float rt), (4, .int bs), (8, .int (nI 0)), (7, .float r_18), (0, .ref (md 0)), (1, .int y1), (2, .int (nI k2)), (3, .int (nI k3)), (6, .int (nI i))]) hx hb dX7_greatestRise_109 hl (by decide) rfl (fun ls hl => ?_)
                  refine lv_iinc (v := nI (i + 1)) (lv' := [(6, .int (nI (i + 1))), (5, .float rt), (4, .int bs), (8, .int (nI 0)), (7, .float r_18), (0, .ref (md 0)), (1, .int y1), (2, .int (nI k2)), (3, .int (nI k3))]) hx hb dX7_greatestRise_111 hl (k := 8) rfl (by exact nI_add _ _) (by decide) rfl (fun ls hl => ?_)
                  refine lv_goto (tgt := 21) hx hb dX7_greatestRise_114 (by decide) ?_
                  have ho9 : ¬ (FP.Core.order (vl r_18) (vl rt) = some .gt) := c_25
                  exact ih_4 (bs, rt) _ _ hd0 (⟨by rw [grD, ← hI_5.1, ← hI_5.2, ← er_21, if_neg (by simpa [c_11, c_22] using ho9)]; exact hI_5.1, by rw [grD, ← hI_5.1, ← hI_5.2, ← er_21, if_neg (by simpa [c_11, c_22] using ho9)]; exact hI_5.2⟩) (lv_sub hl [5, 6, 7, 8, 2, 1, 0] rfl)
                · exact absurd c_27 (by decide)
              · exact absurd c_26 (by decide)
            · refine lv_iconst (v := nI 1) hx hb dX7_greatestRise_76 (by decide) ?_
              refine lv_goto (tgt := 81) hx hb dX7_greatestRise_77 (by decide) ?_
              refine lv_istore (lv' := [(8, .int (nI 1)), (7, .float r_18), (0, .ref (md 0)), (1, .int y1), (2, .int (nI k2)), (3, .int (nI k3)), (4, .int bs), (5, .float rt), (6, .int (nI i))]) hx hb dX7_greatestRise_81 hl (by decide) rfl (fun ls hl => ?_)
              refine lv_iload hx hb dX7_greatestRise_83 (lv_at hl 0 rfl) ?_
              refine n_if_eq (x := 1) (tgt := 93) hx hb (by omega) dX7_greatestRise_85 (by decide) (fun c_28 => ?_) (fun c_28 => ?_)
              · exact absurd c_28 (by decide)
              · refine lv_iload hx hb dX7_greatestRise_88 (lv_at hl 8 rfl) ?_
                refine lv_goto (tgt := 95) hx hb dX7_greatestRise_90 (by decide) ?_
                refine lv_istore (lv' := [(4, .int (nI i)), (8, .int (nI 1)), (7, .float r_18), (0, .ref (md 0)), (1, .int y1), (2, .int (nI k2)), (3, .int (nI k3)), (5, .float rt), (6, .int (nI i))]) hx hb dX7_greatestRise_95 hl (by decide) rfl (fun ls hl => ?_)
                refine lv_iload hx hb dX7_greatestRise_97 (lv_at hl 1 rfl) ?_
                refine n_if_eq (x := 1) (tgt := 107) hx hb (by omega) dX7_greatestRise_99 (by decide) (fun c_29 => ?_) (fun c_29 => ?_)
                · exact absurd c_29 (by decide)
                · refine lv_fload hx hb dX7_greatestRise_102 (lv_at hl 2 rfl) ?_
                  refine lv_goto (tgt := 109) hx hb dX7_greatestRise_104 (by decide) ?_
                  refine lv_fstore (lv' := [(5, .float r_18), (4, .int (nI i)), (8, .int (nI 1)), (7, .float r_18), (0, .ref (md 0)), (1, .int y1), (2, .int (nI k2)), (3, .int (nI k3)), (6, .int (nI i))]) hx hb dX7_greatestRise_109 hl (by decide) rfl (fun ls hl => ?_)
                  refine lv_iinc (v := nI (i + 1)) (lv' := [(6, .int (nI (i + 1))), (5, .float r_18), (4, .int (nI i)), (8, .int (nI 1)), (7, .float r_18), (0, .ref (md 0)), (1, .int y1), (2, .int (nI k2)), (3, .int (nI k3))]) hx hb dX7_greatestRise_111 hl (k := 8) rfl (by exact nI_add _ _) (by decide) rfl (fun ls hl => ?_)
                  refine lv_goto (tgt := 21) hx hb dX7_greatestRise_114 (by decide) ?_
                  have ho9 : FP.Core.order (vl r_18) (vl rt) = some .gt := c_25
                  exact ih_4 (nI i, r_18) _ _ hd0 (⟨by rw [grD, ← hI_5.1, ← hI_5.2, ← er_21, if_pos (by simp [c_11, c_22, ho9, c_28, c_29])], by rw [grD, ← hI_5.1, ← hI_5.2, ← er_21, if_pos (by simp [c_11, c_22, ho9, c_28, c_29])]⟩) (lv_sub hl [5, 6, 7, 8, 2, 1, 0] rfl)
  · refine lv_iconst (v := (-1)) hx hb dX7_greatestRise_9 (by decide) ?_
    refine W.endD hd0 ?_
    exact W.iret (v := (-1)) hx hb hr (fun t ht hW => ⟨_, rfl, (by simp [mGRf, c_3]), ht⟩) (fun q hq => absurd hq List.not_mem_nil) dX7_greatestRise_10
