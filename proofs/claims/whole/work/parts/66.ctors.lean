set_option maxHeartbeats 4000000 in
set_option maxRecDepth 100000 in
/-- a new basket -/
theorem metX0_init (l : Launch) (G : GG) (h0 : Nat) (sz : Nat) : Met l yX0_init wsX0_init ({ frames := 1, cells := 8, slots := 364, locals := 30 }) (pI G sz ([(h0, .inr (0, [.int (nI 0), .int (nI 0), .null, .null, .null, .null, .null, .null, .null, .null]))]) [.ref h0]) (va_Qv (fun (u : Nat → Nat) => u 0 = h0) (bC G (va_A ([(h0, .inr (0, [.int (nI 0), .int (nI 0), .null, .null, .null, .null, .null, .null, .null, .null]))]) sz) (fun (u : Nat → Nat) => bcells G u bZ)) (va_A ([(h0, .inr (0, [.int (nI 0), .int (nI 0), .null, .null, .null, .null, .null, .null, .null, .null]))]) sz)) 8 364 (va_A ([(h0, .inr (0, [.int (nI 0), .int (nI 0), .null, .null, .null, .null, .null, .null, .null, .null]))]) sz) := by
  refine Met.ofW (cc := cX0_init) (maxL := 2) (ret := none) (by decide) rfl ?_
  intro p e s m args below meth c s₁ B hml hv
  obtain ⟨rfl, hsz, hK, hO, hP, hD0⟩ := hv
  have hx := B.exec
  have hb := B.bytes
  have hr := B.returns
  have hlocks := B.notSynchronized
  have hts := atoms_spec (ws := wsX0_init) B.pre
  have hown : s.vm.findClass RX0 = some m.cls := findClass_of_methodNamed B.named
  have hin : meth.name = "<init>" := (name_of_methodNamed B.named B.method).1
  subst hsz
  have hD := hD0.self (sz := s.heap.size)
  generalize hAe : va_A ([(h0, .inr (0, [.int (nI 0), .int (nI 0), .null, .null, .null, .null, .null, .null, .null, .null]))]) s.heap.size = A at hD ⊢
  have hA : ∀ q : Nat, s.heap.size ≤ q → A q := fun q h => by rw [← hAe]; exact Or.inr h
  have hS : va_S A s.heap s.heap [] := va_S.rf
  have hl := lv_entry ([.ref h0]) (n := 2) (Nat.le_of_ble_eq_true rfl)
  rw [lg_entry_eq]
  generalize (lg_sl ([.ref h0]) ++ List.replicate (2 - (lg_sl ([.ref h0])).length) Slot.unset).toArray = ls at hl ⊢
  have hl : lv_has ls 2 [(0, .ref h0)] := hl
  refine lv_aload_n hx hb dX0_init_0 rfl (lv_at hl 0 rfl) ?_
  refine W.objInit hx hb hown (hts (.methodLink RX0 3 objectInit) (by decide +kernel)) (hts (.instanceMethod objectInit) (by decide +kernel)) (hts (.code objectInit ⟨#[0xb1]⟩ 1 none) (by decide +kernel)) rfl (by rw [hml]; exact hl.1) rfl dX0_init_1 (Nat.le_of_ble_eq_true rfl) (Nat.le_of_ble_eq_true rfl) ?_
  refine W.eq (g2 := F0 m 4 ls []) rfl ?_
  refine lv_aload_n hx hb dX0_init_4 rfl (lv_at hl 0 rfl) ?_
  refine lv_iconst (v := nI 4) hx hb dX0_init_5 (by decide) ?_
  refine nw_a (atype := .int) (ty := .int) (n := 4) (a0 := (4, .inl (fun _ => 0))) hx hb (hts (.arrayClass .int) (by decide +kernel)) rfl hK.1 0 rfl (fun _ _ => RA_i) hP hD hS hA (fun _ => rfl) (by omega) (Nat.le_of_ble_eq_true rfl) (Nat.le_of_ble_eq_true rfl) (Nat.le_of_ble_eq_true rfl) dX0_init_6 (fun q_1 H hP hD hS => ?_)
  have hP : va_P G.1 vwCl ([(h0, .inr (0, [.int (nI 0), .int (nI 0), .null, .null, .null, .null, .null, .null, .null, .null])), (q_1, .inl (G.2 0, 4, .inl (fun _ => 0)))]) H := hP
  have hD : va_D A ([(h0, .inr (0, [.int (nI 0), .int (nI 0), .null, .null, .null, .null, .null, .null, .null, .null])), (q_1, .inl (G.2 0, 4, .inl (fun _ => 0)))]) := hD
  refine W.widen (k := 1) (n := 4) (Nat.le_of_ble_eq_true rfl) (Nat.le_of_ble_eq_true rfl) ?_
  refine va_putF (D := G.1) (ci := 0) (v := .ref q_1) (ty := tyX0 2) (C := RX0) (T := TX0) (N := 10) hx hb hts (by decide +kernel) tyX0 tyX0_ok nmX0 hown hK.1 hP hD hS 0 rfl rfl 2 (by decide) (hts (.fieldLink RX0 9 "PriceIndexCalculator$Basket" "weight" "[I") (by decide +kernel)) (fun _ h9 => h9) rfl hin rfl (by decide +kernel) rfl rfl (Nat.le_of_ble_eq_true rfl) dX0_init_8 (fun H locs hP hD hS => ?_)
  have hP : va_P G.1 vwCl ([(h0, .inr (0, [.int (nI 0), .int (nI 0), .ref q_1, .null, .null, .null, .null, .null, .null, .null])), (q_1, .inl (G.2 0, 4, .inl (fun _ => 0)))]) H := hP
  have hD : va_D A ([(h0, .inr (0, [.int (nI 0), .int (nI 0), .ref q_1, .null, .null, .null, .null, .null, .null, .null])), (q_1, .inl (G.2 0, 4, .inl (fun _ => 0)))]) := hD
  refine lv_aload_n hx hb dX0_init_11 rfl (lv_at hl 0 rfl) ?_
  refine lv_bipush (v := nI 12) hx hb dX0_init_12 (by decide) ?_
  refine nw_a (atype := .int) (ty := .int) (n := 12) (a0 := (12, .inl (fun _ => 0))) hx hb (hts (.arrayClass .int) (by decide +kernel)) rfl hK.1 0 rfl (fun _ _ => RA_i) hP hD hS hA (fun _ => rfl) (by omega) (Nat.le_of_ble_eq_true rfl) (Nat.le_of_ble_eq_true rfl) (Nat.le_of_ble_eq_true rfl) dX0_init_14 (fun q_2 H hP hD hS => ?_)
  have hP : va_P G.1 vwCl ([(h0, .inr (0, [.int (nI 0), .int (nI 0), .ref q_1, .null, .null, .null, .null, .null, .null, .null])), (q_1, .inl (G.2 0, 4, .inl (fun _ => 0))), (q_2, .inl (G.2 0, 12, .inl (fun _ => 0)))]) H := hP
  have hD : va_D A ([(h0, .inr (0, [.int (nI 0), .int (nI 0), .ref q_1, .null, .null, .null, .null, .null, .null, .null])), (q_1, .inl (G.2 0, 4, .inl (fun _ => 0))), (q_2, .inl (G.2 0, 12, .inl (fun _ => 0)))]) := hD
  refine W.widen (k := 2) (n := 16) (Nat.le_of_ble_eq_true rfl) (Nat.le_of_ble_eq_true rfl) ?_
  refine va_putF (D := G.1) (ci := 0) (v := .ref q_2) (ty := tyX0 3) (C := RX0) (T := TX0) (N := 10) hx hb hts (by decide +kernel) tyX0 tyX0_ok nmX0 hown hK.1 hP hD hS 0 rfl rfl 3 (by decide) (hts (.fieldLink RX0 15 "PriceIndexCalculator$Basket" "stratum" "[I") (by decide +kernel)) (fun _ h9 => h9) rfl hin rfl (by decide +kernel) rfl rfl (Nat.le_of_ble_eq_true rfl) dX0_init_16 (fun H locs hP hD hS => ?_)
  have hP : va_P G.1 vwCl ([(h0, .inr (0, [.int (nI 0), .int (nI 0), .ref q_1, .ref q_2, .null, .null, .null, .null, .null, .null])), (q_1, .inl (G.2 0, 4, .inl (fun _ => 0))), (q_2, .inl (G.2 0, 12, .inl (fun _ => 0)))]) H := hP
  have hD : va_D A ([(h0, .inr (0, [.int (nI 0), .int (nI 0), .ref q_1, .ref q_2, .null, .null, .null, .null, .null, .null])), (q_1, .inl (G.2 0, 4, .inl (fun _ => 0))), (q_2, .inl (G.2 0, 12, .inl (fun _ => 0)))]) := hD
  refine lv_aload_n hx hb dX0_init_19 rfl (lv_at hl 0 rfl) ?_
  refine lv_bipush (v := nI 12) hx hb dX0_init_20 (by decide) ?_
  refine nw_a (atype := .int) (ty := .int) (n := 12) (a0 := (12, .inl (fun _ => 0))) hx hb (hts (.arrayClass .int) (by decide +kernel)) rfl hK.1 0 rfl (fun _ _ => RA_i) hP hD hS hA (fun _ => rfl) (by omega) (Nat.le_of_ble_eq_true rfl) (Nat.le_of_ble_eq_true rfl) (Nat.le_of_ble_eq_true rfl) dX0_init_22 (fun q_3 H hP hD hS => ?_)
  have hP : va_P G.1 vwCl ([(h0, .inr (0, [.int (nI 0), .int (nI 0), .ref q_1, .ref q_2, .null, .null, .null, .null, .null, .null])), (q_1, .inl (G.2 0, 4, .inl (fun _ => 0))), (q_2, .inl (G.2 0, 12, .inl (fun _ => 0))), (q_3, .inl (G.2 0, 12, .inl (fun _ => 0)))]) H := hP
  have hD : va_D A ([(h0, .inr (0, [.int (nI 0), .int (nI 0), .ref q_1, .ref q_2, .null, .null, .null, .null, .null, .null])), (q_1, .inl (G.2 0, 4, .inl (fun _ => 0))), (q_2, .inl (G.2 0, 12, .inl (fun _ => 0))), (q_3, .inl (G.2 0, 12, .inl (fun _ => 0)))]) := hD
  refine W.widen (k := 3) (n := 28) (Nat.le_of_ble_eq_true rfl) (Nat.le_of_ble_eq_true rfl) ?_
  refine va_putF (D := G.1) (ci := 0) (v := .ref q_3) (ty := tyX0 4) (C := RX0) (T := TX0) (N := 10) hx hb hts (by decide +kernel) tyX0 tyX0_ok nmX0 hown hK.1 hP hD hS 0 rfl rfl 4 (by decide) (hts (.fieldLink RX0 18 "PriceIndexCalculator$Basket" "size" "[I") (by decide +kernel)) (fun _ h9 => h9) rfl hin rfl (by decide +kernel) rfl rfl (Nat.le_of_ble_eq_true rfl) dX0_init_24 (fun H locs hP hD hS => ?_)
  have hP : va_P G.1 vwCl ([(h0, .inr (0, [.int (nI 0), .int (nI 0), .ref q_1, .ref q_2, .ref q_3, .null, .null, .null, .null, .null])), (q_1, .inl (G.2 0, 4, .inl (fun _ => 0))), (q_2, .inl (G.2 0, 12, .inl (fun _ => 0))), (q_3, .inl (G.2 0, 12, .inl (fun _ => 0)))]) H := hP
  have hD : va_D A ([(h0, .inr (0, [.int (nI 0), .int (nI 0), .ref q_1, .ref q_2, .ref q_3, .null, .null, .null, .null, .null])), (q_1, .inl (G.2 0, 4, .inl (fun _ => 0))), (q_2, .inl (G.2 0, 12, .inl (fun _ => 0))), (q_3, .inl (G.2 0, 12, .inl (fun _ => 0)))]) := hD
  refine lv_aload_n hx hb dX0_init_27 rfl (lv_at hl 0 rfl) ?_
  refine lv_bipush (v := nI 12) hx hb dX0_init_28 (by decide) ?_
  refine nw_a (atype := .int) (ty := .int) (n := 12) (a0 := (12, .inl (fun _ => 0))) hx hb (hts (.arrayClass .int) (by decide +kernel)) rfl hK.1 0 rfl (fun _ _ => RA_i) hP hD hS hA (fun _ => rfl) (by omega) (Nat.le_of_ble_eq_true rfl) (Nat.le_of_ble_eq_true rfl) (Nat.le_of_ble_eq_true rfl) dX0_init_30 (fun q_4 H hP hD hS => ?_)
  have hP : va_P G.1 vwCl ([(h0, .inr (0, [.int (nI 0), .int (nI 0), .ref q_1, .ref q_2, .ref q_3, .null, .null, .null, .null, .null])), (q_1, .inl (G.2 0, 4, .inl (fun _ => 0))), (q_2, .inl (G.2 0, 12, .inl (fun _ => 0))), (q_3, .inl (G.2 0, 12, .inl (fun _ => 0))), (q_4, .inl (G.2 0, 12, .inl (fun _ => 0)))]) H := hP
  have hD : va_D A ([(h0, .inr (0, [.int (nI 0), .int (nI 0), .ref q_1, .ref q_2, .ref q_3, .null, .null, .null, .null, .null])), (q_1, .inl (G.2 0, 4, .inl (fun _ => 0))), (q_2, .inl (G.2 0, 12, .inl (fun _ => 0))), (q_3, .inl (G.2 0, 12, .inl (fun _ => 0))), (q_4, .inl (G.2 0, 12, .inl (fun _ => 0)))]) := hD
  refine W.widen (k := 4) (n := 40) (Nat.le_of_ble_eq_true rfl) (Nat.le_of_ble_eq_true rfl) ?_
  refine va_putF (D := G.1) (ci := 0) (v := .ref q_4) (ty := tyX0 5) (C := RX0) (T := TX0) (N := 10) hx hb hts (by decide +kernel) tyX0 tyX0_ok nmX0 hown hK.1 hP hD hS 0 rfl rfl 5 (by decide) (hts (.fieldLink RX0 21 "PriceIndexCalculator$Basket" "seasons" "[I") (by decide +kernel)) (fun _ h9 => h9) rfl hin rfl (by decide +kernel) rfl rfl (Nat.le_of_ble_eq_true rfl) dX0_init_32 (fun H locs hP hD hS => ?_)
  have hP : va_P G.1 vwCl ([(h0, .inr (0, [.int (nI 0), .int (nI 0), .ref q_1, .ref q_2, .ref q_3, .ref q_4, .null, .null, .null, .null])), (q_1, .inl (G.2 0, 4, .inl (fun _ => 0))), (q_2, .inl (G.2 0, 12, .inl (fun _ => 0))), (q_3, .inl (G.2 0, 12, .inl (fun _ => 0))), (q_4, .inl (G.2 0, 12, .inl (fun _ => 0)))]) H := hP
  have hD : va_D A ([(h0, .inr (0, [.int (nI 0), .int (nI 0), .ref q_1, .ref q_2, .ref q_3, .ref q_4, .null, .null, .null, .null])), (q_1, .inl (G.2 0, 4, .inl (fun _ => 0))), (q_2, .inl (G.2 0, 12, .inl (fun _ => 0))), (q_3, .inl (G.2 0, 12, .inl (fun _ => 0))), (q_4, .inl (G.2 0, 12, .inl (fun _ => 0)))]) := hD
  refine lv_aload_n hx hb dX0_init_35 rfl (lv_at hl 0 rfl) ?_
  refine lv_bipush (v := nI 12) hx hb dX0_init_36 (by decide) ?_
  refine nw_a (atype := .int) (ty := .int) (n := 12) (a0 := (12, .inl (fun _ => 0))) hx hb (hts (.arrayClass .int) (by decide +kernel)) rfl hK.1 0 rfl (fun _ _ => RA_i) hP hD hS hA (fun _ => rfl) (by omega) (Nat.le_of_ble_eq_true rfl) (Nat.le_of_ble_eq_true rfl) (Nat.le_of_ble_eq_true rfl) dX0_init_38 (fun q_5 H hP hD hS => ?_)
  have hP : va_P G.1 vwCl ([(h0, .inr (0, [.int (nI 0), .int (nI 0), .ref q_1, .ref q_2, .ref q_3, .ref q_4, .null, .null, .null, .null])), (q_1, .inl (G.2 0, 4, .inl (fun _ => 0))), (q_2, .inl (G.2 0, 12, .inl (fun _ => 0))), (q_3, .inl (G.2 0, 12, .inl (fun _ => 0))), (q_4, .inl (G.2 0, 12, .inl (fun _ => 0))), (q_5, .inl (G.2 0, 12, .inl (fun _ => 0)))]) H := hP
  have hD : va_D A ([(h0, .inr (0, [.int (nI 0), .int (nI 0), .ref q_1, .ref q_2, .ref q_3, .ref q_4, .null, .null, .null, .null])), (q_1, .inl (G.2 0, 4, .inl (fun _ => 0))), (q_2, .inl (G.2 0, 12, .inl (fun _ => 0))), (q_3, .inl (G.2 0, 12, .inl (fun _ => 0))), (q_4, .inl (G.2 0, 12, .inl (fun _ => 0))), (q_5, .inl (G.2 0, 12, .inl (fun _ => 0)))]) := hD
  refine W.widen (k := 5) (n := 52) (Nat.le_of_ble_eq_true rfl) (Nat.le_of_ble_eq_true rfl) ?_
  refine va_putF (D := G.1) (ci := 0) (v := .ref q_5) (ty := tyX0 6) (C := RX0) (T := TX0) (N := 10) hx hb hts (by decide +kernel) tyX0 tyX0_ok nmX0 hown hK.1 hP hD hS 0 rfl rfl 6 (by decide) (hts (.fieldLink RX0 24 "PriceIndexCalculator$Basket" "newItemOf" "[I") (by decide +kernel)) (fun _ h9 => h9) rfl hin rfl (by decide +kernel) rfl rfl (Nat.le_of_ble_eq_true rfl) dX0_init_40 (fun H locs hP hD hS => ?_)
  have hP : va_P G.1 vwCl ([(h0, .inr (0, [.int (nI 0), .int (nI 0), .ref q_1, .ref q_2, .ref q_3, .ref q_4, .ref q_5, .null, .null, .null])), (q_1, .inl (G.2 0, 4, .inl (fun _ => 0))), (q_2, .inl (G.2 0, 12, .inl (fun _ => 0))), (q_3, .inl (G.2 0, 12, .inl (fun _ => 0))), (q_4, .inl (G.2 0, 12, .inl (fun _ => 0))), (q_5, .inl (G.2 0, 12, .inl (fun _ => 0)))]) H := hP
  have hD : va_D A ([(h0, .inr (0, [.int (nI 0), .int (nI 0), .ref q_1, .ref q_2, .ref q_3, .ref q_4, .ref q_5, .null, .null, .null])), (q_1, .inl (G.2 0, 4, .inl (fun _ => 0))), (q_2, .inl (G.2 0, 12, .inl (fun _ => 0))), (q_3, .inl (G.2 0, 12, .inl (fun _ => 0))), (q_4, .inl (G.2 0, 12, .inl (fun _ => 0))), (q_5, .inl (G.2 0, 12, .inl (fun _ => 0)))]) := hD
  refine lv_aload_n hx hb dX0_init_43 rfl (lv_at hl 0 rfl) ?_
  refine lv_bipush (v := nI 12) hx hb dX0_init_44 (by decide) ?_
  refine nw_a (atype := .int) (ty := .int) (n := 12) (a0 := (12, .inl (fun _ => 0))) hx hb (hts (.arrayClass .int) (by decide +kernel)) rfl hK.1 0 rfl (fun _ _ => RA_i) hP hD hS hA (fun _ => rfl) (by omega) (Nat.le_of_ble_eq_true rfl) (Nat.le_of_ble_eq_true rfl) (Nat.le_of_ble_eq_true rfl) dX0_init_46 (fun q_6 H hP hD hS => ?_)
  have hP : va_P G.1 vwCl ([(h0, .inr (0, [.int (nI 0), .int (nI 0), .ref q_1, .ref q_2, .ref q_3, .ref q_4, .ref q_5, .null, .null, .null])), (q_1, .inl (G.2 0, 4, .inl (fun _ => 0))), (q_2, .inl (G.2 0, 12, .inl (fun _ => 0))), (q_3, .inl (G.2 0, 12, .inl (fun _ => 0))), (q_4, .inl (G.2 0, 12, .inl (fun _ => 0))), (q_5, .inl (G.2 0, 12, .inl (fun _ => 0))), (q_6, .inl (G.2 0, 12, .inl (fun _ => 0)))]) H := hP
  have hD : va_D A ([(h0, .inr (0, [.int (nI 0), .int (nI 0), .ref q_1, .ref q_2, .ref q_3, .ref q_4, .ref q_5, .null, .null, .null])), (q_1, .inl (G.2 0, 4, .inl (fun _ => 0))), (q_2, .inl (G.2 0, 12, .inl (fun _ => 0))), (q_3, .inl (G.2 0, 12, .inl (fun _ => 0))), (q_4, .inl (G.2 0, 12, .inl (fun _ => 0))), (q_5, .inl (G.2 0, 12, .inl (fun _ => 0))), (q_6, .inl (G.2 0, 12, .inl (fun _ => 0)))]) := hD
  refine W.widen (k := 6) (n := 64) (Nat.le_of_ble_eq_true rfl) (Nat.le_of_ble_eq_true rfl) ?_
  refine va_putF (D := G.1) (ci := 0) (v := .ref q_6) (ty := tyX0 7) (C := RX0) (T := TX0) (N := 10) hx hb hts (by decide +kernel) tyX0 tyX0_ok nmX0 hown hK.1 hP hD hS 0 rfl rfl 7 (by decide) (hts (.fieldLink RX0 27 "PriceIndexCalculator$Basket" "oldItemOf" "[I") (by decide +kernel)) (fun _ h9 => h9) rfl hin rfl (by decide +kernel) rfl rfl (Nat.le_of_ble_eq_true rfl) dX0_init_48 (fun H locs hP hD hS => ?_)
  have hP : va_P G.1 vwCl ([(h0, .inr (0, [.int (nI 0), .int (nI 0), .ref q_1, .ref q_2, .ref q_3, .ref q_4, .ref q_5, .ref q_6, .null, .null])), (q_1, .inl (G.2 0, 4, .inl (fun _ => 0))), (q_2, .inl (G.2 0, 12, .inl (fun _ => 0))), (q_3, .inl (G.2 0, 12, .inl (fun _ => 0))), (q_4, .inl (G.2 0, 12, .inl (fun _ => 0))), (q_5, .inl (G.2 0, 12, .inl (fun _ => 0))), (q_6, .inl (G.2 0, 12, .inl (fun _ => 0)))]) H := hP
  have hD : va_D A ([(h0, .inr (0, [.int (nI 0), .int (nI 0), .ref q_1, .ref q_2, .ref q_3, .ref q_4, .ref q_5, .ref q_6, .null, .null])), (q_1, .inl (G.2 0, 4, .inl (fun _ => 0))), (q_2, .inl (G.2 0, 12, .inl (fun _ => 0))), (q_3, .inl (G.2 0, 12, .inl (fun _ => 0))), (q_4, .inl (G.2 0, 12, .inl (fun _ => 0))), (q_5, .inl (G.2 0, 12, .inl (fun _ => 0))), (q_6, .inl (G.2 0, 12, .inl (fun _ => 0)))]) := hD
  refine lv_aload_n hx hb dX0_init_51 rfl (lv_at hl 0 rfl) ?_
  refine lv_bipush (v := nI 12) hx hb dX0_init_52 (by decide) ?_
  refine nw_a (atype := .int) (ty := .int) (n := 12) (a0 := (12, .inl (fun _ => 0))) hx hb (hts (.arrayClass .int) (by decide +kernel)) rfl hK.1 0 rfl (fun _ _ => RA_i) hP hD hS hA (fun _ => rfl) (by omega) (Nat.le_of_ble_eq_true rfl) (Nat.le_of_ble_eq_true rfl) (Nat.le_of_ble_eq_true rfl) dX0_init_54 (fun q_7 H hP hD hS => ?_)
  have hP : va_P G.1 vwCl ([(h0, .inr (0, [.int (nI 0), .int (nI 0), .ref q_1, .ref q_2, .ref q_3, .ref q_4, .ref q_5, .ref q_6, .null, .null])), (q_1, .inl (G.2 0, 4, .inl (fun _ => 0))), (q_2, .inl (G.2 0, 12, .inl (fun _ => 0))), (q_3, .inl (G.2 0, 12, .inl (fun _ => 0))), (q_4, .inl (G.2 0, 12, .inl (fun _ => 0))), (q_5, .inl (G.2 0, 12, .inl (fun _ => 0))), (q_6, .inl (G.2 0, 12, .inl (fun _ => 0))), (q_7, .inl (G.2 0, 12, .inl (fun _ => 0)))]) H := hP
  have hD : va_D A ([(h0, .inr (0, [.int (nI 0), .int (nI 0), .ref q_1, .ref q_2, .ref q_3, .ref q_4, .ref q_5, .ref q_6, .null, .null])), (q_1, .inl (G.2 0, 4, .inl (fun _ => 0))), (q_2, .inl (G.2 0, 12, .inl (fun _ => 0))), (q_3, .inl (G.2 0, 12, .inl (fun _ => 0))), (q_4, .inl (G.2 0, 12, .inl (fun _ => 0))), (q_5, .inl (G.2 0, 12, .inl (fun _ => 0))), (q_6, .inl (G.2 0, 12, .inl (fun _ => 0))), (q_7, .inl (G.2 0, 12, .inl (fun _ => 0)))]) := hD
  refine W.widen (k := 7) (n := 76) (Nat.le_of_ble_eq_true rfl) (Nat.le_of_ble_eq_true rfl) ?_
  refine va_putF (D := G.1) (ci := 0) (v := .ref q_7) (ty := tyX0 8) (C := RX0) (T := TX0) (N := 10) hx hb hts (by decide +kernel) tyX0 tyX0_ok nmX0 hown hK.1 hP hD hS 0 rfl rfl 8 (by decide) (hts (.fieldLink RX0 30 "PriceIndexCalculator$Basket" "overlap" "[I") (by decide +kernel)) (fun _ h9 => h9) rfl hin rfl (by decide +kernel) rfl rfl (Nat.le_of_ble_eq_true rfl) dX0_init_56 (fun H locs hP hD hS => ?_)
  have hP : va_P G.1 vwCl ([(h0, .inr (0, [.int (nI 0), .int (nI 0), .ref q_1, .ref q_2, .ref q_3, .ref q_4, .ref q_5, .ref q_6, .ref q_7, .null])), (q_1, .inl (G.2 0, 4, .inl (fun _ => 0))), (q_2, .inl (G.2 0, 12, .inl (fun _ => 0))), (q_3, .inl (G.2 0, 12, .inl (fun _ => 0))), (q_4, .inl (G.2 0, 12, .inl (fun _ => 0))), (q_5, .inl (G.2 0, 12, .inl (fun _ => 0))), (q_6, .inl (G.2 0, 12, .inl (fun _ => 0))), (q_7, .inl (G.2 0, 12, .inl (fun _ => 0)))]) H := hP
  have hD : va_D A ([(h0, .inr (0, [.int (nI 0), .int (nI 0), .ref q_1, .ref q_2, .ref q_3, .ref q_4, .ref q_5, .ref q_6, .ref q_7, .null])), (q_1, .inl (G.2 0, 4, .inl (fun _ => 0))), (q_2, .inl (G.2 0, 12, .inl (fun _ => 0))), (q_3, .inl (G.2 0, 12, .inl (fun _ => 0))), (q_4, .inl (G.2 0, 12, .inl (fun _ => 0))), (q_5, .inl (G.2 0, 12, .inl (fun _ => 0))), (q_6, .inl (G.2 0, 12, .inl (fun _ => 0))), (q_7, .inl (G.2 0, 12, .inl (fun _ => 0)))]) := hD
  refine lv_aload_n hx hb dX0_init_59 rfl (lv_at hl 0 rfl) ?_
  refine lv_sipush (v := nI 288) hx hb dX0_init_60 (by decide) ?_
  refine nw_a (atype := .int) (ty := .int) (n := 288) (a0 := (288, .inl (fun _ => 0))) hx hb (hts (.arrayClass .int) (by decide +kernel)) rfl hK.1 0 rfl (fun _ _ => RA_i) hP hD hS hA (fun _ => rfl) (by omega) (Nat.le_of_ble_eq_true rfl) (Nat.le_of_ble_eq_true rfl) (Nat.le_of_ble_eq_true rfl) dX0_init_63 (fun q_8 H hP hD hS => ?_)
  have hP : va_P G.1 vwCl ([(h0, .inr (0, [.int (nI 0), .int (nI 0), .ref q_1, .ref q_2, .ref q_3, .ref q_4, .ref q_5, .ref q_6, .ref q_7, .null])), (q_1, .inl (G.2 0, 4, .inl (fun _ => 0))), (q_2, .inl (G.2 0, 12, .inl (fun _ => 0))), (q_3, .inl (G.2 0, 12, .inl (fun _ => 0))), (q_4, .inl (G.2 0, 12, .inl (fun _ => 0))), (q_5, .inl (G.2 0, 12, .inl (fun _ => 0))), (q_6, .inl (G.2 0, 12, .inl (fun _ => 0))), (q_7, .inl (G.2 0, 12, .inl (fun _ => 0))), (q_8, .inl (G.2 0, 288, .inl (fun _ => 0)))]) H := hP
  have hD : va_D A ([(h0, .inr (0, [.int (nI 0), .int (nI 0), .ref q_1, .ref q_2, .ref q_3, .ref q_4, .ref q_5, .ref q_6, .ref q_7, .null])), (q_1, .inl (G.2 0, 4, .inl (fun _ => 0))), (q_2, .inl (G.2 0, 12, .inl (fun _ => 0))), (q_3, .inl (G.2 0, 12, .inl (fun _ => 0))), (q_4, .inl (G.2 0, 12, .inl (fun _ => 0))), (q_5, .inl (G.2 0, 12, .inl (fun _ => 0))), (q_6, .inl (G.2 0, 12, .inl (fun _ => 0))), (q_7, .inl (G.2 0, 12, .inl (fun _ => 0))), (q_8, .inl (G.2 0, 288, .inl (fun _ => 0)))]) := hD
  refine W.widen (k := 8) (n := 364) (Nat.le_of_ble_eq_true rfl) (Nat.le_of_ble_eq_true rfl) ?_
  refine va_putF (D := G.1) (ci := 0) (v := .ref q_8) (ty := tyX0 9) (C := RX0) (T := TX0) (N := 10) hx hb hts (by decide +kernel) tyX0 tyX0_ok nmX0 hown hK.1 hP hD hS 0 rfl rfl 9 (by decide) (hts (.fieldLink RX0 33 "PriceIndexCalculator$Basket" "quoted" "[I") (by decide +kernel)) (fun _ h9 => h9) rfl hin rfl (by decide +kernel) rfl rfl (Nat.le_of_ble_eq_true rfl) dX0_init_65 (fun H locs hP hD hS => ?_)
  have hP : va_P G.1 vwCl ([(h0, .inr (0, [.int (nI 0), .int (nI 0), .ref q_1, .ref q_2, .ref q_3, .ref q_4, .ref q_5, .ref q_6, .ref q_7, .ref q_8])), (q_1, .inl (G.2 0, 4, .inl (fun _ => 0))), (q_2, .inl (G.2 0, 12, .inl (fun _ => 0))), (q_3, .inl (G.2 0, 12, .inl (fun _ => 0))), (q_4, .inl (G.2 0, 12, .inl (fun _ => 0))), (q_5, .inl (G.2 0, 12, .inl (fun _ => 0))), (q_6, .inl (G.2 0, 12, .inl (fun _ => 0))), (q_7, .inl (G.2 0, 12, .inl (fun _ => 0))), (q_8, .inl (G.2 0, 288, .inl (fun _ => 0)))]) H := hP
  have hD : va_D A ([(h0, .inr (0, [.int (nI 0), .int (nI 0), .ref q_1, .ref q_2, .ref q_3, .ref q_4, .ref q_5, .ref q_6, .ref q_7, .ref q_8])), (q_1, .inl (G.2 0, 4, .inl (fun _ => 0))), (q_2, .inl (G.2 0, 12, .inl (fun _ => 0))), (q_3, .inl (G.2 0, 12, .inl (fun _ => 0))), (q_4, .inl (G.2 0, 12, .inl (fun _ => 0))), (q_5, .inl (G.2 0, 12, .inl (fun _ => 0))), (q_6, .inl (G.2 0, 12, .inl (fun _ => 0))), (q_7, .inl (G.2 0, 12, .inl (fun _ => 0))), (q_8, .inl (G.2 0, 288, .inl (fun _ => 0)))]) := hD
  refine lv_iconst (v := nI 0) hx hb dX0_init_68 (by decide) ?_
  refine lv_istore_n (lv' := [(1, .int (nI 0)), (0, .ref h0)]) hx hb dX0_init_69 rfl hl (by decide) rfl (fun ls hl => ?_)
  have e25 : (fun _ => 0 : Nat → Int32) = r25 0 := by funext j; unfold r25; rw [if_neg (Nat.not_lt_zero j)]
  have hP : va_P G.1 vwCl ([(h0, .inr (0, [.int (nI 0), .int (nI 0), .ref q_1, .ref q_2, .ref q_3, .ref q_4, .ref q_5, .ref q_6, .ref q_7, .ref q_8])), (q_1, .inl (G.2 0, 4, .inl (r25 0))), (q_2, .inl (G.2 0, 12, .inl (fun _ => 0))), (q_3, .inl (G.2 0, 12, .inl (fun _ => 0))), (q_4, .inl (G.2 0, 12, .inl (fun _ => 0))), (q_5, .inl (G.2 0, 12, .inl (fun _ => 0))), (q_6, .inl (G.2 0, 12, .inl (fun _ => 0))), (q_7, .inl (G.2 0, 12, .inl (fun _ => 0))), (q_8, .inl (G.2 0, 288, .inl (fun _ => 0)))]) H := by have h9 := hP; rw [show ((q_1, .inl (G.2 0, 4, .inl (fun _ => 0))) : Nat × va_E) = (q_1, .inl (G.2 0, 4, .inl (r25 0))) by rw [e25]] at h9; exact h9
  have hD : va_D A ([(h0, .inr (0, [.int (nI 0), .int (nI 0), .ref q_1, .ref q_2, .ref q_3, .ref q_4, .ref q_5, .ref q_6, .ref q_7, .ref q_8])), (q_1, .inl (G.2 0, 4, .inl (r25 0))), (q_2, .inl (G.2 0, 12, .inl (fun _ => 0))), (q_3, .inl (G.2 0, 12, .inl (fun _ => 0))), (q_4, .inl (G.2 0, 12, .inl (fun _ => 0))), (q_5, .inl (G.2 0, 12, .inl (fun _ => 0))), (q_6, .inl (G.2 0, 12, .inl (fun _ => 0))), (q_7, .inl (G.2 0, 12, .inl (fun _ => 0))), (q_8, .inl (G.2 0, 288, .inl (fun _ => 0)))]) := D_re hD rfl
  refine lpM (S := Unit) (4) (fun i u H locs => va_P G.1 vwCl ([(h0, .inr (0, [.int (nI 0), .int (nI 0), .ref q_1, .ref q_2, .ref q_3, .ref q_4, .ref q_5, .ref q_6, .ref q_7, .ref q_8])), (q_1, .inl (G.2 0, 4, .inl (r25 i))), (q_2, .inl (G.2 0, 12, .inl (fun _ => 0))), (q_3, .inl (G.2 0, 12, .inl (fun _ => 0))), (q_4, .inl (G.2 0, 12, .inl (fun _ => 0))), (q_5, .inl (G.2 0, 12, .inl (fun _ => 0))), (q_6, .inl (G.2 0, 12, .inl (fun _ => 0))), (q_7, .inl (G.2 0, 12, .inl (fun _ => 0))), (q_8, .inl (G.2 0, 288, .inl (fun _ => 0)))]) H ∧ va_D A ([(h0, .inr (0, [.int (nI 0), .int (nI 0), .ref q_1, .ref q_2, .ref q_3, .ref q_4, .ref q_5, .ref q_6, .ref q_7, .ref q_8])), (q_1, .inl (G.2 0, 4, .inl (r25 i))), (q_2, .inl (G.2 0, 12, .inl (fun _ => 0))), (q_3, .inl (G.2 0, 12, .inl (fun _ => 0))), (q_4, .inl (G.2 0, 12, .inl (fun _ => 0))), (q_5, .inl (G.2 0, 12, .inl (fun _ => 0))), (q_6, .inl (G.2 0, 12, .inl (fun _ => 0))), (q_7, .inl (G.2 0, 12, .inl (fun _ => 0))), (q_8, .inl (G.2 0, 288, .inl (fun _ => 0)))]) ∧ va_S A s.heap H locs) (fun i u => [(0, .ref h0), (1, .int (nI i))]) (fun u H locs ls hI0 hl => ?_) (fun i u H locs ls hi_10 hI0 hl ih_9 => ?_) 0 () (by omega) ⟨hP, hD, hS⟩ (lv_sub hl [1, 0] rfl)
  · obtain ⟨hP, hD, hS⟩ := hI0
    have hl : lv_has ls 2 [(0, .ref h0), (1, .int (nI 4))] := hl
    have hP : va_P G.1 vwCl ([(h0, .inr (0, [.int (nI 0), .int (nI 0), .ref q_1, .ref q_2, .ref q_3, .ref q_4, .ref q_5, .ref q_6, .ref q_7, .ref q_8])), (q_1, .inl (G.2 0, 4, .inl (r25 4))), (q_2, .inl (G.2 0, 12, .inl (fun _ => 0))), (q_3, .inl (G.2 0, 12, .inl (fun _ => 0))), (q_4, .inl (G.2 0, 12, .inl (fun _ => 0))), (q_5, .inl (G.2 0, 12, .inl (fun _ => 0))), (q_6, .inl (G.2 0, 12, .inl (fun _ => 0))), (q_7, .inl (G.2 0, 12, .inl (fun _ => 0))), (q_8, .inl (G.2 0, 288, .inl (fun _ => 0)))]) H := hP
    have hD : va_D A ([(h0, .inr (0, [.int (nI 0), .int (nI 0), .ref q_1, .ref q_2, .ref q_3, .ref q_4, .ref q_5, .ref q_6, .ref q_7, .ref q_8])), (q_1, .inl (G.2 0, 4, .inl (r25 4))), (q_2, .inl (G.2 0, 12, .inl (fun _ => 0))), (q_3, .inl (G.2 0, 12, .inl (fun _ => 0))), (q_4, .inl (G.2 0, 12, .inl (fun _ => 0))), (q_5, .inl (G.2 0, 12, .inl (fun _ => 0))), (q_6, .inl (G.2 0, 12, .inl (fun _ => 0))), (q_7, .inl (G.2 0, 12, .inl (fun _ => 0))), (q_8, .inl (G.2 0, 288, .inl (fun _ => 0)))]) := hD
    refine lv_iload_n hx hb dX0_init_70 rfl (lv_at hl 1 rfl) ?_
    refine lv_iconst (v := nI 4) hx hb dX0_init_71 (by decide) ?_
    refine n_icmp_ge (x := 4) (y := 4) (tgt := 89) hx hb (by omega) (by omega) dX0_init_72 (by decide) (fun c_11 => ?_) (fun c_11 => ?_)
    · refine lv_iconst (v := nI 0) hx hb dX0_init_89 (by decide) ?_
      refine lv_istore_n (lv' := [(1, .int (nI 0)), (0, .ref h0)]) hx hb dX0_init_90 rfl hl (by decide) rfl (fun ls hl => ?_)
      have eM1 : (fun _ => 0 : Nat → Int32) = rM1 0 := by funext j; unfold rM1; rw [if_neg (Nat.not_lt_zero j)]
      have hP : va_P G.1 vwCl ([(h0, .inr (0, [.int (nI 0), .int (nI 0), .ref q_1, .ref q_2, .ref q_3, .ref q_4, .ref q_5, .ref q_6, .ref q_7, .ref q_8])), (q_1, .inl (G.2 0, 4, .inl (r25 4))), (q_2, .inl (G.2 0, 12, .inl (fun _ => 0))), (q_3, .inl (G.2 0, 12, .inl (fun _ => 0))), (q_4, .inl (G.2 0, 12, .inl (fun _ => 0))), (q_5, .inl (G.2 0, 12, .inl (rM1 0))), (q_6, .inl (G.2 0, 12, .inl (rM1 0))), (q_7, .inl (G.2 0, 12, .inl (fun _ => 0))), (q_8, .inl (G.2 0, 288, .inl (fun _ => 0)))]) H := by have h9 := hP; rw [show ((q_5, .inl (G.2 0, 12, .inl (fun _ => 0))) : Nat × va_E) = (q_5, .inl (G.2 0, 12, .inl (rM1 0))) by rw [eM1], show ((q_6, .inl (G.2 0, 12, .inl (fun _ => 0))) : Nat × va_E) = (q_6, .inl (G.2 0, 12, .inl (rM1 0))) by rw [eM1]] at h9; exact h9
      have hD : va_D A ([(h0, .inr (0, [.int (nI 0), .int (nI 0), .ref q_1, .ref q_2, .ref q_3, .ref q_4, .ref q_5, .ref q_6, .ref q_7, .ref q_8])), (q_1, .inl (G.2 0, 4, .inl (r25 4))), (q_2, .inl (G.2 0, 12, .inl (fun _ => 0))), (q_3, .inl (G.2 0, 12, .inl (fun _ => 0))), (q_4, .inl (G.2 0, 12, .inl (fun _ => 0))), (q_5, .inl (G.2 0, 12, .inl (rM1 0))), (q_6, .inl (G.2 0, 12, .inl (rM1 0))), (q_7, .inl (G.2 0, 12, .inl (fun _ => 0))), (q_8, .inl (G.2 0, 288, .inl (fun _ => 0)))]) := D_re hD rfl
      refine lpM (S := Unit) (12) (fun i u H locs => va_P G.1 vwCl ([(h0, .inr (0, [.int (nI 0), .int (nI 0), .ref q_1, .ref q_2, .ref q_3, .ref q_4, .ref q_5, .ref q_6, .ref q_7, .ref q_8])), (q_1, .inl (G.2 0, 4, .inl (r25 4))), (q_2, .inl (G.2 0, 12, .inl (fun _ => 0))), (q_3, .inl (G.2 0, 12, .inl (fun _ => 0))), (q_4, .inl (G.2 0, 12, .inl (fun _ => 0))), (q_5, .inl (G.2 0, 12, .inl (rM1 i))), (q_6, .inl (G.2 0, 12, .inl (rM1 i))), (q_7, .inl (G.2 0, 12, .inl (fun _ => 0))), (q_8, .inl (G.2 0, 288, .inl (fun _ => 0)))]) H ∧ va_D A ([(h0, .inr (0, [.int (nI 0), .int (nI 0), .ref q_1, .ref q_2, .ref q_3, .ref q_4, .ref q_5, .ref q_6, .ref q_7, .ref q_8])), (q_1, .inl (G.2 0, 4, .inl (r25 4))), (q_2, .inl (G.2 0, 12, .inl (fun _ => 0))), (q_3, .inl (G.2 0, 12, .inl (fun _ => 0))), (q_4, .inl (G.2 0, 12, .inl (fun _ => 0))), (q_5, .inl (G.2 0, 12, .inl (rM1 i))), (q_6, .inl (G.2 0, 12, .inl (rM1 i))), (q_7, .inl (G.2 0, 12, .inl (fun _ => 0))), (q_8, .inl (G.2 0, 288, .inl (fun _ => 0)))]) ∧ va_S A s.heap H locs) (fun i u => [(0, .ref h0), (1, .int (nI i))]) (fun u H locs ls hI0 hl => ?_) (fun i u H locs ls hi_13 hI0 hl ih_12 => ?_) 0 () (by omega) ⟨hP, hD, hS⟩ (lv_sub hl [1, 0] rfl)
      · obtain ⟨hP, hD, hS⟩ := hI0
        have hl : lv_has ls 2 [(0, .ref h0), (1, .int (nI 12))] := hl
        have hP : va_P G.1 vwCl ([(h0, .inr (0, [.int (nI 0), .int (nI 0), .ref q_1, .ref q_2, .ref q_3, .ref q_4, .ref q_5, .ref q_6, .ref q_7, .ref q_8])), (q_1, .inl (G.2 0, 4, .inl (r25 4))), (q_2, .inl (G.2 0, 12, .inl (fun _ => 0))), (q_3, .inl (G.2 0, 12, .inl (fun _ => 0))), (q_4, .inl (G.2 0, 12, .inl (fun _ => 0))), (q_5, .inl (G.2 0, 12, .inl (rM1 12))), (q_6, .inl (G.2 0, 12, .inl (rM1 12))), (q_7, .inl (G.2 0, 12, .inl (fun _ => 0))), (q_8, .inl (G.2 0, 288, .inl (fun _ => 0)))]) H := hP
        have hD : va_D A ([(h0, .inr (0, [.int (nI 0), .int (nI 0), .ref q_1, .ref q_2, .ref q_3, .ref q_4, .ref q_5, .ref q_6, .ref q_7, .ref q_8])), (q_1, .inl (G.2 0, 4, .inl (r25 4))), (q_2, .inl (G.2 0, 12, .inl (fun _ => 0))), (q_3, .inl (G.2 0, 12, .inl (fun _ => 0))), (q_4, .inl (G.2 0, 12, .inl (fun _ => 0))), (q_5, .inl (G.2 0, 12, .inl (rM1 12))), (q_6, .inl (G.2 0, 12, .inl (rM1 12))), (q_7, .inl (G.2 0, 12, .inl (fun _ => 0))), (q_8, .inl (G.2 0, 288, .inl (fun _ => 0)))]) := hD
        refine lv_iload_n hx hb dX0_init_91 rfl (lv_at hl 1 rfl) ?_
        refine lv_bipush (v := nI 12) hx hb dX0_init_92 (by decide) ?_
        refine n_icmp_ge (x := 12) (y := 12) (tgt := 117) hx hb (by omega) (by omega) dX0_init_94 (by decide) (fun c_14 => ?_) (fun c_14 => ?_)
        · have hP9 : va_P G.1 vwCl (bcells G (fun k => match k with | 0 => h0 | 1 => q_1 | 2 => q_2 | 3 => q_3 | 4 => q_4 | 5 => q_5 | 6 => q_6 | 7 => q_7 | _ => q_8) bZ) H := hP
          have hD9 : va_D A (bcells G (fun k => match k with | 0 => h0 | 1 => q_1 | 2 => q_2 | 3 => q_3 | 4 => q_4 | 5 => q_5 | 6 => q_6 | 7 => q_7 | _ => q_8) bZ) := hD
          exact W.vret hx hb hr (fun t ht hW => ⟨⟨(fun k => match k with | 0 => h0 | 1 => q_1 | 2 => q_2 | 3 => q_3 | 4 => q_4 | 5 => q_5 | 6 => q_6 | 7 => q_7 | _ => q_8), rfl, rfl, by rw [ht]; exact hP9, hD9⟩, hS.F ht⟩) hS.2.2 dX0_init_117
        · exact absurd c_14 (by omega)
      · obtain ⟨hP, hD, hS⟩ := hI0
        have hl : lv_has ls 2 [(0, .ref h0), (1, .int (nI i))] := hl
        have hP : va_P G.1 vwCl ([(h0, .inr (0, [.int (nI 0), .int (nI 0), .ref q_1, .ref q_2, .ref q_3, .ref q_4, .ref q_5, .ref q_6, .ref q_7, .ref q_8])), (q_1, .inl (G.2 0, 4, .inl (r25 4))), (q_2, .inl (G.2 0, 12, .inl (fun _ => 0))), (q_3, .inl (G.2 0, 12, .inl (fun _ => 0))), (q_4, .inl (G.2 0, 12, .inl (fun _ => 0))), (q_5, .inl (G.2 0, 12, .inl (rM1 i))), (q_6, .inl (G.2 0, 12, .inl (rM1 i))), (q_7, .inl (G.2 0, 12, .inl (fun _ => 0))), (q_8, .inl (G.2 0, 288, .inl (fun _ => 0)))]) H := hP
        have hD : va_D A ([(h0, .inr (0, [.int (nI 0), .int (nI 0), .ref q_1, .ref q_2, .ref q_3, .ref q_4, .ref q_5, .ref q_6, .ref q_7, .ref q_8])), (q_1, .inl (G.2 0, 4, .inl (r25 4))), (q_2, .inl (G.2 0, 12, .inl (fun _ => 0))), (q_3, .inl (G.2 0, 12, .inl (fun _ => 0))), (q_4, .inl (G.2 0, 12, .inl (fun _ => 0))), (q_5, .inl (G.2 0, 12, .inl (rM1 i))), (q_6, .inl (G.2 0, 12, .inl (rM1 i))), (q_7, .inl (G.2 0, 12, .inl (fun _ => 0))), (q_8, .inl (G.2 0, 288, .inl (fun _ => 0)))]) := hD
        refine lv_iload_n hx hb dX0_init_91 rfl (lv_at hl 1 rfl) ?_
        refine lv_bipush (v := nI 12) hx hb dX0_init_92 (by decide) ?_
        refine n_icmp_ge (x := i) (y := 12) (tgt := 117) hx hb (by omega) (by omega) dX0_init_94 (by decide) (fun c_15 => ?_) (fun c_15 => ?_)
        · exact absurd c_15 (by omega)
        · refine lv_aload_n hx hb dX0_init_97 rfl (lv_at hl 0 rfl) ?_
          refine va_get (D := G.1) (ci := 0) (v := .ref q_5) (C := RX0) (T := TX0) (N := 10) hx hb hts (by decide +kernel) hown hK.1 hP 0 rfl rfl 6 (by decide) (hts (.fieldLink RX0 24 "PriceIndexCalculator$Basket" "newItemOf" "[I") (by decide +kernel)) (fun _ h9 => h9) rfl dX0_init_98 ?_
          refine lv_iload_n hx hb dX0_init_101 rfl (lv_at hl 1 rfl) ?_
          refine lv_iconst (v := (-1)) hx hb dX0_init_102 (by decide) ?_
          refine n_iast hx hb hK.1 hP hD hS 5 0 rfl rfl (j := i) (by omega) (by omega) dX0_init_103 (fun H locs hP hD hS => ?_)
          have hP : va_P G.1 vwCl ([(h0, .inr (0, [.int (nI 0), .int (nI 0), .ref q_1, .ref q_2, .ref q_3, .ref q_4, .ref q_5, .ref q_6, .ref q_7, .ref q_8])), (q_1, .inl (G.2 0, 4, .inl (r25 4))), (q_2, .inl (G.2 0, 12, .inl (fun _ => 0))), (q_3, .inl (G.2 0, 12, .inl (fun _ => 0))), (q_4, .inl (G.2 0, 12, .inl (fun _ => 0))), (q_5, .inl (G.2 0, 12, .inl (upd (rM1 i) i (-1)))), (q_6, .inl (G.2 0, 12, .inl (rM1 i))), (q_7, .inl (G.2 0, 12, .inl (fun _ => 0))), (q_8, .inl (G.2 0, 288, .inl (fun _ => 0)))]) H := hP
          have hD : va_D A ([(h0, .inr (0, [.int (nI 0), .int (nI 0), .ref q_1, .ref q_2, .ref q_3, .ref q_4, .ref q_5, .ref q_6, .ref q_7, .ref q_8])), (q_1, .inl (G.2 0, 4, .inl (r25 4))), (q_2, .inl (G.2 0, 12, .inl (fun _ => 0))), (q_3, .inl (G.2 0, 12, .inl (fun _ => 0))), (q_4, .inl (G.2 0, 12, .inl (fun _ => 0))), (q_5, .inl (G.2 0, 12, .inl (upd (rM1 i) i (-1)))), (q_6, .inl (G.2 0, 12, .inl (rM1 i))), (q_7, .inl (G.2 0, 12, .inl (fun _ => 0))), (q_8, .inl (G.2 0, 288, .inl (fun _ => 0)))]) := hD
          refine lv_aload_n hx hb dX0_init_104 rfl (lv_at hl 0 rfl) ?_
          refine va_get (D := G.1) (ci := 0) (v := .ref q_6) (C := RX0) (T := TX0) (N := 10) hx hb hts (by decide +kernel) hown hK.1 hP 0 rfl rfl 7 (by decide) (hts (.fieldLink RX0 27 "PriceIndexCalculator$Basket" "oldItemOf" "[I") (by decide +kernel)) (fun _ h9 => h9) rfl dX0_init_105 ?_
          refine lv_iload_n hx hb dX0_init_108 rfl (lv_at hl 1 rfl) ?_
          refine lv_iconst (v := (-1)) hx hb dX0_init_109 (by decide) ?_
          refine n_iast hx hb hK.1 hP hD hS 6 0 rfl rfl (j := i) (by omega) (by omega) dX0_init_110 (fun H locs hP hD hS => ?_)
          have hP : va_P G.1 vwCl ([(h0, .inr (0, [.int (nI 0), .int (nI 0), .ref q_1, .ref q_2, .ref q_3, .ref q_4, .ref q_5, .ref q_6, .ref q_7, .ref q_8])), (q_1, .inl (G.2 0, 4, .inl (r25 4))), (q_2, .inl (G.2 0, 12, .inl (fun _ => 0))), (q_3, .inl (G.2 0, 12, .inl (fun _ => 0))), (q_4, .inl (G.2 0, 12, .inl (fun _ => 0))), (q_5, .inl (G.2 0, 12, .inl (upd (rM1 i) i (-1)))), (q_6, .inl (G.2 0, 12, .inl (upd (rM1 i) i (-1)))), (q_7, .inl (G.2 0, 12, .inl (fun _ => 0))), (q_8, .inl (G.2 0, 288, .inl (fun _ => 0)))]) H := hP
          have hD : va_D A ([(h0, .inr (0, [.int (nI 0), .int (nI 0), .ref q_1, .ref q_2, .ref q_3, .ref q_4, .ref q_5, .ref q_6, .ref q_7, .ref q_8])), (q_1, .inl (G.2 0, 4, .inl (r25 4))), (q_2, .inl (G.2 0, 12, .inl (fun _ => 0))), (q_3, .inl (G.2 0, 12, .inl (fun _ => 0))), (q_4, .inl (G.2 0, 12, .inl (fun _ => 0))), (q_5, .inl (G.2 0, 12, .inl (upd (rM1 i) i (-1)))), (q_6, .inl (G.2 0, 12, .inl (upd (rM1 i) i (-1)))), (q_7, .inl (G.2 0, 12, .inl (fun _ => 0))), (q_8, .inl (G.2 0, 288, .inl (fun _ => 0)))]) := hD
          refine lv_iinc (v := nI (i + 1)) (lv' := [(1, .int (nI (i + 1))), (0, .ref h0)]) hx hb dX0_init_111 hl (k := 1) rfl (by exact nI_add _ _) (by decide) rfl (fun ls hl => ?_)
          refine lv_goto (tgt := 91) hx hb dX0_init_114 (by decide) ?_
          have hP : va_P G.1 vwCl ([(h0, .inr (0, [.int (nI 0), .int (nI 0), .ref q_1, .ref q_2, .ref q_3, .ref q_4, .ref q_5, .ref q_6, .ref q_7, .ref q_8])), (q_1, .inl (G.2 0, 4, .inl (r25 4))), (q_2, .inl (G.2 0, 12, .inl (fun _ => 0))), (q_3, .inl (G.2 0, 12, .inl (fun _ => 0))), (q_4, .inl (G.2 0, 12, .inl (fun _ => 0))), (q_5, .inl (G.2 0, 12, .inl (rM1 (i + 1)))), (q_6, .inl (G.2 0, 12, .inl (rM1 (i + 1)))), (q_7, .inl (G.2 0, 12, .inl (fun _ => 0))), (q_8, .inl (G.2 0, 288, .inl (fun _ => 0)))]) H := by have h9 := hP; rw [rM1_s i] at h9; exact h9
          have hD : va_D A ([(h0, .inr (0, [.int (nI 0), .int (nI 0), .ref q_1, .ref q_2, .ref q_3, .ref q_4, .ref q_5, .ref q_6, .ref q_7, .ref q_8])), (q_1, .inl (G.2 0, 4, .inl (r25 4))), (q_2, .inl (G.2 0, 12, .inl (fun _ => 0))), (q_3, .inl (G.2 0, 12, .inl (fun _ => 0))), (q_4, .inl (G.2 0, 12, .inl (fun _ => 0))), (q_5, .inl (G.2 0, 12, .inl (rM1 (i + 1)))), (q_6, .inl (G.2 0, 12, .inl (rM1 (i + 1)))), (q_7, .inl (G.2 0, 12, .inl (fun _ => 0))), (q_8, .inl (G.2 0, 288, .inl (fun _ => 0)))]) := by have h9 := hD; rw [rM1_s i] at h9; exact h9
          exact ih_12 () _ _ _ ⟨hP, hD, hS⟩ (lv_sub hl [1, 0] rfl)
    · exact absurd c_11 (by omega)
  · obtain ⟨hP, hD, hS⟩ := hI0
    have hl : lv_has ls 2 [(0, .ref h0), (1, .int (nI i))] := hl
    have hP : va_P G.1 vwCl ([(h0, .inr (0, [.int (nI 0), .int (nI 0), .ref q_1, .ref q_2, .ref q_3, .ref q_4, .ref q_5, .ref q_6, .ref q_7, .ref q_8])), (q_1, .inl (G.2 0, 4, .inl (r25 i))), (q_2, .inl (G.2 0, 12, .inl (fun _ => 0))), (q_3, .inl (G.2 0, 12, .inl (fun _ => 0))), (q_4, .inl (G.2 0, 12, .inl (fun _ => 0))), (q_5, .inl (G.2 0, 12, .inl (fun _ => 0))), (q_6, .inl (G.2 0, 12, .inl (fun _ => 0))), (q_7, .inl (G.2 0, 12, .inl (fun _ => 0))), (q_8, .inl (G.2 0, 288, .inl (fun _ => 0)))]) H := hP
    have hD : va_D A ([(h0, .inr (0, [.int (nI 0), .int (nI 0), .ref q_1, .ref q_2, .ref q_3, .ref q_4, .ref q_5, .ref q_6, .ref q_7, .ref q_8])), (q_1, .inl (G.2 0, 4, .inl (r25 i))), (q_2, .inl (G.2 0, 12, .inl (fun _ => 0))), (q_3, .inl (G.2 0, 12, .inl (fun _ => 0))), (q_4, .inl (G.2 0, 12, .inl (fun _ => 0))), (q_5, .inl (G.2 0, 12, .inl (fun _ => 0))), (q_6, .inl (G.2 0, 12, .inl (fun _ => 0))), (q_7, .inl (G.2 0, 12, .inl (fun _ => 0))), (q_8, .inl (G.2 0, 288, .inl (fun _ => 0)))]) := hD
    refine lv_iload_n hx hb dX0_init_70 rfl (lv_at hl 1 rfl) ?_
    refine lv_iconst (v := nI 4) hx hb dX0_init_71 (by decide) ?_
    refine n_icmp_ge (x := i) (y := 4) (tgt := 89) hx hb (by omega) (by omega) dX0_init_72 (by decide) (fun c_16 => ?_) (fun c_16 => ?_)
    · exact absurd c_16 (by omega)
    · refine lv_aload_n hx hb dX0_init_75 rfl (lv_at hl 0 rfl) ?_
      refine va_get (D := G.1) (ci := 0) (v := .ref q_1) (C := RX0) (T := TX0) (N := 10) hx hb hts (by decide +kernel) hown hK.1 hP 0 rfl rfl 2 (by decide) (hts (.fieldLink RX0 9 "PriceIndexCalculator$Basket" "weight" "[I") (by decide +kernel)) (fun _ h9 => h9) rfl dX0_init_76 ?_
      refine lv_iload_n hx hb dX0_init_79 rfl (lv_at hl 1 rfl) ?_
      refine lv_bipush (v := nI 25) hx hb dX0_init_80 (by decide) ?_
      refine n_iast hx hb hK.1 hP hD hS 1 0 rfl rfl (j := i) (by omega) (by omega) dX0_init_82 (fun H locs hP hD hS => ?_)
      have hP : va_P G.1 vwCl ([(h0, .inr (0, [.int (nI 0), .int (nI 0), .ref q_1, .ref q_2, .ref q_3, .ref q_4, .ref q_5, .ref q_6, .ref q_7, .ref q_8])), (q_1, .inl (G.2 0, 4, .inl (upd (r25 i) i (nI 25)))), (q_2, .inl (G.2 0, 12, .inl (fun _ => 0))), (q_3, .inl (G.2 0, 12, .inl (fun _ => 0))), (q_4, .inl (G.2 0, 12, .inl (fun _ => 0))), (q_5, .inl (G.2 0, 12, .inl (fun _ => 0))), (q_6, .inl (G.2 0, 12, .inl (fun _ => 0))), (q_7, .inl (G.2 0, 12, .inl (fun _ => 0))), (q_8, .inl (G.2 0, 288, .inl (fun _ => 0)))]) H := hP
      have hD : va_D A ([(h0, .inr (0, [.int (nI 0), .int (nI 0), .ref q_1, .ref q_2, .ref q_3, .ref q_4, .ref q_5, .ref q_6, .ref q_7, .ref q_8])), (q_1, .inl (G.2 0, 4, .inl (upd (r25 i) i (nI 25)))), (q_2, .inl (G.2 0, 12, .inl (fun _ => 0))), (q_3, .inl (G.2 0, 12, .inl (fun _ => 0))), (q_4, .inl (G.2 0, 12, .inl (fun _ => 0))), (q_5, .inl (G.2 0, 12, .inl (fun _ => 0))), (q_6, .inl (G.2 0, 12, .inl (fun _ => 0))), (q_7, .inl (G.2 0, 12, .inl (fun _ => 0))), (q_8, .inl (G.2 0, 288, .inl (fun _ => 0)))]) := hD
      refine lv_iinc (v := nI (i + 1)) (lv' := [(1, .int (nI (i + 1))), (0, .ref h0)]) hx hb dX0_init_83 hl (k := 1) rfl (by exact nI_add _ _) (by decide) rfl (fun ls hl => ?_)
      refine lv_goto (tgt := 70) hx hb dX0_init_86 (by decide) ?_
      have hP : va_P G.1 vwCl ([(h0, .inr (0, [.int (nI 0), .int (nI 0), .ref q_1, .ref q_2, .ref q_3, .ref q_4, .ref q_5, .ref q_6, .ref q_7, .ref q_8])), (q_1, .inl (G.2 0, 4, .inl (r25 (i + 1)))), (q_2, .inl (G.2 0, 12, .inl (fun _ => 0))), (q_3, .inl (G.2 0, 12, .inl (fun _ => 0))), (q_4, .inl (G.2 0, 12, .inl (fun _ => 0))), (q_5, .inl (G.2 0, 12, .inl (fun _ => 0))), (q_6, .inl (G.2 0, 12, .inl (fun _ => 0))), (q_7, .inl (G.2 0, 12, .inl (fun _ => 0))), (q_8, .inl (G.2 0, 288, .inl (fun _ => 0)))]) H := by have h9 := hP; rw [r25_s i] at h9; exact h9
      have hD : va_D A ([(h0, .inr (0, [.int (nI 0), .int (nI 0), .ref q_1, .ref q_2, .ref q_3, .ref q_4, .ref q_5, .ref q_6, .ref q_7, .ref q_8])), (q_1, .inl (G.2 0, 4, .inl (r25 (i + 1)))), (q_2, .inl (G.2 0, 12, .inl (fun _ => 0))), (q_3, .inl (G.2 0, 12, .inl (fun _ => 0))), (q_4, .inl (G.2 0, 12, .inl (fun _ => 0))), (q_5, .inl (G.2 0, 12, .inl (fun _ => 0))), (q_6, .inl (G.2 0, 12, .inl (fun _ => 0))), (q_7, .inl (G.2 0, 12, .inl (fun _ => 0))), (q_8, .inl (G.2 0, 288, .inl (fun _ => 0)))]) := by have h9 := hD; rw [r25_s i] at h9; exact h9
      exact ih_9 () _ _ _ ⟨hP, hD, hS⟩ (lv_sub hl [1, 0] rfl)

set_option maxHeartbeats 4000000 in
set_option maxRecDepth 100000 in
/-- a new text -/
theorem metX4_init (l : Launch) (G : GG) (h0 : Nat) (sz : Nat) : Met l yX4_init wsX4_init ({ frames := 1, cells := 4, slots := 90, locals := 30 }) (pI G sz ([(h0, .inr (4, [.null, .null, .null, .int (nI 0), .null, .int (nI 0)]))]) [.ref h0]) (va_Qv (fun (u : Nat → Nat) => u 0 = h0) (bC G (va_A ([(h0, .inr (4, [.null, .null, .null, .int (nI 0), .null, .int (nI 0)]))]) sz) (fun (u : Nat → Nat) => xtc G u 0 0 (fun _ => 0) (fun _ => 0) (fun _ => 0) (fun _ => 0))) (va_A ([(h0, .inr (4, [.null, .null, .null, .int (nI 0), .null, .int (nI 0)]))]) sz)) 4 90 (va_A ([(h0, .inr (4, [.null, .null, .null, .int (nI 0), .null, .int (nI 0)]))]) sz) := by
  refine Met.ofW (cc := cX4_init) (maxL := 1) (ret := none) (by decide) rfl ?_
  intro p e s m args below meth c s₁ B hml hv
  obtain ⟨rfl, hsz, hK, hO, hP, hD0⟩ := hv
  have hx := B.exec
  have hb := B.bytes
  have hr := B.returns
  have hlocks := B.notSynchronized
  have hts := atoms_spec (ws := wsX4_init) B.pre
  have hown : s.vm.findClass RX4 = some m.cls := findClass_of_methodNamed B.named
  have hin : meth.name = "<init>" := (name_of_methodNamed B.named B.method).1
  subst hsz
  have hD := hD0.self (sz := s.heap.size)
  generalize hAe : va_A ([(h0, .inr (4, [.null, .null, .null, .int (nI 0), .null, .int (nI 0)]))]) s.heap.size = A at hD ⊢
  have hA : ∀ q : Nat, s.heap.size ≤ q → A q := fun q h => by rw [← hAe]; exact Or.inr h
  have hS : va_S A s.heap s.heap [] := va_S.rf
  have hl := lv_entry ([.ref h0]) (n := 1) (Nat.le_of_ble_eq_true rfl)
  rw [lg_entry_eq]
  generalize (lg_sl ([.ref h0]) ++ List.replicate (1 - (lg_sl ([.ref h0])).length) Slot.unset).toArray = ls at hl ⊢
  have hl : lv_has ls 1 [(0, .ref h0)] := hl
  refine lv_aload_n hx hb dX4_init_0 rfl (lv_at hl 0 rfl) ?_
  refine W.objInit hx hb hown (hts (.methodLink RX4 3 objectInit) (by decide +kernel)) (hts (.instanceMethod objectInit) (by decide +kernel)) (hts (.code objectInit ⟨#[0xb1]⟩ 1 none) (by decide +kernel)) rfl (by rw [hml]; exact hl.1) rfl dX4_init_1 (Nat.le_of_ble_eq_true rfl) (Nat.le_of_ble_eq_true rfl) ?_
  refine W.eq (g2 := F0 m 4 ls []) rfl ?_
  refine lv_aload_n hx hb dX4_init_4 rfl (lv_at hl 0 rfl) ?_
  refine lv_bipush (v := nI 10) hx hb dX4_init_5 (by decide) ?_
  refine nw_a (atype := .int) (ty := .int) (n := 10) (a0 := (10, .inl (fun _ => 0))) hx hb (hts (.arrayClass .int) (by decide +kernel)) rfl hK.1 0 rfl (fun _ _ => RA_i) hP hD hS hA (fun _ => rfl) (by omega) (Nat.le_of_ble_eq_true rfl) (Nat.le_of_ble_eq_true rfl) (Nat.le_of_ble_eq_true rfl) dX4_init_7 (fun q_1 H hP hD hS => ?_)
  have hP : va_P G.1 vwCl ([(h0, .inr (4, [.null, .null, .null, .int (nI 0), .null, .int (nI 0)])), (q_1, .inl (G.2 0, 10, .inl (fun _ => 0)))]) H := hP
  have hD : va_D A ([(h0, .inr (4, [.null, .null, .null, .int (nI 0), .null, .int (nI 0)])), (q_1, .inl (G.2 0, 10, .inl (fun _ => 0)))]) := hD
  refine W.widen (k := 1) (n := 10) (Nat.le_of_ble_eq_true rfl) (Nat.le_of_ble_eq_true rfl) ?_
  refine va_putF (D := G.1) (ci := 4) (v := .ref q_1) (ty := tyX4 0) (C := RX4) (T := TX4) (N := 6) hx hb hts (by decide +kernel) tyX4 tyX4_ok nmX4 hown hK.1 hP hD hS 0 rfl rfl 0 (by decide) (hts (.fieldLink RX4 9 "PriceIndexCalculator$QuotationText" "item" "[I") (by decide +kernel)) (fun _ h9 => h9) rfl hin rfl (by decide +kernel) rfl rfl (Nat.le_of_ble_eq_true rfl) dX4_init_9 (fun H locs hP hD hS => ?_)
  have hP : va_P G.1 vwCl ([(h0, .inr (4, [.ref q_1, .null, .null, .int (nI 0), .null, .int (nI 0)])), (q_1, .inl (G.2 0, 10, .inl (fun _ => 0)))]) H := hP
  have hD : va_D A ([(h0, .inr (4, [.ref q_1, .null, .null, .int (nI 0), .null, .int (nI 0)])), (q_1, .inl (G.2 0, 10, .inl (fun _ => 0)))]) := hD
  refine lv_aload_n hx hb dX4_init_12 rfl (lv_at hl 0 rfl) ?_
  refine lv_bipush (v := nI 10) hx hb dX4_init_13 (by decide) ?_
  refine nw_a (atype := .int) (ty := .int) (n := 10) (a0 := (10, .inl (fun _ => 0))) hx hb (hts (.arrayClass .int) (by decide +kernel)) rfl hK.1 0 rfl (fun _ _ => RA_i) hP hD hS hA (fun _ => rfl) (by omega) (Nat.le_of_ble_eq_true rfl) (Nat.le_of_ble_eq_true rfl) (Nat.le_of_ble_eq_true rfl) dX4_init_15 (fun q_2 H hP hD hS => ?_)
  have hP : va_P G.1 vwCl ([(h0, .inr (4, [.ref q_1, .null, .null, .int (nI 0), .null, .int (nI 0)])), (q_1, .inl (G.2 0, 10, .inl (fun _ => 0))), (q_2, .inl (G.2 0, 10, .inl (fun _ => 0)))]) H := hP
  have hD : va_D A ([(h0, .inr (4, [.ref q_1, .null, .null, .int (nI 0), .null, .int (nI 0)])), (q_1, .inl (G.2 0, 10, .inl (fun _ => 0))), (q_2, .inl (G.2 0, 10, .inl (fun _ => 0)))]) := hD
  refine W.widen (k := 2) (n := 20) (Nat.le_of_ble_eq_true rfl) (Nat.le_of_ble_eq_true rfl) ?_
  refine va_putF (D := G.1) (ci := 4) (v := .ref q_2) (ty := tyX4 1) (C := RX4) (T := TX4) (N := 6) hx hb hts (by decide +kernel) tyX4 tyX4_ok nmX4 hown hK.1 hP hD hS 0 rfl rfl 1 (by decide) (hts (.fieldLink RX4 15 "PriceIndexCalculator$QuotationText" "month" "[I") (by decide +kernel)) (fun _ h9 => h9) rfl hin rfl (by decide +kernel) rfl rfl (Nat.le_of_ble_eq_true rfl) dX4_init_17 (fun H locs hP hD hS => ?_)
  have hP : va_P G.1 vwCl ([(h0, .inr (4, [.ref q_1, .ref q_2, .null, .int (nI 0), .null, .int (nI 0)])), (q_1, .inl (G.2 0, 10, .inl (fun _ => 0))), (q_2, .inl (G.2 0, 10, .inl (fun _ => 0)))]) H := hP
  have hD : va_D A ([(h0, .inr (4, [.ref q_1, .ref q_2, .null, .int (nI 0), .null, .int (nI 0)])), (q_1, .inl (G.2 0, 10, .inl (fun _ => 0))), (q_2, .inl (G.2 0, 10, .inl (fun _ => 0)))]) := hD
  refine lv_aload_n hx hb dX4_init_20 rfl (lv_at hl 0 rfl) ?_
  refine lv_bipush (v := nI 10) hx hb dX4_init_21 (by decide) ?_
  refine nw_a (atype := .int) (ty := .int) (n := 10) (a0 := (10, .inl (fun _ => 0))) hx hb (hts (.arrayClass .int) (by decide +kernel)) rfl hK.1 0 rfl (fun _ _ => RA_i) hP hD hS hA (fun _ => rfl) (by omega) (Nat.le_of_ble_eq_true rfl) (Nat.le_of_ble_eq_true rfl) (Nat.le_of_ble_eq_true rfl) dX4_init_23 (fun q_3 H hP hD hS => ?_)
  have hP : va_P G.1 vwCl ([(h0, .inr (4, [.ref q_1, .ref q_2, .null, .int (nI 0), .null, .int (nI 0)])), (q_1, .inl (G.2 0, 10, .inl (fun _ => 0))), (q_2, .inl (G.2 0, 10, .inl (fun _ => 0))), (q_3, .inl (G.2 0, 10, .inl (fun _ => 0)))]) H := hP
  have hD : va_D A ([(h0, .inr (4, [.ref q_1, .ref q_2, .null, .int (nI 0), .null, .int (nI 0)])), (q_1, .inl (G.2 0, 10, .inl (fun _ => 0))), (q_2, .inl (G.2 0, 10, .inl (fun _ => 0))), (q_3, .inl (G.2 0, 10, .inl (fun _ => 0)))]) := hD
  refine W.widen (k := 3) (n := 30) (Nat.le_of_ble_eq_true rfl) (Nat.le_of_ble_eq_true rfl) ?_
  refine va_putF (D := G.1) (ci := 4) (v := .ref q_3) (ty := tyX4 2) (C := RX4) (T := TX4) (N := 6) hx hb hts (by decide +kernel) tyX4 tyX4_ok nmX4 hown hK.1 hP hD hS 0 rfl rfl 2 (by decide) (hts (.fieldLink RX4 18 "PriceIndexCalculator$QuotationText" "price" "[I") (by decide +kernel)) (fun _ h9 => h9) rfl hin rfl (by decide +kernel) rfl rfl (Nat.le_of_ble_eq_true rfl) dX4_init_25 (fun H locs hP hD hS => ?_)
  have hP : va_P G.1 vwCl ([(h0, .inr (4, [.ref q_1, .ref q_2, .ref q_3, .int (nI 0), .null, .int (nI 0)])), (q_1, .inl (G.2 0, 10, .inl (fun _ => 0))), (q_2, .inl (G.2 0, 10, .inl (fun _ => 0))), (q_3, .inl (G.2 0, 10, .inl (fun _ => 0)))]) H := hP
  have hD : va_D A ([(h0, .inr (4, [.ref q_1, .ref q_2, .ref q_3, .int (nI 0), .null, .int (nI 0)])), (q_1, .inl (G.2 0, 10, .inl (fun _ => 0))), (q_2, .inl (G.2 0, 10, .inl (fun _ => 0))), (q_3, .inl (G.2 0, 10, .inl (fun _ => 0)))]) := hD
  refine lv_aload_n hx hb dX4_init_28 rfl (lv_at hl 0 rfl) ?_
  refine lv_bipush (v := nI 60) hx hb dX4_init_29 (by decide) ?_
  refine nw_a (atype := .int) (ty := .int) (n := 60) (a0 := (60, .inl (fun _ => 0))) hx hb (hts (.arrayClass .int) (by decide +kernel)) rfl hK.1 0 rfl (fun _ _ => RA_i) hP hD hS hA (fun _ => rfl) (by omega) (Nat.le_of_ble_eq_true rfl) (Nat.le_of_ble_eq_true rfl) (Nat.le_of_ble_eq_true rfl) dX4_init_31 (fun q_4 H hP hD hS => ?_)
  have hP : va_P G.1 vwCl ([(h0, .inr (4, [.ref q_1, .ref q_2, .ref q_3, .int (nI 0), .null, .int (nI 0)])), (q_1, .inl (G.2 0, 10, .inl (fun _ => 0))), (q_2, .inl (G.2 0, 10, .inl (fun _ => 0))), (q_3, .inl (G.2 0, 10, .inl (fun _ => 0))), (q_4, .inl (G.2 0, 60, .inl (fun _ => 0)))]) H := hP
  have hD : va_D A ([(h0, .inr (4, [.ref q_1, .ref q_2, .ref q_3, .int (nI 0), .null, .int (nI 0)])), (q_1, .inl (G.2 0, 10, .inl (fun _ => 0))), (q_2, .inl (G.2 0, 10, .inl (fun _ => 0))), (q_3, .inl (G.2 0, 10, .inl (fun _ => 0))), (q_4, .inl (G.2 0, 60, .inl (fun _ => 0)))]) := hD
  refine W.widen (k := 4) (n := 90) (Nat.le_of_ble_eq_true rfl) (Nat.le_of_ble_eq_true rfl) ?_
  refine va_putF (D := G.1) (ci := 4) (v := .ref q_4) (ty := tyX4 4) (C := RX4) (T := TX4) (N := 6) hx hb hts (by decide +kernel) tyX4 tyX4_ok nmX4 hown hK.1 hP hD hS 0 rfl rfl 4 (by decide) (hts (.fieldLink RX4 21 "PriceIndexCalculator$QuotationText" "characters" "[I") (by decide +kernel)) (fun _ h9 => h9) rfl hin rfl (by decide +kernel) rfl rfl (Nat.le_of_ble_eq_true rfl) dX4_init_33 (fun H locs hP hD hS => ?_)
  have hP : va_P G.1 vwCl ([(h0, .inr (4, [.ref q_1, .ref q_2, .ref q_3, .int (nI 0), .ref q_4, .int (nI 0)])), (q_1, .inl (G.2 0, 10, .inl (fun _ => 0))), (q_2, .inl (G.2 0, 10, .inl (fun _ => 0))), (q_3, .inl (G.2 0, 10, .inl (fun _ => 0))), (q_4, .inl (G.2 0, 60, .inl (fun _ => 0)))]) H := hP
  have hD : va_D A ([(h0, .inr (4, [.ref q_1, .ref q_2, .ref q_3, .int (nI 0), .ref q_4, .int (nI 0)])), (q_1, .inl (G.2 0, 10, .inl (fun _ => 0))), (q_2, .inl (G.2 0, 10, .inl (fun _ => 0))), (q_3, .inl (G.2 0, 10, .inl (fun _ => 0))), (q_4, .inl (G.2 0, 60, .inl (fun _ => 0)))]) := hD
  have hP9 : va_P G.1 vwCl (xtc G (fun k => match k with | 0 => h0 | 1 => q_1 | 2 => q_2 | 3 => q_3 | _ => q_4) 0 0 (fun _ => 0) (fun _ => 0) (fun _ => 0) (fun _ => 0)) H := hP
  have hD9 : va_D A (xtc G (fun k => match k with | 0 => h0 | 1 => q_1 | 2 => q_2 | 3 => q_3 | _ => q_4) 0 0 (fun _ => 0) (fun _ => 0) (fun _ => 0) (fun _ => 0)) := hD
  exact W.vret hx hb hr (fun t ht hW => ⟨⟨(fun k => match k with | 0 => h0 | 1 => q_1 | 2 => q_2 | 3 => q_3 | _ => q_4), rfl, rfl, by rw [ht]; exact hP9, hD9⟩, hS.F ht⟩) hS.2.2 dX4_init_36

set_option maxHeartbeats 4000000 in
set_option maxRecDepth 100000 in
/-- new rows of prices -/
theorem metX2_init (l : Launch) (G : GG) (h0 k0 : Nat) (sz : Nat) : Met l yX2_init wsX2_init ({ frames := 1, cells := 2, slots := 576, locals := 30 }) (pI G sz ([(h0, .inr (2, [.null, .null, .null]))]) [.ref h0, .ref k0]) (va_Qv (fun (u : Nat → Nat) => u 0 = h0) (bC G (va_A ([(h0, .inr (2, [.null, .null, .null]))]) sz) (fun (u : Nat → Nat) => rcells G u k0 (fun _ => false) (fun _ => 0))) (va_A ([(h0, .inr (2, [.null, .null, .null]))]) sz)) 2 576 (va_A ([(h0, .inr (2, [.null, .null, .null]))]) sz) := by
  refine Met.ofW (cc := cX2_init) (maxL := 2) (ret := none) (by decide) rfl ?_
  intro p e s m args below meth c s₁ B hml hv
  obtain ⟨rfl, hsz, hK, hO, hP, hD0⟩ := hv
  have hx := B.exec
  have hb := B.bytes
  have hr := B.returns
  have hlocks := B.notSynchronized
  have hts := atoms_spec (ws := wsX2_init) B.pre
  have hown : s.vm.findClass RX2 = some m.cls := findClass_of_methodNamed B.named
  have hin : meth.name = "<init>" := (name_of_methodNamed B.named B.method).1
  subst hsz
  have hD := hD0.self (sz := s.heap.size)
  generalize hAe : va_A ([(h0, .inr (2, [.null, .null, .null]))]) s.heap.size = A at hD ⊢
  have hA : ∀ q : Nat, s.heap.size ≤ q → A q := fun q h => by rw [← hAe]; exact Or.inr h
  have hS : va_S A s.heap s.heap [] := va_S.rf
  have hl := lv_entry ([.ref h0, .ref k0]) (n := 2) (Nat.le_of_ble_eq_true rfl)
  rw [lg_entry_eq]
  generalize (lg_sl ([.ref h0, .ref k0]) ++ List.replicate (2 - (lg_sl ([.ref h0, .ref k0])).length) Slot.unset).toArray = ls at hl ⊢
  have hl : lv_has ls 2 [(0, .ref h0), (1, .ref k0)] := hl
  refine lv_aload_n hx hb dX2_init_0 rfl (lv_at hl 0 rfl) ?_
  refine W.objInit hx hb hown (hts (.methodLink RX2 3 objectInit) (by decide +kernel)) (hts (.instanceMethod objectInit) (by decide +kernel)) (hts (.code objectInit ⟨#[0xb1]⟩ 1 none) (by decide +kernel)) rfl (by rw [hml]; exact hl.1) rfl dX2_init_1 (Nat.le_of_ble_eq_true rfl) (Nat.le_of_ble_eq_true rfl) ?_
  refine W.eq (g2 := F0 m 4 ls []) rfl ?_
  refine lv_aload_n hx hb dX2_init_4 rfl (lv_at hl 0 rfl) ?_
  refine lv_sipush (v := nI 288) hx hb dX2_init_5 (by decide) ?_
  refine nw_a (atype := .boolean) (ty := .boolean) (n := 288) (a0 := (288, .inl (fun _ => 0))) hx hb (hts (.arrayClass .boolean) (by decide +kernel)) rfl hK.1 1 rfl (fun _ _ => RA_z) hP hD hS hA (fun _ => rfl) (by omega) (Nat.le_of_ble_eq_true rfl) (Nat.le_of_ble_eq_true rfl) (Nat.le_of_ble_eq_true rfl) dX2_init_8 (fun q_1 H hP hD hS => ?_)
  have hP : va_P G.1 vwCl ([(h0, .inr (2, [.null, .null, .null])), (q_1, .inl (G.2 1, 288, .inl (fun _ => 0)))]) H := hP
  have hD : va_D A ([(h0, .inr (2, [.null, .null, .null])), (q_1, .inl (G.2 1, 288, .inl (fun _ => 0)))]) := hD
  refine W.widen (k := 1) (n := 288) (Nat.le_of_ble_eq_true rfl) (Nat.le_of_ble_eq_true rfl) ?_
  refine va_putF (D := G.1) (ci := 2) (v := .ref q_1) (ty := tyX2 1) (C := RX2) (T := TX2) (N := 3) hx hb hts (by decide +kernel) tyX2 tyX2_ok nmX2 hown hK.1 hP hD hS 0 rfl rfl 1 (by decide) (hts (.fieldLink RX2 9 "PriceIndexCalculator$PriceRows" "exists" "[Z") (by decide +kernel)) (fun _ h9 => h9) rfl hin rfl (by decide +kernel) rfl rfl (Nat.le_of_ble_eq_true rfl) dX2_init_10 (fun H locs hP hD hS => ?_)
  have hP : va_P G.1 vwCl ([(h0, .inr (2, [.null, .ref q_1, .null])), (q_1, .inl (G.2 1, 288, .inl (fun _ => 0)))]) H := hP
  have hD : va_D A ([(h0, .inr (2, [.null, .ref q_1, .null])), (q_1, .inl (G.2 1, 288, .inl (fun _ => 0)))]) := hD
  refine lv_aload_n hx hb dX2_init_13 rfl (lv_at hl 0 rfl) ?_
  refine lv_sipush (v := nI 288) hx hb dX2_init_14 (by decide) ?_
  refine nw_a (atype := .float) (ty := .float) (n := 288) (a0 := (288, .inr (.inr (.inl (fun _ => 0))))) hx hb (hts (.arrayClass .float) (by decide +kernel)) rfl hK.1 2 rfl (fun _ _ => RA_f) hP hD hS hA (fun _ => rfl) (by omega) (Nat.le_of_ble_eq_true rfl) (Nat.le_of_ble_eq_true rfl) (Nat.le_of_ble_eq_true rfl) dX2_init_17 (fun q_2 H hP hD hS => ?_)
  have hP : va_P G.1 vwCl ([(h0, .inr (2, [.null, .ref q_1, .null])), (q_1, .inl (G.2 1, 288, .inl (fun _ => 0))), (q_2, .inl (G.2 2, 288, .inr (.inr (.inl (fun _ => 0)))))]) H := hP
  have hD : va_D A ([(h0, .inr (2, [.null, .ref q_1, .null])), (q_1, .inl (G.2 1, 288, .inl (fun _ => 0))), (q_2, .inl (G.2 2, 288, .inr (.inr (.inl (fun _ => 0)))))]) := hD
  refine W.widen (k := 2) (n := 576) (Nat.le_of_ble_eq_true rfl) (Nat.le_of_ble_eq_true rfl) ?_
  refine va_putF (D := G.1) (ci := 2) (v := .ref q_2) (ty := tyX2 2) (C := RX2) (T := TX2) (N := 3) hx hb hts (by decide +kernel) tyX2 tyX2_ok nmX2 hown hK.1 hP hD hS 0 rfl rfl 2 (by decide) (hts (.fieldLink RX2 15 "PriceIndexCalculator$PriceRows" "price" "[F") (by decide +kernel)) (fun _ h9 => h9) rfl hin rfl (by decide +kernel) rfl rfl (Nat.le_of_ble_eq_true rfl) dX2_init_19 (fun H locs hP hD hS => ?_)
  have hP : va_P G.1 vwCl ([(h0, .inr (2, [.null, .ref q_1, .ref q_2])), (q_1, .inl (G.2 1, 288, .inl (fun _ => 0))), (q_2, .inl (G.2 2, 288, .inr (.inr (.inl (fun _ => 0)))))]) H := hP
  have hD : va_D A ([(h0, .inr (2, [.null, .ref q_1, .ref q_2])), (q_1, .inl (G.2 1, 288, .inl (fun _ => 0))), (q_2, .inl (G.2 2, 288, .inr (.inr (.inl (fun _ => 0)))))]) := hD
  refine lv_aload_n hx hb dX2_init_22 rfl (lv_at hl 0 rfl) ?_
  refine lv_aload_n hx hb dX2_init_23 rfl (lv_at hl 1 rfl) ?_
  refine va_putF (D := G.1) (ci := 2) (v := .ref k0) (ty := tyX2 0) (C := RX2) (T := TX2) (N := 3) hx hb hts (by decide +kernel) tyX2 tyX2_ok nmX2 hown hK.1 hP hD hS 0 rfl rfl 0 (by decide) (hts (.fieldLink RX2 19 "PriceIndexCalculator$PriceRows" "basket" "LPriceIndexCalculator$Basket;") (by decide +kernel)) (fun _ h9 => h9) rfl hin rfl (by decide +kernel) rfl rfl (Nat.le_of_ble_eq_true rfl) dX2_init_24 (fun H locs hP hD hS => ?_)
  have hP : va_P G.1 vwCl ([(h0, .inr (2, [.ref k0, .ref q_1, .ref q_2])), (q_1, .inl (G.2 1, 288, .inl (fun _ => 0))), (q_2, .inl (G.2 2, 288, .inr (.inr (.inl (fun _ => 0)))))]) H := hP
  have hD : va_D A ([(h0, .inr (2, [.ref k0, .ref q_1, .ref q_2])), (q_1, .inl (G.2 1, 288, .inl (fun _ => 0))), (q_2, .inl (G.2 2, 288, .inr (.inr (.inl (fun _ => 0)))))]) := hD
  have hP9 : va_P G.1 vwCl (rcells G (fun k => match k with | 0 => h0 | 1 => q_1 | _ => q_2) k0 (fun _ => false) (fun _ => 0)) H := hP
  have hD9 : va_D A (rcells G (fun k => match k with | 0 => h0 | 1 => q_1 | _ => q_2) k0 (fun _ => false) (fun _ => 0)) := hD
  exact W.vret hx hb hr (fun t ht hW => ⟨⟨(fun k => match k with | 0 => h0 | 1 => q_1 | _ => q_2), rfl, rfl, by rw [ht]; exact hP9, hD9⟩, hS.F ht⟩) hS.2.2 dX2_init_27

set_option maxHeartbeats 4000000 in
set_option maxRecDepth 100000 in
/-- a new table -/
theorem metX3_init (l : Launch) (G : GG) (h0 k0 : Nat) (sz : Nat) : Met l yX3_init wsX3_init ({ frames := 2, cells := 6, slots := 1158, locals := 60 }) (pI G sz ([(h0, .inr (3, [.null, .null, .null, .int (bI false)]))]) [.ref h0, .ref k0]) (va_Qv (fun (u : (Nat → Nat) × (Nat → Nat)) => True) (bC G (va_A ([(h0, .inr (3, [.null, .null, .null, .int (bI false)]))]) sz) (fun (u : (Nat → Nat) × (Nat → Nat)) => [(h0, .inr (3, [.ref (u.1 0), .ref (u.2 0), .ref k0, .int (bI false)])), (u.1 0, .inr (2, [.ref k0, .ref (u.1 1), .ref (u.1 2)])), (u.1 1, .inl (G.2 1, 288, .inl (fun j => bI ((fun _ => false) j)))), (u.1 2, .inl (G.2 2, 288, .inr (.inr (.inl (fun _ => 0))))), (u.2 0, .inr (2, [.ref k0, .ref (u.2 1), .ref (u.2 2)])), (u.2 1, .inl (G.2 1, 288, .inl (fun j => bI ((fun _ => false) j)))), (u.2 2, .inl (G.2 2, 288, .inr (.inr (.inl (fun _ => 0)))))])) (va_A ([(h0, .inr (3, [.null, .null, .null, .int (bI false)]))]) sz)) 6 1158 (va_A ([(h0, .inr (3, [.null, .null, .null, .int (bI false)]))]) sz) := by
  refine Met.ofW (cc := cX3_init) (maxL := 2) (ret := none) (by decide) rfl ?_
  intro p e s m args below meth c s₁ B hml hv
  obtain ⟨rfl, hsz, hK, hO, hP, hD0⟩ := hv
  have hx := B.exec
  have hb := B.bytes
  have hr := B.returns
  have hlocks := B.notSynchronized
  have hts := atoms_spec (ws := wsX3_init) B.pre
  have hown : s.vm.findClass RX3 = some m.cls := findClass_of_methodNamed B.named
  have hin : meth.name = "<init>" := (name_of_methodNamed B.named B.method).1
  subst hsz
  have hD := hD0.self (sz := s.heap.size)
  generalize hAe : va_A ([(h0, .inr (3, [.null, .null, .null, .int (bI false)]))]) s.heap.size = A at hD ⊢
  have hA : ∀ q : Nat, s.heap.size ≤ q → A q := fun q h => by rw [← hAe]; exact Or.inr h
  have hS : va_S A s.heap s.heap [] := va_S.rf
  have hl := lv_entry ([.ref h0, .ref k0]) (n := 2) (Nat.le_of_ble_eq_true rfl)
  rw [lg_entry_eq]
  generalize (lg_sl ([.ref h0, .ref k0]) ++ List.replicate (2 - (lg_sl ([.ref h0, .ref k0])).length) Slot.unset).toArray = ls at hl ⊢
  have hl : lv_has ls 2 [(0, .ref h0), (1, .ref k0)] := hl
  refine lv_aload_n hx hb dX3_init_0 rfl (lv_at hl 0 rfl) ?_
  refine W.objInit hx hb hown (hts (.methodLink RX3 3 objectInit) (by decide +kernel)) (hts (.instanceMethod objectInit) (by decide +kernel)) (hts (.code objectInit ⟨#[0xb1]⟩ 1 none) (by decide +kernel)) rfl (by rw [hml]; exact hl.1) rfl dX3_init_1 (Nat.le_of_ble_eq_true rfl) (Nat.le_of_ble_eq_true rfl) ?_
  refine W.eq (g2 := F0 m 4 ls []) rfl ?_
  refine lv_aload_n hx hb dX3_init_4 rfl (lv_at hl 0 rfl) ?_
  refine lv_aload_n hx hb dX3_init_5 rfl (lv_at hl 1 rfl) ?_
  refine va_putF (D := G.1) (ci := 3) (v := .ref k0) (ty := tyX3 2) (C := RX3) (T := TX3) (N := 4) hx hb hts (by decide +kernel) tyX3 tyX3_ok nmX3 hown hK.1 hP hD hS 0 rfl rfl 2 (by decide) (hts (.fieldLink RX3 9 "PriceIndexCalculator$PriceTable" "basket" "LPriceIndexCalculator$Basket;") (by decide +kernel)) (fun _ h9 => h9) rfl hin rfl (by decide +kernel) rfl rfl (Nat.le_of_ble_eq_true rfl) dX3_init_6 (fun H locs hP hD hS => ?_)
  have hP : va_P G.1 vwCl ([(h0, .inr (3, [.null, .null, .ref k0, .int (bI false)]))]) H := hP
  have hD : va_D A ([(h0, .inr (3, [.null, .null, .ref k0, .int (bI false)]))]) := hD
  refine lv_aload_n hx hb dX3_init_9 rfl (lv_at hl 0 rfl) ?_
  refine va_new (D := G.1) (ci := 2) (fs := [.null, .null, .null]) (C := RX2) (T := TX2) (N := 3) hx hb hts (by decide +kernel) tyX2 tyX2_ok hown (hts (.classLink RX3 15 RX2) (by decide +kernel)) (hts (.instantiable RX2 3) (by decide +kernel)) (hts (.initialized RX2) (by decide +kernel)) hK.1 hP hD hS hA rfl (by decide +kernel) (Nat.le_of_ble_eq_true rfl) (Nat.le_of_ble_eq_true rfl) dX3_init_10 (fun q_1 H hP hD hS => ?_)
  have hP : va_P G.1 vwCl ([(h0, .inr (3, [.null, .null, .ref k0, .int (bI false)])), (q_1, .inr (2, [.null, .null, .null]))]) H := hP
  have hD : va_D A ([(h0, .inr (3, [.null, .null, .ref k0, .int (bI false)])), (q_1, .inr (2, [.null, .null, .null]))]) := hD
  refine W.widen (k := 1) (n := 3) (Nat.le_of_ble_eq_true rfl) (Nat.le_of_ble_eq_true rfl) ?_
  refine lv_dup hx hb dX3_init_13 rfl ?_
  refine lv_aload_n hx hb dX3_init_14 rfl (lv_at hl 1 rfl) ?_
  have hPq := hP
  have hDq := hD
  have hP : va_P G.1 vwCl (([(h0, .inr (3, [.null, .null, .ref k0, .int (bI false)]))]) ++ [(q_1, .inr (2, [.null, .null, .null]))]) H := hPq
  have hD : va_D A (([(h0, .inr (3, [.null, .null, .ref k0, .int (bI false)]))]) ++ [(q_1, .inr (2, [.null, .null, .null]))]) := hDq
  refine cc_v (G := G) (wr := [(h0, .inr (3, [.null, .null, .ref k0, .int (bI false)]))]) (wc := [(q_1, .inr (2, [.null, .null, .null]))]) (va_runI (As := [.ref k0]) (rest := [.ref q_1, .ref h0]) ⟨hx, hb, hml, hown, hts⟩ (metX2_init l G q_1 k0 H.size) (cwI 1 hts gX3_init_X2_init rfl rfl rfl (hts (.initialized RX2) (by decide +kernel)) (hts (.methodLink RX3 17 yX2_init) (by decide +kernel)) (hts (.instanceMethod yX2_init) (by decide +kernel)) rfl (by decide +kernel) ⟨Nat.le_of_ble_eq_true rfl, Nat.le_of_ble_eq_true rfl⟩) (pI_S hK hO (P_right hP) (D_right hD)) rfl rfl hl.1 rfl (lv_room (Nat.le_of_ble_eq_true rfl)) dX3_init_15 ⟨Nat.le_of_ble_eq_true rfl, Nat.le_of_ble_eq_true rfl⟩) hP hD hS hA (fun u H locs hw hP hD hS => ?_)
  obtain ⟨ea_2, rfl⟩ : ∃ z, z = u := ⟨_, rfl⟩
  have hq9 : ea_2 0 = q_1 := hw
  have hP : va_P G.1 vwCl ([(h0, .inr (3, [.null, .null, .ref k0, .int (bI false)])), (ea_2 0, .inr (2, [.ref k0, .ref (ea_2 1), .ref (ea_2 2)])), (ea_2 1, .inl (G.2 1, 288, .inl (fun j => bI ((fun _ => false) j)))), (ea_2 2, .inl (G.2 2, 288, .inr (.inr (.inl (fun _ => 0)))))]) H := hP
  have hD : va_D A ([(h0, .inr (3, [.null, .null, .ref k0, .int (bI false)])), (ea_2 0, .inr (2, [.ref k0, .ref (ea_2 1), .ref (ea_2 2)])), (ea_2 1, .inl (G.2 1, 288, .inl (fun j => bI ((fun _ => false) j)))), (ea_2 2, .inl (G.2 2, 288, .inr (.inr (.inl (fun _ => 0)))))]) := hD
  rw [← hq9]
  refine W.widen (k := 3) (n := 579) (Nat.le_of_ble_eq_true rfl) (Nat.le_of_ble_eq_true rfl) ?_
  refine va_putF (D := G.1) (ci := 3) (v := .ref (ea_2 0)) (ty := tyX3 0) (C := RX3) (T := TX3) (N := 4) hx hb hts (by decide +kernel) tyX3 tyX3_ok nmX3 hown hK.1 hP hD hS 0 rfl rfl 0 (by decide) (hts (.fieldLink RX3 20 "PriceIndexCalculator$PriceTable" "effective" "LPriceIndexCalculator$PriceRows;") (by decide +kernel)) (fun _ h9 => h9) rfl hin rfl (by decide +kernel) rfl rfl (Nat.le_of_ble_eq_true rfl) dX3_init_18 (fun H locs hP hD hS => ?_)
  have hP : va_P G.1 vwCl ([(h0, .inr (3, [.ref (ea_2 0), .null, .ref k0, .int (bI false)])), (ea_2 0, .inr (2, [.ref k0, .ref (ea_2 1), .ref (ea_2 2)])), (ea_2 1, .inl (G.2 1, 288, .inl (fun j => bI ((fun _ => false) j)))), (ea_2 2, .inl (G.2 2, 288, .inr (.inr (.inl (fun _ => 0)))))]) H := hP
  have hD : va_D A ([(h0, .inr (3, [.ref (ea_2 0), .null, .ref k0, .int (bI false)])), (ea_2 0, .inr (2, [.ref k0, .ref (ea_2 1), .ref (ea_2 2)])), (ea_2 1, .inl (G.2 1, 288, .inl (fun j => bI ((fun _ => false) j)))), (ea_2 2, .inl (G.2 2, 288, .inr (.inr (.inl (fun _ => 0)))))]) := hD
  refine lv_aload_n hx hb dX3_init_21 rfl (lv_at hl 0 rfl) ?_
  refine va_new (D := G.1) (ci := 2) (fs := [.null, .null, .null]) (C := RX2) (T := TX2) (N := 3) hx hb hts (by decide +kernel) tyX2 tyX2_ok hown (hts (.classLink RX3 15 RX2) (by decide +kernel)) (hts (.instantiable RX2 3) (by decide +kernel)) (hts (.initialized RX2) (by decide +kernel)) hK.1 hP hD hS hA rfl (by decide +kernel) (Nat.le_of_ble_eq_true rfl) (Nat.le_of_ble_eq_true rfl) dX3_init_22 (fun q_3 H hP hD hS => ?_)
  have hP : va_P G.1 vwCl ([(h0, .inr (3, [.ref (ea_2 0), .null, .ref k0, .int (bI false)])), (ea_2 0, .inr (2, [.ref k0, .ref (ea_2 1), .ref (ea_2 2)])), (ea_2 1, .inl (G.2 1, 288, .inl (fun j => bI ((fun _ => false) j)))), (ea_2 2, .inl (G.2 2, 288, .inr (.inr (.inl (fun _ => 0))))), (q_3, .inr (2, [.null, .null, .null]))]) H := hP
  have hD : va_D A ([(h0, .inr (3, [.ref (ea_2 0), .null, .ref k0, .int (bI false)])), (ea_2 0, .inr (2, [.ref k0, .ref (ea_2 1), .ref (ea_2 2)])), (ea_2 1, .inl (G.2 1, 288, .inl (fun j => bI ((fun _ => false) j)))), (ea_2 2, .inl (G.2 2, 288, .inr (.inr (.inl (fun _ => 0))))), (q_3, .inr (2, [.null, .null, .null]))]) := hD
  refine W.widen (k := 4) (n := 582) (Nat.le_of_ble_eq_true rfl) (Nat.le_of_ble_eq_true rfl) ?_
  refine lv_dup hx hb dX3_init_25 rfl ?_
  refine lv_aload_n hx hb dX3_init_26 rfl (lv_at hl 1 rfl) ?_
  have hPq := hP
  have hDq := hD
  have hP : va_P G.1 vwCl (([(h0, .inr (3, [.ref (ea_2 0), .null, .ref k0, .int (bI false)])), (ea_2 0, .inr (2, [.ref k0, .ref (ea_2 1), .ref (ea_2 2)])), (ea_2 1, .inl (G.2 1, 288, .inl (fun j => bI ((fun _ => false) j)))), (ea_2 2, .inl (G.2 2, 288, .inr (.inr (.inl (fun _ => 0)))))]) ++ [(q_3, .inr (2, [.null, .null, .null]))]) H := hPq
  have hD : va_D A (([(h0, .inr (3, [.ref (ea_2 0), .null, .ref k0, .int (bI false)])), (ea_2 0, .inr (2, [.ref k0, .ref (ea_2 1), .ref (ea_2 2)])), (ea_2 1, .inl (G.2 1, 288, .inl (fun j => bI ((fun _ => false) j)))), (ea_2 2, .inl (G.2 2, 288, .inr (.inr (.inl (fun _ => 0)))))]) ++ [(q_3, .inr (2, [.null, .null, .null]))]) := hDq
  refine cc_v (G := G) (wr := [(h0, .inr (3, [.ref (ea_2 0), .null, .ref k0, .int (bI false)])), (ea_2 0, .inr (2, [.ref k0, .ref (ea_2 1), .ref (ea_2 2)])), (ea_2 1, .inl (G.2 1, 288, .inl (fun j => bI ((fun _ => false) j)))), (ea_2 2, .inl (G.2 2, 288, .inr (.inr (.inl (fun _ => 0)))))]) (wc := [(q_3, .inr (2, [.null, .null, .null]))]) (va_runI (As := [.ref k0]) (rest := [.ref q_3, .ref h0]) ⟨hx, hb, hml, hown, hts⟩ (metX2_init l G q_3 k0 H.size) (cwI 1 hts gX3_init_X2_init rfl rfl rfl (hts (.initialized RX2) (by decide +kernel)) (hts (.methodLink RX3 17 yX2_init) (by decide +kernel)) (hts (.instanceMethod yX2_init) (by decide +kernel)) rfl (by decide +kernel) ⟨Nat.le_of_ble_eq_true rfl, Nat.le_of_ble_eq_true rfl⟩) (pI_S hK hO (P_right hP) (D_right hD)) rfl rfl hl.1 rfl (lv_room (Nat.le_of_ble_eq_true rfl)) dX3_init_27 ⟨Nat.le_of_ble_eq_true rfl, Nat.le_of_ble_eq_true rfl⟩) hP hD hS hA (fun u H locs hw hP hD hS => ?_)
  obtain ⟨ea_4, rfl⟩ : ∃ z, z = u := ⟨_, rfl⟩
  have hq9 : ea_4 0 = q_3 := hw
  have hP : va_P G.1 vwCl ([(h0, .inr (3, [.ref (ea_2 0), .null, .ref k0, .int (bI false)])), (ea_2 0, .inr (2, [.ref k0, .ref (ea_2 1), .ref (ea_2 2)])), (ea_2 1, .inl (G.2 1, 288, .inl (fun j => bI ((fun _ => false) j)))), (ea_2 2, .inl (G.2 2, 288, .inr (.inr (.inl (fun _ => 0))))), (ea_4 0, .inr (2, [.ref k0, .ref (ea_4 1), .ref (ea_4 2)])), (ea_4 1, .inl (G.2 1, 288, .inl (fun j => bI ((fun _ => false) j)))), (ea_4 2, .inl (G.2 2, 288, .inr (.inr (.inl (fun _ => 0)))))]) H := hP
  have hD : va_D A ([(h0, .inr (3, [.ref (ea_2 0), .null, .ref k0, .int (bI false)])), (ea_2 0, .inr (2, [.ref k0, .ref (ea_2 1), .ref (ea_2 2)])), (ea_2 1, .inl (G.2 1, 288, .inl (fun j => bI ((fun _ => false) j)))), (ea_2 2, .inl (G.2 2, 288, .inr (.inr (.inl (fun _ => 0))))), (ea_4 0, .inr (2, [.ref k0, .ref (ea_4 1), .ref (ea_4 2)])), (ea_4 1, .inl (G.2 1, 288, .inl (fun j => bI ((fun _ => false) j)))), (ea_4 2, .inl (G.2 2, 288, .inr (.inr (.inl (fun _ => 0)))))]) := hD
  rw [← hq9]
  refine W.widen (k := 6) (n := 1158) (Nat.le_of_ble_eq_true rfl) (Nat.le_of_ble_eq_true rfl) ?_
  refine va_putF (D := G.1) (ci := 3) (v := .ref (ea_4 0)) (ty := tyX3 1) (C := RX3) (T := TX3) (N := 4) hx hb hts (by decide +kernel) tyX3 tyX3_ok nmX3 hown hK.1 hP hD hS 0 rfl rfl 1 (by decide) (hts (.fieldLink RX3 24 "PriceIndexCalculator$PriceTable" "known" "LPriceIndexCalculator$PriceRows;") (by decide +kernel)) (fun _ h9 => h9) rfl hin rfl (by decide +kernel) rfl rfl (Nat.le_of_ble_eq_true rfl) dX3_init_30 (fun H locs hP hD hS => ?_)
  have hP : va_P G.1 vwCl ([(h0, .inr (3, [.ref (ea_2 0), .ref (ea_4 0), .ref k0, .int (bI false)])), (ea_2 0, .inr (2, [.ref k0, .ref (ea_2 1), .ref (ea_2 2)])), (ea_2 1, .inl (G.2 1, 288, .inl (fun j => bI ((fun _ => false) j)))), (ea_2 2, .inl (G.2 2, 288, .inr (.inr (.inl (fun _ => 0))))), (ea_4 0, .inr (2, [.ref k0, .ref (ea_4 1), .ref (ea_4 2)])), (ea_4 1, .inl (G.2 1, 288, .inl (fun j => bI ((fun _ => false) j)))), (ea_4 2, .inl (G.2 2, 288, .inr (.inr (.inl (fun _ => 0)))))]) H := hP
  have hD : va_D A ([(h0, .inr (3, [.ref (ea_2 0), .ref (ea_4 0), .ref k0, .int (bI false)])), (ea_2 0, .inr (2, [.ref k0, .ref (ea_2 1), .ref (ea_2 2)])), (ea_2 1, .inl (G.2 1, 288, .inl (fun j => bI ((fun _ => false) j)))), (ea_2 2, .inl (G.2 2, 288, .inr (.inr (.inl (fun _ => 0))))), (ea_4 0, .inr (2, [.ref k0, .ref (ea_4 1), .ref (ea_4 2)])), (ea_4 1, .inl (G.2 1, 288, .inl (fun j => bI ((fun _ => false) j)))), (ea_4 2, .inl (G.2 2, 288, .inr (.inr (.inl (fun _ => 0)))))]) := hD
  have hP9 := hP
  have hD9 := hD
  exact W.vret hx hb hr (fun t ht hW => ⟨⟨(ea_2, ea_4), rfl, trivial, by rw [ht]; exact hP9, hD9⟩, hS.F ht⟩) hS.2.2 dX3_init_33
