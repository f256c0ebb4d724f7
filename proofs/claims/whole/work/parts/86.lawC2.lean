set_option maxHeartbeats 4000000 in
set_option maxRecDepth 100000 in
/-- case 12: knownPriceBits -/
theorem law_12 (l : Launch) (G : GG) (xo ha rg ta : Nat) (tx ea ka ad : Nat → Nat) (sa : Nat → Nat → Nat) (md : Nat → Nat) {p : Program} {e : Env} {s : State} {m : MethodId} {below : List Frame} {meth : Method} {c : Code} {bS LS0 : Nat} {xs : Nat → Int32} {Q : State → Prop} (C0 : lw_At p s m meth c bS LS0 xs) (hK0 : KX G s) {wx wm : va_W} (hI : LIt G xo ha rg ta tx ea ka ad sa md wx wm) {d0 : Drawn} (hd0 : s.drawn.sameBut d0 lw_cs) {H : Heap} {locs : List Loc} (hP : va_P G.1 vwCl (wx ++ wm) H) (hD : va_D (fun q : Nat => s.heap.size ≤ q) (wx ++ wm)) (hS : va_S (fun q : Nat => s.heap.size ≤ q) s.heap H locs) {j : Nat} (hj : j + 4 ≤ LS0) (hL9 : LS0 ≤ 2048) {ls : Array Slot} (hl : lv_has ls 4 [(0, .ref bS), (1, .ref xo), (2, .ref (md 0)), (3, .int (nI j))]) (kk : ∀ (wx wm : va_W) (d0 : Drawn) (H : Heap) (locs : List Loc), LIt G xo ha rg ta tx ea ka ad sa md wx wm → s.drawn.sameBut d0 lw_cs → va_P G.1 vwCl (wx ++ wm) H → va_D (fun q : Nat => s.heap.size ≤ q) (wx ++ wm) → va_S (fun q : Nat => s.heap.size ≤ q) s.heap H locs → W p l e room_1 (s.setDrawn d0) m #[Value.ref bS] below meth c H locs 600000 7302250 Q (F0 m 896 ls [])) : W p l e room_1 (s.setDrawn d0) m #[Value.ref bS] below meth c H locs 600000 7302250 Q (F0 m 470 ls []) := by
  obtain ⟨hx, hb, hr, hml, hown, hts00, hX, hbl, hlocks, hgv⟩ := C0
  have hts0 : ∀ w ∈ wsL_law, w.before #[Value.ref bS] s = true := fun w hw => hts00 w (wsL_law_in w hw)
  have hts := dr_words hts0 d0
  have hK := hK0.drawn d0
  have hX : va_X bS LS0 xs (s.setDrawn d0) s.heap := hX
  have hbA : ¬ (fun q : Nat => s.heap.size ≤ q) bS := Nat.not_le.mpr hbl
  obtain ⟨i, n, L, pz, ri, rm, rp, ch, fs, e1, v1, e2, v2, b, g, a, pa, tb, aw, iw, qu, up, lo, su, kn, ik, im, fo, c9, rfl, rfl, hLS⟩ := hI
  have hR : Rel a b := hLS.2.2.1
  refine lv_aload_n hx hb dL_law_470 rfl (lv_at hl 1 rfl) ?_
  refine lv_aload_n hx hb dL_law_471 rfl (lv_at hl 0 rfl) ?_
  refine lv_iload_n hx hb dL_law_472 rfl (lv_at hl 3 rfl) ?_
  refine lv_iconst (v := nI 1) hx hb dL_law_473 (by decide) ?_
  refine n_add hx hb dL_law_474 ?_
  refine n_sld (j := j + 1) hx hb hX hbl hbA hS (by omega) (by omega) dL_law_475 ?_
  refine lv_aload_n hx hb dL_law_476 rfl (lv_at hl 0 rfl) ?_
  refine lv_iload_n hx hb dL_law_477 rfl (lv_at hl 3 rfl) ?_
  refine lv_iconst (v := nI 2) hx hb dL_law_478 (by decide) ?_
  refine n_add hx hb dL_law_479 ?_
  refine n_sld (j := j + 2) hx hb hX hbl hbA hS (by omega) (by omega) dL_law_480 ?_
  refine la_x (va_runV (As := [.int (xs (j + 1)), .int (xs (j + 2))]) (rest := []) ⟨hx, hb, hml, hown, hts⟩ (metX6_knownPriceBits l G xo ha rg ta tx ea ka ad sa i n (mkx L pz ri rm rp ch) fs e1 v1 e2 v2 b g hLS.1 (xs (j + 1)) (xs (j + 2))) (cwV 2 hts gL_law_X6_knownPriceBits rfl rfl rfl (by decide +kernel) ⟨Nat.le_of_ble_eq_true rfl, Nat.le_of_ble_eq_true rfl⟩) (pM_V (q0 := 0) hK (P_left hP) (D_left hD) rfl rfl) rfl rfl hl.1 rfl (lv_room (Nat.le_of_ble_eq_true rfl)) dL_law_481 ⟨Nat.le_refl _, Nat.le_refl _⟩) hP hD hS (fun _ => xc_adr) (fun r1 u1 H locs hw1 hP hD hS => ?_)
  refine lv_aload_n hx hb dL_law_484 rfl (lv_at hl 2 rfl) ?_
  refine lv_aload_n hx hb dL_law_485 rfl (lv_at hl 0 rfl) ?_
  refine lv_iload_n hx hb dL_law_486 rfl (lv_at hl 3 rfl) ?_
  refine lv_iconst (v := nI 1) hx hb dL_law_487 (by decide) ?_
  refine n_add hx hb dL_law_488 ?_
  refine n_sld (j := j + 1) hx hb hX hbl hbA hS (by omega) (by omega) dL_law_489 ?_
  refine lv_aload_n hx hb dL_law_490 rfl (lv_at hl 0 rfl) ?_
  refine lv_iload_n hx hb dL_law_491 rfl (lv_at hl 3 rfl) ?_
  refine lv_iconst (v := nI 2) hx hb dL_law_492 (by decide) ?_
  refine n_add hx hb dL_law_493 ?_
  refine n_sld (j := j + 2) hx hb hX hbl hbA hS (by omega) (by omega) dL_law_494 ?_
  refine laD_m hd0 (va_runV_D (As := [.int (xs (j + 1)), .int (xs (j + 2))]) (rest := [.int r1]) ⟨hx, hb, hml, hown, hts⟩ (metX7_knownPriceBits l G md a pa n tb L aw iw qu up lo su kn ik im fo hR.mWF (xs (j + 1)) (xs (j + 2))) (cwV 2 hts gL_law_X7_knownPriceBits rfl rfl rfl (by decide +kernel) ⟨Nat.le_of_ble_eq_true rfl, Nat.le_of_ble_eq_true rfl⟩) (pM_V (q0 := 0) hK (P_right hP) (D_right hD) rfl rfl) rfl rfl hl.1 rfl (lv_room (Nat.le_of_ble_eq_true rfl)) dL_law_495 ⟨Nat.le_refl _, Nat.le_refl _⟩) hP hD hS (fun _ => rfl) (fun r2 u2 H locs hw2 hP hD hS d0 hd0 => ?_)
  have heq : r1 = r2 := hw1.1.trans ((hw2.trans (an_KB hR (xs (j + 1)) (xs (j + 2)))).symm)
  refine lv_icmp_eq (tgt := 896) hx hb dL_law_498 (by decide) (fun c9e => ?_) (fun c9e => absurd heq c9e)
  exact kk _ _ _ _ _ (LIt.mk (hLS.ta hw1.2)) hd0 hP hD hS

set_option maxHeartbeats 4000000 in
set_option maxRecDepth 100000 in
/-- case 13: isImputed -/
theorem law_13 (l : Launch) (G : GG) (xo ha rg ta : Nat) (tx ea ka ad : Nat → Nat) (sa : Nat → Nat → Nat) (md : Nat → Nat) {p : Program} {e : Env} {s : State} {m : MethodId} {below : List Frame} {meth : Method} {c : Code} {bS LS0 : Nat} {xs : Nat → Int32} {Q : State → Prop} (C0 : lw_At p s m meth c bS LS0 xs) (hK0 : KX G s) {wx wm : va_W} (hI : LIt G xo ha rg ta tx ea ka ad sa md wx wm) {d0 : Drawn} (hd0 : s.drawn.sameBut d0 lw_cs) {H : Heap} {locs : List Loc} (hP : va_P G.1 vwCl (wx ++ wm) H) (hD : va_D (fun q : Nat => s.heap.size ≤ q) (wx ++ wm)) (hS : va_S (fun q : Nat => s.heap.size ≤ q) s.heap H locs) {j : Nat} (hj : j + 4 ≤ LS0) (hL9 : LS0 ≤ 2048) {ls : Array Slot} (hl : lv_has ls 4 [(0, .ref bS), (1, .ref xo), (2, .ref (md 0)), (3, .int (nI j))]) (kk : ∀ (wx wm : va_W) (d0 : Drawn) (H : Heap) (locs : List Loc), LIt G xo ha rg ta tx ea ka ad sa md wx wm → s.drawn.sameBut d0 lw_cs → va_P G.1 vwCl (wx ++ wm) H → va_D (fun q : Nat => s.heap.size ≤ q) (wx ++ wm) → va_S (fun q : Nat => s.heap.size ≤ q) s.heap H locs → W p l e room_1 (s.setDrawn d0) m #[Value.ref bS] below meth c H locs 600000 7302250 Q (F0 m 896 ls [])) : W p l e room_1 (s.setDrawn d0) m #[Value.ref bS] below meth c H locs 600000 7302250 Q (F0 m 503 ls []) := by
  obtain ⟨hx, hb, hr, hml, hown, hts00, hX, hbl, hlocks, hgv⟩ := C0
  have hts0 : ∀ w ∈ wsL_law, w.before #[Value.ref bS] s = true := fun w hw => hts00 w (wsL_law_in w hw)
  have hts := dr_words hts0 d0
  have hK := hK0.drawn d0
  have hX : va_X bS LS0 xs (s.setDrawn d0) s.heap := hX
  have hbA : ¬ (fun q : Nat => s.heap.size ≤ q) bS := Nat.not_le.mpr hbl
  obtain ⟨i, n, L, pz, ri, rm, rp, ch, fs, e1, v1, e2, v2, b, g, a, pa, tb, aw, iw, qu, up, lo, su, kn, ik, im, fo, c9, rfl, rfl, hLS⟩ := hI
  have hR : Rel a b := hLS.2.2.1
  refine lv_aload_n hx hb dL_law_503 rfl (lv_at hl 1 rfl) ?_
  refine lv_aload_n hx hb dL_law_504 rfl (lv_at hl 0 rfl) ?_
  refine lv_iload_n hx hb dL_law_505 rfl (lv_at hl 3 rfl) ?_
  refine lv_iconst (v := nI 1) hx hb dL_law_506 (by decide) ?_
  refine n_add hx hb dL_law_507 ?_
  refine n_sld (j := j + 1) hx hb hX hbl hbA hS (by omega) (by omega) dL_law_508 ?_
  refine lv_aload_n hx hb dL_law_509 rfl (lv_at hl 0 rfl) ?_
  refine lv_iload_n hx hb dL_law_510 rfl (lv_at hl 3 rfl) ?_
  refine lv_iconst (v := nI 2) hx hb dL_law_511 (by decide) ?_
  refine n_add hx hb dL_law_512 ?_
  refine n_sld (j := j + 2) hx hb hX hbl hbA hS (by omega) (by omega) dL_law_513 ?_
  refine la_x (va_runV (As := [.int (xs (j + 1)), .int (xs (j + 2))]) (rest := []) ⟨hx, hb, hml, hown, hts⟩ (metX6_isImputed l G xo ha rg ta tx ea ka ad sa i n (mkx L pz ri rm rp ch) fs e1 v1 e2 v2 b g hLS.1 (xs (j + 1)) (xs (j + 2))) (cwV 2 hts gL_law_X6_isImputed rfl rfl rfl (by decide +kernel) ⟨Nat.le_of_ble_eq_true rfl, Nat.le_of_ble_eq_true rfl⟩) (pM_V (q0 := 0) hK (P_left hP) (D_left hD) rfl rfl) rfl rfl hl.1 rfl (lv_room (Nat.le_of_ble_eq_true rfl)) dL_law_514 ⟨Nat.le_refl _, Nat.le_refl _⟩) hP hD hS (fun _ => xc_adr) (fun r1 u1 H locs hw1 hP hD hS => ?_)
  refine lv_aload_n hx hb dL_law_517 rfl (lv_at hl 2 rfl) ?_
  refine lv_aload_n hx hb dL_law_518 rfl (lv_at hl 0 rfl) ?_
  refine lv_iload_n hx hb dL_law_519 rfl (lv_at hl 3 rfl) ?_
  refine lv_iconst (v := nI 1) hx hb dL_law_520 (by decide) ?_
  refine n_add hx hb dL_law_521 ?_
  refine n_sld (j := j + 1) hx hb hX hbl hbA hS (by omega) (by omega) dL_law_522 ?_
  refine lv_aload_n hx hb dL_law_523 rfl (lv_at hl 0 rfl) ?_
  refine lv_iload_n hx hb dL_law_524 rfl (lv_at hl 3 rfl) ?_
  refine lv_iconst (v := nI 2) hx hb dL_law_525 (by decide) ?_
  refine n_add hx hb dL_law_526 ?_
  refine n_sld (j := j + 2) hx hb hX hbl hbA hS (by omega) (by omega) dL_law_527 ?_
  refine laD_m hd0 (va_runV_D (As := [.int (xs (j + 1)), .int (xs (j + 2))]) (rest := [.int r1]) ⟨hx, hb, hml, hown, hts⟩ (metX7_isImputed l G md a pa n tb L aw iw qu up lo su kn ik im fo hR.mWF (xs (j + 1)) (xs (j + 2))) (cwV 2 hts gL_law_X7_isImputed rfl rfl rfl (by decide +kernel) ⟨Nat.le_of_ble_eq_true rfl, Nat.le_of_ble_eq_true rfl⟩) (pM_V (q0 := 0) hK (P_right hP) (D_right hD) rfl rfl) rfl rfl hl.1 rfl (lv_room (Nat.le_of_ble_eq_true rfl)) dL_law_528 ⟨Nat.le_refl _, Nat.le_refl _⟩) hP hD hS (fun _ => rfl) (fun r2 u2 H locs hw2 hP hD hS d0 hd0 => ?_)
  have heq : r1 = r2 := hw1.1.trans ((hw2.trans (an_II hR (xs (j + 1)) (xs (j + 2)))).symm)
  refine lv_icmp_eq (tgt := 896) hx hb dL_law_531 (by decide) (fun c9e => ?_) (fun c9e => absurd heq c9e)
  exact kk _ _ _ _ _ (LIt.mk (hLS.ta hw1.2)) hd0 hP hD hS

set_option maxHeartbeats 4000000 in
set_option maxRecDepth 100000 in
/-- case 14: imputedCount -/
theorem law_14 (l : Launch) (G : GG) (xo ha rg ta : Nat) (tx ea ka ad : Nat → Nat) (sa : Nat → Nat → Nat) (md : Nat → Nat) {p : Program} {e : Env} {s : State} {m : MethodId} {below : List Frame} {meth : Method} {c : Code} {bS LS0 : Nat} {xs : Nat → Int32} {Q : State → Prop} (C0 : lw_At p s m meth c bS LS0 xs) (hK0 : KX G s) {wx wm : va_W} (hI : LIt G xo ha rg ta tx ea ka ad sa md wx wm) {d0 : Drawn} (hd0 : s.drawn.sameBut d0 lw_cs) {H : Heap} {locs : List Loc} (hP : va_P G.1 vwCl (wx ++ wm) H) (hD : va_D (fun q : Nat => s.heap.size ≤ q) (wx ++ wm)) (hS : va_S (fun q : Nat => s.heap.size ≤ q) s.heap H locs) {j : Nat} (hj : j + 4 ≤ LS0) (hL9 : LS0 ≤ 2048) {ls : Array Slot} (hl : lv_has ls 4 [(0, .ref bS), (1, .ref xo), (2, .ref (md 0)), (3, .int (nI j))]) (kk : ∀ (wx wm : va_W) (d0 : Drawn) (H : Heap) (locs : List Loc), LIt G xo ha rg ta tx ea ka ad sa md wx wm → s.drawn.sameBut d0 lw_cs → va_P G.1 vwCl (wx ++ wm) H → va_D (fun q : Nat => s.heap.size ≤ q) (wx ++ wm) → va_S (fun q : Nat => s.heap.size ≤ q) s.heap H locs → W p l e room_1 (s.setDrawn d0) m #[Value.ref bS] below meth c H locs 600000 7302250 Q (F0 m 896 ls [])) : W p l e room_1 (s.setDrawn d0) m #[Value.ref bS] below meth c H locs 600000 7302250 Q (F0 m 536 ls []) := by
  obtain ⟨hx, hb, hr, hml, hown, hts00, hX, hbl, hlocks, hgv⟩ := C0
  have hts0 : ∀ w ∈ wsL_law, w.before #[Value.ref bS] s = true := fun w hw => hts00 w (wsL_law_in w hw)
  have hts := dr_words hts0 d0
  have hK := hK0.drawn d0
  have hX : va_X bS LS0 xs (s.setDrawn d0) s.heap := hX
  have hbA : ¬ (fun q : Nat => s.heap.size ≤ q) bS := Nat.not_le.mpr hbl
  obtain ⟨i, n, L, pz, ri, rm, rp, ch, fs, e1, v1, e2, v2, b, g, a, pa, tb, aw, iw, qu, up, lo, su, kn, ik, im, fo, c9, rfl, rfl, hLS⟩ := hI
  have hR : Rel a b := hLS.2.2.1
  refine lv_aload_n hx hb dL_law_536 rfl (lv_at hl 1 rfl) ?_
  refine lv_aload_n hx hb dL_law_537 rfl (lv_at hl 0 rfl) ?_
  refine lv_iload_n hx hb dL_law_538 rfl (lv_at hl 3 rfl) ?_
  refine lv_iconst (v := nI 1) hx hb dL_law_539 (by decide) ?_
  refine n_add hx hb dL_law_540 ?_
  refine n_sld (j := j + 1) hx hb hX hbl hbA hS (by omega) (by omega) dL_law_541 ?_
  refine la_x (va_runV (As := [.int (xs (j + 1))]) (rest := []) ⟨hx, hb, hml, hown, hts⟩ (metX6_imputedCount l G xo ha rg ta tx ea ka ad sa i n (mkx L pz ri rm rp ch) fs e1 v1 e2 v2 b g hLS.1 (xs (j + 1))) (cwV 1 hts gL_law_X6_imputedCount rfl rfl rfl (by decide +kernel) ⟨Nat.le_of_ble_eq_true rfl, Nat.le_of_ble_eq_true rfl⟩) (pM_V (q0 := 0) hK (P_left hP) (D_left hD) rfl rfl) rfl rfl hl.1 rfl (lv_room (Nat.le_of_ble_eq_true rfl)) dL_law_542 ⟨Nat.le_refl _, Nat.le_refl _⟩) hP hD hS (fun _ => xc_adr) (fun r1 u1 H locs hw1 hP hD hS => ?_)
  refine lv_aload_n hx hb dL_law_545 rfl (lv_at hl 2 rfl) ?_
  refine lv_aload_n hx hb dL_law_546 rfl (lv_at hl 0 rfl) ?_
  refine lv_iload_n hx hb dL_law_547 rfl (lv_at hl 3 rfl) ?_
  refine lv_iconst (v := nI 1) hx hb dL_law_548 (by decide) ?_
  refine n_add hx hb dL_law_549 ?_
  refine n_sld (j := j + 1) hx hb hX hbl hbA hS (by omega) (by omega) dL_law_550 ?_
  refine laD_m hd0 (va_runV_D (As := [.int (xs (j + 1))]) (rest := [.int r1]) ⟨hx, hb, hml, hown, hts⟩ (metX7_imputedCount l G md a pa n tb L aw iw qu up lo su kn ik im fo hR.mWF (xs (j + 1))) (cwV 1 hts gL_law_X7_imputedCount rfl rfl rfl (by decide +kernel) ⟨Nat.le_of_ble_eq_true rfl, Nat.le_of_ble_eq_true rfl⟩) (pM_V (q0 := 0) hK (P_right hP) (D_right hD) rfl rfl) rfl rfl hl.1 rfl (lv_room (Nat.le_of_ble_eq_true rfl)) dL_law_551 ⟨Nat.le_refl _, Nat.le_refl _⟩) hP hD hS (fun _ => rfl) (fun r2 u2 H locs hw2 hP hD hS d0 hd0 => ?_)
  have heq : r1 = r2 := hw1.1.trans ((hw2.trans (an_IC hR (xs (j + 1)))).symm)
  refine lv_icmp_eq (tgt := 896) hx hb dL_law_554 (by decide) (fun c9e => ?_) (fun c9e => absurd heq c9e)
  exact kk _ _ _ _ _ (LIt.mk (hLS.ta hw1.2)) hd0 hP hD hS

set_option maxHeartbeats 4000000 in
set_option maxRecDepth 100000 in
/-- case 15: matchedCount -/
theorem law_15 (l : Launch) (G : GG) (xo ha rg ta : Nat) (tx ea ka ad : Nat → Nat) (sa : Nat → Nat → Nat) (md : Nat → Nat) {p : Program} {e : Env} {s : State} {m : MethodId} {below : List Frame} {meth : Method} {c : Code} {bS LS0 : Nat} {xs : Nat → Int32} {Q : State → Prop} (C0 : lw_At p s m meth c bS LS0 xs) (hK0 : KX G s) {wx wm : va_W} (hI : LIt G xo ha rg ta tx ea ka ad sa md wx wm) {d0 : Drawn} (hd0 : s.drawn.sameBut d0 lw_cs) {H : Heap} {locs : List Loc} (hP : va_P G.1 vwCl (wx ++ wm) H) (hD : va_D (fun q : Nat => s.heap.size ≤ q) (wx ++ wm)) (hS : va_S (fun q : Nat => s.heap.size ≤ q) s.heap H locs) {j : Nat} (hj : j + 4 ≤ LS0) (hL9 : LS0 ≤ 2048) {ls : Array Slot} (hl : lv_has ls 4 [(0, .ref bS), (1, .ref xo), (2, .ref (md 0)), (3, .int (nI j))]) (kk : ∀ (wx wm : va_W) (d0 : Drawn) (H : Heap) (locs : List Loc), LIt G xo ha rg ta tx ea ka ad sa md wx wm → s.drawn.sameBut d0 lw_cs → va_P G.1 vwCl (wx ++ wm) H → va_D (fun q : Nat => s.heap.size ≤ q) (wx ++ wm) → va_S (fun q : Nat => s.heap.size ≤ q) s.heap H locs → W p l e room_1 (s.setDrawn d0) m #[Value.ref bS] below meth c H locs 600000 7302250 Q (F0 m 896 ls [])) : W p l e room_1 (s.setDrawn d0) m #[Value.ref bS] below meth c H locs 600000 7302250 Q (F0 m 559 ls []) := by
  obtain ⟨hx, hb, hr, hml, hown, hts00, hX, hbl, hlocks, hgv⟩ := C0
  have hts0 : ∀ w ∈ wsL_law, w.before #[Value.ref bS] s = true := fun w hw => hts00 w (wsL_law_in w hw)
  have hts := dr_words hts0 d0
  have hK := hK0.drawn d0
  have hX : va_X bS LS0 xs (s.setDrawn d0) s.heap := hX
  have hbA : ¬ (fun q : Nat => s.heap.size ≤ q) bS := Nat.not_le.mpr hbl
  obtain ⟨i, n, L, pz, ri, rm, rp, ch, fs, e1, v1, e2, v2, b, g, a, pa, tb, aw, iw, qu, up, lo, su, kn, ik, im, fo, c9, rfl, rfl, hLS⟩ := hI
  have hR : Rel a b := hLS.2.2.1
  refine lv_aload_n hx hb dL_law_559 rfl (lv_at hl 1 rfl) ?_
  refine lv_aload_n hx hb dL_law_560 rfl (lv_at hl 0 rfl) ?_
  refine lv_iload_n hx hb dL_law_561 rfl (lv_at hl 3 rfl) ?_
  refine lv_iconst (v := nI 1) hx hb dL_law_562 (by decide) ?_
  refine n_add hx hb dL_law_563 ?_
  refine n_sld (j := j + 1) hx hb hX hbl hbA hS (by omega) (by omega) dL_law_564 ?_
  refine lv_aload_n hx hb dL_law_565 rfl (lv_at hl 0 rfl) ?_
  refine lv_iload_n hx hb dL_law_566 rfl (lv_at hl 3 rfl) ?_
  refine lv_iconst (v := nI 2) hx hb dL_law_567 (by decide) ?_
  refine n_add hx hb dL_law_568 ?_
  refine n_sld (j := j + 2) hx hb hX hbl hbA hS (by omega) (by omega) dL_law_569 ?_
  refine lv_aload_n hx hb dL_law_570 rfl (lv_at hl 0 rfl) ?_
  refine lv_iload_n hx hb dL_law_571 rfl (lv_at hl 3 rfl) ?_
  refine lv_iconst (v := nI 3) hx hb dL_law_572 (by decide) ?_
  refine n_add hx hb dL_law_573 ?_
  refine n_sld (j := j + 3) hx hb hX hbl hbA hS (by omega) (by omega) dL_law_574 ?_
  refine la_x (va_runV (As := [.int (xs (j + 1)), .int (xs (j + 2)), .int (xs (j + 3))]) (rest := []) ⟨hx, hb, hml, hown, hts⟩ (metX6_matchedCount l G xo ha rg ta tx ea ka ad sa i n (mkx L pz ri rm rp ch) fs e1 v1 e2 v2 b g hLS.1 (xs (j + 1)) (xs (j + 2)) (xs (j + 3))) (cwV 3 hts gL_law_X6_matchedCount rfl rfl rfl (by decide +kernel) ⟨Nat.le_of_ble_eq_true rfl, Nat.le_of_ble_eq_true rfl⟩) (pM_V (q0 := 0) hK (P_left hP) (D_left hD) rfl rfl) rfl rfl hl.1 rfl (lv_room (Nat.le_of_ble_eq_true rfl)) dL_law_575 ⟨Nat.le_refl _, Nat.le_refl _⟩) hP hD hS (fun _ => xc_adr) (fun r1 u1 H locs hw1 hP hD hS => ?_)
  refine lv_aload_n hx hb dL_law_578 rfl (lv_at hl 2 rfl) ?_
  refine lv_aload_n hx hb dL_law_579 rfl (lv_at hl 0 rfl) ?_
  refine lv_iload_n hx hb dL_law_580 rfl (lv_at hl 3 rfl) ?_
  refine lv_iconst (v := nI 1) hx hb dL_law_581 (by decide) ?_
  refine n_add hx hb dL_law_582 ?_
  refine n_sld (j := j + 1) hx hb hX hbl hbA hS (by omega) (by omega) dL_law_583 ?_
  refine lv_aload_n hx hb dL_law_584 rfl (lv_at hl 0 rfl) ?_
  refine lv_iload_n hx hb dL_law_585 rfl (lv_at hl 3 rfl) ?_
  refine lv_iconst (v := nI 2) hx hb dL_law_586 (by decide) ?_
  refine n_add hx hb dL_law_587 ?_
  refine n_sld (j := j + 2) hx hb hX hbl hbA hS (by omega) (by omega) dL_law_588 ?_
  refine lv_aload_n hx hb dL_law_589 rfl (lv_at hl 0 rfl) ?_
  refine lv_iload_n hx hb dL_law_590 rfl (lv_at hl 3 rfl) ?_
  refine lv_iconst (v := nI 3) hx hb dL_law_591 (by decide) ?_
  refine n_add hx hb dL_law_592 ?_
  refine n_sld (j := j + 3) hx hb hX hbl hbA hS (by omega) (by omega) dL_law_593 ?_
  refine cr_i (va_runV (As := [.int (xs (j + 1)), .int (xs (j + 2)), .int (xs (j + 3))]) (rest := [.int r1]) ⟨hx, hb, hml, hown, hts⟩ (metX7_matchedCount l G md [.ref (md 2), .int (nI n), .ref (md 3), .int (nI L), .int (nI aw), .int (bI iw), .ref (md 4), .float up, .float lo, .int (nI su), .ref (md 5), .ref (md 6), .ref (md 7), .float fo] a hR.mWF (xs (j + 1)) (xs (j + 2)) (xs (j + 3))) (cwV 3 hts gL_law_X7_matchedCount rfl rfl rfl (by decide +kernel) ⟨Nat.le_of_ble_eq_true rfl, Nat.le_of_ble_eq_true rfl⟩) (pR_V (q0 := 0) hK ((P_right hP).sub (ws' := scells G md [.ref (md 2), .int (nI n), .ref (md 3), .int (nI L), .int (nI aw), .int (bI iw), .ref (md 4), .float up, .float lo, .int (nI su), .ref (md 5), .ref (md 6), .ref (md 7), .float fo] a) [0, 1] rfl) rfl rfl) rfl rfl hl.1 rfl (lv_room (Nat.le_of_ble_eq_true rfl)) dL_law_594 ⟨Nat.le_refl _, Nat.le_refl _⟩) (fun r2 hw2 => ?_)
  have heq : r1 = r2 := hw1.1.trans ((hw2.trans (an_MC hR (xs (j + 1)) (xs (j + 2)) (xs (j + 3)))).symm)
  refine lv_icmp_eq (tgt := 896) hx hb dL_law_597 (by decide) (fun c9e => ?_) (fun c9e => absurd heq c9e)
  exact kk _ _ _ _ _ (LIt.mk (hLS.ta hw1.2)) hd0 hP hD hS

set_option maxHeartbeats 4000000 in
set_option maxRecDepth 100000 in
/-- case 16: movementBits -/
theorem law_16 (l : Launch) (G : GG) (xo ha rg ta : Nat) (tx ea ka ad : Nat → Nat) (sa : Nat → Nat → Nat) (md : Nat → Nat) {p : Program} {e : Env} {s : State} {m : MethodId} {below : List Frame} {meth : Method} {c : Code} {bS LS0 : Nat} {xs : Nat → Int32} {Q : State → Prop} (C0 : lw_At p s m meth c bS LS0 xs) (hK0 : KX G s) {wx wm : va_W} (hI : LIt G xo ha rg ta tx ea ka ad sa md wx wm) {d0 : Drawn} (hd0 : s.drawn.sameBut d0 lw_cs) {H : Heap} {locs : List Loc} (hP : va_P G.1 vwCl (wx ++ wm) H) (hD : va_D (fun q : Nat => s.heap.size ≤ q) (wx ++ wm)) (hS : va_S (fun q : Nat => s.heap.size ≤ q) s.heap H locs) {j : Nat} (hj : j + 4 ≤ LS0) (hL9 : LS0 ≤ 2048) {ls : Array Slot} (hl : lv_has ls 4 [(0, .ref bS), (1, .ref xo), (2, .ref (md 0)), (3, .int (nI j))]) (kk : ∀ (wx wm : va_W) (d0 : Drawn) (H : Heap) (locs : List Loc), LIt G xo ha rg ta tx ea ka ad sa md wx wm → s.drawn.sameBut d0 lw_cs → va_P G.1 vwCl (wx ++ wm) H → va_D (fun q : Nat => s.heap.size ≤ q) (wx ++ wm) → va_S (fun q : Nat => s.heap.size ≤ q) s.heap H locs → W p l e room_1 (s.setDrawn d0) m #[Value.ref bS] below meth c H locs 600000 7302250 Q (F0 m 896 ls [])) : W p l e room_1 (s.setDrawn d0) m #[Value.ref bS] below meth c H locs 600000 7302250 Q (F0 m 602 ls []) := by
  obtain ⟨hx, hb, hr, hml, hown, hts00, hX, hbl, hlocks, hgv⟩ := C0
  have hts0 : ∀ w ∈ wsL_law, w.before #[Value.ref bS] s = true := fun w hw => hts00 w (wsL_law_in w hw)
  have hts := dr_words hts0 d0
  have hK := hK0.drawn d0
  have hX : va_X bS LS0 xs (s.setDrawn d0) s.heap := hX
  have hbA : ¬ (fun q : Nat => s.heap.size ≤ q) bS := Nat.not_le.mpr hbl
  obtain ⟨i, n, L, pz, ri, rm, rp, ch, fs, e1, v1, e2, v2, b, g, a, pa, tb, aw, iw, qu, up, lo, su, kn, ik, im, fo, c9, rfl, rfl, hLS⟩ := hI
  have hR : Rel a b := hLS.2.2.1
  refine lv_aload_n hx hb dL_law_602 rfl (lv_at hl 1 rfl) ?_
  refine lv_aload_n hx hb dL_law_603 rfl (lv_at hl 0 rfl) ?_
  refine lv_iload_n hx hb dL_law_604 rfl (lv_at hl 3 rfl) ?_
  refine lv_iconst (v := nI 1) hx hb dL_law_605 (by decide) ?_
  refine n_add hx hb dL_law_606 ?_
  refine n_sld (j := j + 1) hx hb hX hbl hbA hS (by omega) (by omega) dL_law_607 ?_
  refine lv_aload_n hx hb dL_law_608 rfl (lv_at hl 0 rfl) ?_
  refine lv_iload_n hx hb dL_law_609 rfl (lv_at hl 3 rfl) ?_
  refine lv_iconst (v := nI 2) hx hb dL_law_610 (by decide) ?_
  refine n_add hx hb dL_law_611 ?_
  refine n_sld (j := j + 2) hx hb hX hbl hbA hS (by omega) (by omega) dL_law_612 ?_
  refine lv_aload_n hx hb dL_law_613 rfl (lv_at hl 0 rfl) ?_
  refine lv_iload_n hx hb dL_law_614 rfl (lv_at hl 3 rfl) ?_
  refine lv_iconst (v := nI 3) hx hb dL_law_615 (by decide) ?_
  refine n_add hx hb dL_law_616 ?_
  refine n_sld (j := j + 3) hx hb hX hbl hbA hS (by omega) (by omega) dL_law_617 ?_
  refine la_x (va_runV (As := [.int (xs (j + 1)), .int (xs (j + 2)), .int (xs (j + 3))]) (rest := []) ⟨hx, hb, hml, hown, hts⟩ (metX6_movementBits l G xo ha rg ta tx ea ka ad sa i n (mkx L pz ri rm rp ch) fs e1 v1 e2 v2 b g hLS.1 (xs (j + 1)) (xs (j + 2)) (xs (j + 3))) (cwV 3 hts gL_law_X6_movementBits rfl rfl rfl (by decide +kernel) ⟨Nat.le_of_ble_eq_true rfl, Nat.le_of_ble_eq_true rfl⟩) (pM_V (q0 := 0) hK (P_left hP) (D_left hD) rfl rfl) rfl rfl hl.1 rfl (lv_room (Nat.le_of_ble_eq_true rfl)) dL_law_618 ⟨Nat.le_refl _, Nat.le_refl _⟩) hP hD hS (fun _ => xc_adr) (fun r1 u1 H locs hw1 hP hD hS => ?_)
  refine lv_aload_n hx hb dL_law_621 rfl (lv_at hl 2 rfl) ?_
  refine lv_aload_n hx hb dL_law_622 rfl (lv_at hl 0 rfl) ?_
  refine lv_iload_n hx hb dL_law_623 rfl (lv_at hl 3 rfl) ?_
  refine lv_iconst (v := nI 1) hx hb dL_law_624 (by decide) ?_
  refine n_add hx hb dL_law_625 ?_
  refine n_sld (j := j + 1) hx hb hX hbl hbA hS (by omega) (by omega) dL_law_626 ?_
  refine lv_aload_n hx hb dL_law_627 rfl (lv_at hl 0 rfl) ?_
  refine lv_iload_n hx hb dL_law_628 rfl (lv_at hl 3 rfl) ?_
  refine lv_iconst (v := nI 2) hx hb dL_law_629 (by decide) ?_
  refine n_add hx hb dL_law_630 ?_
  refine n_sld (j := j + 2) hx hb hX hbl hbA hS (by omega) (by omega) dL_law_631 ?_
  refine lv_aload_n hx hb dL_law_632 rfl (lv_at hl 0 rfl) ?_
  refine lv_iload_n hx hb dL_law_633 rfl (lv_at hl 3 rfl) ?_
  refine lv_iconst (v := nI 3) hx hb dL_law_634 (by decide) ?_
  refine n_add hx hb dL_law_635 ?_
  refine n_sld (j := j + 3) hx hb hX hbl hbA hS (by omega) (by omega) dL_law_636 ?_
  refine laD_m hd0 (va_runV_D (As := [.int (xs (j + 1)), .int (xs (j + 2)), .int (xs (j + 3))]) (rest := [.int r1]) ⟨hx, hb, hml, hown, hts⟩ (metX7_movementBits l G md a pa n tb L aw iw qu up lo su kn ik im fo hR.mWF (xs (j + 1)) (xs (j + 2)) (xs (j + 3))) (cwV 3 hts gL_law_X7_movementBits rfl rfl rfl (by decide +kernel) ⟨Nat.le_of_ble_eq_true rfl, Nat.le_of_ble_eq_true rfl⟩) (pM_V (q0 := 0) hK (P_right hP) (D_right hD) rfl rfl) rfl rfl hl.1 rfl (lv_room (Nat.le_of_ble_eq_true rfl)) dL_law_637 ⟨Nat.le_refl _, Nat.le_refl _⟩) hP hD hS (fun _ => rfl) (fun r2 u2 H locs hw2 hP hD hS d0 hd0 => ?_)
  have heq : r1 = r2 := hw1.1.trans ((hw2.trans (an_MB hR (xs (j + 1)) (xs (j + 2)) (xs (j + 3)))).symm)
  refine lv_icmp_eq (tgt := 896) hx hb dL_law_640 (by decide) (fun c9e => ?_) (fun c9e => absurd heq c9e)
  exact kk _ _ _ _ _ (LIt.mk (hLS.ta hw1.2)) hd0 hP hD hS

set_option maxHeartbeats 4000000 in
set_option maxRecDepth 100000 in
/-- case 17: greatestRise -/
theorem law_17 (l : Launch) (G : GG) (xo ha rg ta : Nat) (tx ea ka ad : Nat → Nat) (sa : Nat → Nat → Nat) (md : Nat → Nat) {p : Program} {e : Env} {s : State} {m : MethodId} {below : List Frame} {meth : Method} {c : Code} {bS LS0 : Nat} {xs : Nat → Int32} {Q : State → Prop} (C0 : lw_At p s m meth c bS LS0 xs) (hK0 : KX G s) {wx wm : va_W} (hI : LIt G xo ha rg ta tx ea ka ad sa md wx wm) {d0 : Drawn} (hd0 : s.drawn.sameBut d0 lw_cs) {H : Heap} {locs : List Loc} (hP : va_P G.1 vwCl (wx ++ wm) H) (hD : va_D (fun q : Nat => s.heap.size ≤ q) (wx ++ wm)) (hS : va_S (fun q : Nat => s.heap.size ≤ q) s.heap H locs) {j : Nat} (hj : j + 4 ≤ LS0) (hL9 : LS0 ≤ 2048) {ls : Array Slot} (hl : lv_has ls 4 [(0, .ref bS), (1, .ref xo), (2, .ref (md 0)), (3, .int (nI j))]) (kk : ∀ (wx wm : va_W) (d0 : Drawn) (H : Heap) (locs : List Loc), LIt G xo ha rg ta tx ea ka ad sa md wx wm → s.drawn.sameBut d0 lw_cs → va_P G.1 vwCl (wx ++ wm) H → va_D (fun q : Nat => s.heap.size ≤ q) (wx ++ wm) → va_S (fun q : Nat => s.heap.size ≤ q) s.heap H locs → W p l e room_1 (s.setDrawn d0) m #[Value.ref bS] below meth c H locs 600000 7302250 Q (F0 m 896 ls [])) : W p l e room_1 (s.setDrawn d0) m #[Value.ref bS] below meth c H locs 600000 7302250 Q (F0 m 645 ls []) := by
  obtain ⟨hx, hb, hr, hml, hown, hts00, hX, hbl, hlocks, hgv⟩ := C0
  have hts0 : ∀ w ∈ wsL_law, w.before #[Value.ref bS] s = true := fun w hw => hts00 w (wsL_law_in w hw)
  have hts := dr_words hts0 d0
  have hK := hK0.drawn d0
  have hX : va_X bS LS0 xs (s.setDrawn d0) s.heap := hX
  have hbA : ¬ (fun q : Nat => s.heap.size ≤ q) bS := Nat.not_le.mpr hbl
  obtain ⟨i, n, L, pz, ri, rm, rp, ch, fs, e1, v1, e2, v2, b, g, a, pa, tb, aw, iw, qu, up, lo, su, kn, ik, im, fo, c9, rfl, rfl, hLS⟩ := hI
  have hR : Rel a b := hLS.2.2.1
  refine lv_aload_n hx hb dL_law_645 rfl (lv_at hl 1 rfl) ?_
  refine lv_aload_n hx hb dL_law_646 rfl (lv_at hl 0 rfl) ?_
  refine lv_iload_n hx hb dL_law_647 rfl (lv_at hl 3 rfl) ?_
  refine lv_iconst (v := nI 1) hx hb dL_law_648 (by decide) ?_
  refine n_add hx hb dL_law_649 ?_
  refine n_sld (j := j + 1) hx hb hX hbl hbA hS (by omega) (by omega) dL_law_650 ?_
  refine lv_aload_n hx hb dL_law_651 rfl (lv_at hl 0 rfl) ?_
  refine lv_iload_n hx hb dL_law_652 rfl (lv_at hl 3 rfl) ?_
  refine lv_iconst (v := nI 2) hx hb dL_law_653 (by decide) ?_
  refine n_add hx hb dL_law_654 ?_
  refine n_sld (j := j + 2) hx hb hX hbl hbA hS (by omega) (by omega) dL_law_655 ?_
  refine lv_aload_n hx hb dL_law_656 rfl (lv_at hl 0 rfl) ?_
  refine lv_iload_n hx hb dL_law_657 rfl (lv_at hl 3 rfl) ?_
  refine lv_iconst (v := nI 3) hx hb dL_law_658 (by decide) ?_
  refine n_add hx hb dL_law_659 ?_
  refine n_sld (j := j + 3) hx hb hX hbl hbA hS (by omega) (by omega) dL_law_660 ?_
  refine la_x (va_runV (As := [.int (xs (j + 1)), .int (xs (j + 2)), .int (xs (j + 3))]) (rest := []) ⟨hx, hb, hml, hown, hts⟩ (metX6_greatestRise l G xo ha rg ta tx ea ka ad sa i n (mkx L pz ri rm rp ch) fs e1 v1 e2 v2 b g hLS.1 (xs (j + 1)) (xs (j + 2)) (xs (j + 3))) (cwV 3 hts gL_law_X6_greatestRise rfl rfl rfl (by decide +kernel) ⟨Nat.le_of_ble_eq_true rfl, Nat.le_of_ble_eq_true rfl⟩) (pM_V (q0 := 0) hK (P_left hP) (D_left hD) rfl rfl) rfl rfl hl.1 rfl (lv_room (Nat.le_of_ble_eq_true rfl)) dL_law_661 ⟨Nat.le_refl _, Nat.le_refl _⟩) hP hD hS (fun _ => xc_adr) (fun r1 u1 H locs hw1 hP hD hS => ?_)
  refine lv_aload_n hx hb dL_law_664 rfl (lv_at hl 2 rfl) ?_
  refine lv_aload_n hx hb dL_law_665 rfl (lv_at hl 0 rfl) ?_
  refine lv_iload_n hx hb dL_law_666 rfl (lv_at hl 3 rfl) ?_
  refine lv_iconst (v := nI 1) hx hb dL_law_667 (by decide) ?_
  refine n_add hx hb dL_law_668 ?_
  refine n_sld (j := j + 1) hx hb hX hbl hbA hS (by omega) (by omega) dL_law_669 ?_
  refine lv_aload_n hx hb dL_law_670 rfl (lv_at hl 0 rfl) ?_
  refine lv_iload_n hx hb dL_law_671 rfl (lv_at hl 3 rfl) ?_
  refine lv_iconst (v := nI 2) hx hb dL_law_672 (by decide) ?_
  refine n_add hx hb dL_law_673 ?_
  refine n_sld (j := j + 2) hx hb hX hbl hbA hS (by omega) (by omega) dL_law_674 ?_
  refine lv_aload_n hx hb dL_law_675 rfl (lv_at hl 0 rfl) ?_
  refine lv_iload_n hx hb dL_law_676 rfl (lv_at hl 3 rfl) ?_
  refine lv_iconst (v := nI 3) hx hb dL_law_677 (by decide) ?_
  refine n_add hx hb dL_law_678 ?_
  refine n_sld (j := j + 3) hx hb hX hbl hbA hS (by omega) (by omega) dL_law_679 ?_
  refine crD_i hd0 (va_runV_D (As := [.int (xs (j + 1)), .int (xs (j + 2)), .int (xs (j + 3))]) (rest := [.int r1]) ⟨hx, hb, hml, hown, hts⟩ (metX7_greatestRise l G md [.ref (md 2), .int (nI n), .ref (md 3), .int (nI L), .int (nI aw), .int (bI iw), .ref (md 4), .float up, .float lo, .int (nI su), .ref (md 5), .ref (md 6), .ref (md 7), .float fo] a hR.mWF (xs (j + 1)) (xs (j + 2)) (xs (j + 3))) (cwV 3 hts gL_law_X7_greatestRise rfl rfl rfl (by decide +kernel) ⟨Nat.le_of_ble_eq_true rfl, Nat.le_of_ble_eq_true rfl⟩) (pR_V (q0 := 0) hK ((P_right hP).sub (ws' := scells G md [.ref (md 2), .int (nI n), .ref (md 3), .int (nI L), .int (nI aw), .int (bI iw), .ref (md 4), .float up, .float lo, .int (nI su), .ref (md 5), .ref (md 6), .ref (md 7), .float fo] a) [0, 1] rfl) rfl rfl) rfl rfl hl.1 rfl (lv_room (Nat.le_of_ble_eq_true rfl)) dL_law_680 ⟨Nat.le_refl _, Nat.le_refl _⟩) (fun r2 hw2 d0 hd0 => ?_)
  have heq : r1 = r2 := hw1.1.trans ((hw2.trans (an_GR hR (xs (j + 1)) (xs (j + 2)) (xs (j + 3)))).symm)
  refine lv_icmp_eq (tgt := 896) hx hb dL_law_683 (by decide) (fun c9e => ?_) (fun c9e => absurd heq c9e)
  exact kk _ _ _ _ _ (LIt.mk (hLS.ta hw1.2)) hd0 hP hD hS

set_option maxHeartbeats 4000000 in
set_option maxRecDepth 100000 in
/-- case 18: directIndex -/
theorem law_18 (l : Launch) (G : GG) (xo ha rg ta : Nat) (tx ea ka ad : Nat → Nat) (sa : Nat → Nat → Nat) (md : Nat → Nat) {p : Program} {e : Env} {s : State} {m : MethodId} {below : List Frame} {meth : Method} {c : Code} {bS LS0 : Nat} {xs : Nat → Int32} {Q : State → Prop} (C0 : lw_At p s m meth c bS LS0 xs) (hK0 : KX G s) {wx wm : va_W} (hI : LIt G xo ha rg ta tx ea ka ad sa md wx wm) {d0 : Drawn} (hd0 : s.drawn.sameBut d0 lw_cs) {H : Heap} {locs : List Loc} (hP : va_P G.1 vwCl (wx ++ wm) H) (hD : va_D (fun q : Nat => s.heap.size ≤ q) (wx ++ wm)) (hS : va_S (fun q : Nat => s.heap.size ≤ q) s.heap H locs) {j : Nat} (hj : j + 4 ≤ LS0) (hL9 : LS0 ≤ 2048) {ls : Array Slot} (hl : lv_has ls 4 [(0, .ref bS), (1, .ref xo), (2, .ref (md 0)), (3, .int (nI j))]) (kk : ∀ (wx wm : va_W) (d0 : Drawn) (H : Heap) (locs : List Loc), LIt G xo ha rg ta tx ea ka ad sa md wx wm → s.drawn.sameBut d0 lw_cs → va_P G.1 vwCl (wx ++ wm) H → va_D (fun q : Nat => s.heap.size ≤ q) (wx ++ wm) → va_S (fun q : Nat => s.heap.size ≤ q) s.heap H locs → W p l e room_1 (s.setDrawn d0) m #[Value.ref bS] below meth c H locs 600000 7302250 Q (F0 m 896 ls [])) : W p l e room_1 (s.setDrawn d0) m #[Value.ref bS] below meth c H locs 600000 7302250 Q (F0 m 688 ls []) := by
  obtain ⟨hx, hb, hr, hml, hown, hts00, hX, hbl, hlocks, hgv⟩ := C0
  have hts0 : ∀ w ∈ wsL_law, w.before #[Value.ref bS] s = true := fun w hw => hts00 w (wsL_law_in w hw)
  have hts := dr_words hts0 d0
  have hK := hK0.drawn d0
  have hX : va_X bS LS0 xs (s.setDrawn d0) s.heap := hX
  have hbA : ¬ (fun q : Nat => s.heap.size ≤ q) bS := Nat.not_le.mpr hbl
  obtain ⟨i, n, L, pz, ri, rm, rp, ch, fs, e1, v1, e2, v2, b, g, a, pa, tb, aw, iw, qu, up, lo, su, kn, ik, im, fo, c9, rfl, rfl, hLS⟩ := hI
  have hR : Rel a b := hLS.2.2.1
  refine lv_aload_n hx hb dL_law_688 rfl (lv_at hl 1 rfl) ?_
  refine lv_aload_n hx hb dL_law_689 rfl (lv_at hl 0 rfl) ?_
  refine lv_iload_n hx hb dL_law_690 rfl (lv_at hl 3 rfl) ?_
  refine lv_iconst (v := nI 1) hx hb dL_law_691 (by decide) ?_
  refine n_add hx hb dL_law_692 ?_
  refine n_sld (j := j + 1) hx hb hX hbl hbA hS (by omega) (by omega) dL_law_693 ?_
  refine lv_aload_n hx hb dL_law_694 rfl (lv_at hl 0 rfl) ?_
  refine lv_iload_n hx hb dL_law_695 rfl (lv_at hl 3 rfl) ?_
  refine lv_iconst (v := nI 2) hx hb dL_law_696 (by decide) ?_
  refine n_add hx hb dL_law_697 ?_
  refine n_sld (j := j + 2) hx hb hX hbl hbA hS (by omega) (by omega) dL_law_698 ?_
  refine lv_aload_n hx hb dL_law_699 rfl (lv_at hl 0 rfl) ?_
  refine lv_iload_n hx hb dL_law_700 rfl (lv_at hl 3 rfl) ?_
  refine lv_iconst (v := nI 3) hx hb dL_law_701 (by decide) ?_
  refine n_add hx hb dL_law_702 ?_
  refine n_sld (j := j + 3) hx hb hX hbl hbA hS (by omega) (by omega) dL_law_703 ?_
  refine la_x (va_runV (As := [.int (xs (j + 1)), .int (xs (j + 2)), .int (xs (j + 3))]) (rest := []) ⟨hx, hb, hml, hown, hts⟩ (metX6_directIndex l G xo ha rg ta tx ea ka ad sa i n (mkx L pz ri rm rp ch) fs e1 v1 e2 v2 b g hLS.1 (xs (j + 1)) (xs (j + 2)) (xs (j + 3))) (cwV 3 hts gL_law_X6_directIndex rfl rfl rfl (by decide +kernel) ⟨Nat.le_of_ble_eq_true rfl, Nat.le_of_ble_eq_true rfl⟩) (pM_V (q0 := 0) hK (P_left hP) (D_left hD) rfl rfl) rfl rfl hl.1 rfl (lv_room (Nat.le_of_ble_eq_true rfl)) dL_law_704 ⟨Nat.le_refl _, Nat.le_refl _⟩) hP hD hS (fun _ => xc_adr) (fun r1 u1 H locs hw1 hP hD hS => ?_)
  refine lv_aload_n hx hb dL_law_707 rfl (lv_at hl 2 rfl) ?_
  refine lv_aload_n hx hb dL_law_708 rfl (lv_at hl 0 rfl) ?_
  refine lv_iload_n hx hb dL_law_709 rfl (lv_at hl 3 rfl) ?_
  refine lv_iconst (v := nI 1) hx hb dL_law_710 (by decide) ?_
  refine n_add hx hb dL_law_711 ?_
  refine n_sld (j := j + 1) hx hb hX hbl hbA hS (by omega) (by omega) dL_law_712 ?_
  refine lv_aload_n hx hb dL_law_713 rfl (lv_at hl 0 rfl) ?_
  refine lv_iload_n hx hb dL_law_714 rfl (lv_at hl 3 rfl) ?_
  refine lv_iconst (v := nI 2) hx hb dL_law_715 (by decide) ?_
  refine n_add hx hb dL_law_716 ?_
  refine n_sld (j := j + 2) hx hb hX hbl hbA hS (by omega) (by omega) dL_law_717 ?_
  refine lv_aload_n hx hb dL_law_718 rfl (lv_at hl 0 rfl) ?_
  refine lv_iload_n hx hb dL_law_719 rfl (lv_at hl 3 rfl) ?_
  refine lv_iconst (v := nI 3) hx hb dL_law_720 (by decide) ?_
  refine n_add hx hb dL_law_721 ?_
  refine n_sld (j := j + 3) hx hb hX hbl hbA hS (by omega) (by omega) dL_law_722 ?_
  refine laD_m hd0 (va_runV_D (As := [.int (xs (j + 1)), .int (xs (j + 2)), .int (xs (j + 3))]) (rest := [.int r1]) ⟨hx, hb, hml, hown, hts⟩ (metX7_directIndex l G md a pa n tb L aw iw qu up lo su kn ik im fo hR.mWF (xs (j + 1)) (xs (j + 2)) (xs (j + 3))) (cwV 3 hts gL_law_X7_directIndex rfl rfl rfl (by decide +kernel) ⟨Nat.le_of_ble_eq_true rfl, Nat.le_of_ble_eq_true rfl⟩) (pM_V (q0 := 0) hK (P_right hP) (D_right hD) rfl rfl) rfl rfl hl.1 rfl (lv_room (Nat.le_of_ble_eq_true rfl)) dL_law_723 ⟨Nat.le_refl _, Nat.le_refl _⟩) hP hD hS (fun _ => rfl) (fun r2 u2 H locs hw2 hP hD hS d0 hd0 => ?_)
  have heq : r1 = r2 := hw1.1.trans ((hw2.trans (an_DI hR (xs (j + 1)) (xs (j + 2)) (xs (j + 3)))).symm)
  refine lv_icmp_eq (tgt := 896) hx hb dL_law_726 (by decide) (fun c9e => ?_) (fun c9e => absurd heq c9e)
  exact kk _ _ _ _ _ (LIt.mk (hLS.ta hw1.2)) hd0 hP hD hS

set_option maxHeartbeats 4000000 in
set_option maxRecDepth 100000 in
/-- case 19: chainedIndex -/
theorem law_19 (l : Launch) (G : GG) (xo ha rg ta : Nat) (tx ea ka ad : Nat → Nat) (sa : Nat → Nat → Nat) (md : Nat → Nat) {p : Program} {e : Env} {s : State} {m : MethodId} {below : List Frame} {meth : Method} {c : Code} {bS LS0 : Nat} {xs : Nat → Int32} {Q : State → Prop} (C0 : lw_At p s m meth c bS LS0 xs) (hK0 : KX G s) {wx wm : va_W} (hI : LIt G xo ha rg ta tx ea ka ad sa md wx wm) {d0 : Drawn} (hd0 : s.drawn.sameBut d0 lw_cs) {H : Heap} {locs : List Loc} (hP : va_P G.1 vwCl (wx ++ wm) H) (hD : va_D (fun q : Nat => s.heap.size ≤ q) (wx ++ wm)) (hS : va_S (fun q : Nat => s.heap.size ≤ q) s.heap H locs) {j : Nat} (hj : j + 4 ≤ LS0) (hL9 : LS0 ≤ 2048) {ls : Array Slot} (hl : lv_has ls 4 [(0, .ref bS), (1, .ref xo), (2, .ref (md 0)), (3, .int (nI j))]) (kk : ∀ (wx wm : va_W) (d0 : Drawn) (H : Heap) (locs : List Loc), LIt G xo ha rg ta tx ea ka ad sa md wx wm → s.drawn.sameBut d0 lw_cs → va_P G.1 vwCl (wx ++ wm) H → va_D (fun q : Nat => s.heap.size ≤ q) (wx ++ wm) → va_S (fun q : Nat => s.heap.size ≤ q) s.heap H locs → W p l e room_1 (s.setDrawn d0) m #[Value.ref bS] below meth c H locs 600000 7302250 Q (F0 m 896 ls [])) : W p l e room_1 (s.setDrawn d0) m #[Value.ref bS] below meth c H locs 600000 7302250 Q (F0 m 731 ls []) := by
  obtain ⟨hx, hb, hr, hml, hown, hts00, hX, hbl, hlocks, hgv⟩ := C0
  have hts0 : ∀ w ∈ wsL_law, w.before #[Value.ref bS] s = true := fun w hw => hts00 w (wsL_law_in w hw)
  have hts := dr_words hts0 d0
  have hK := hK0.drawn d0
  have hX : va_X bS LS0 xs (s.setDrawn d0) s.heap := hX
  have hbA : ¬ (fun q : Nat => s.heap.size ≤ q) bS := Nat.not_le.mpr hbl
  obtain ⟨i, n, L, pz, ri, rm, rp, ch, fs, e1, v1, e2, v2, b, g, a, pa, tb, aw, iw, qu, up, lo, su, kn, ik, im, fo, c9, rfl, rfl, hLS⟩ := hI
  have hR : Rel a b := hLS.2.2.1
  refine lv_aload_n hx hb dL_law_731 rfl (lv_at hl 1 rfl) ?_
  refine lv_aload_n hx hb dL_law_732 rfl (lv_at hl 0 rfl) ?_
  refine lv_iload_n hx hb dL_law_733 rfl (lv_at hl 3 rfl) ?_
  refine lv_iconst (v := nI 1) hx hb dL_law_734 (by decide) ?_
  refine n_add hx hb dL_law_735 ?_
  refine n_sld (j := j + 1) hx hb hX hbl hbA hS (by omega) (by omega) dL_law_736 ?_
  refine lv_aload_n hx hb dL_law_737 rfl (lv_at hl 0 rfl) ?_
  refine lv_iload_n hx hb dL_law_738 rfl (lv_at hl 3 rfl) ?_
  refine lv_iconst (v := nI 2) hx hb dL_law_739 (by decide) ?_
  refine n_add hx hb dL_law_740 ?_
  refine n_sld (j := j + 2) hx hb hX hbl hbA hS (by omega) (by omega) dL_law_741 ?_
  refine lv_aload_n hx hb dL_law_742 rfl (lv_at hl 0 rfl) ?_
  refine lv_iload_n hx hb dL_law_743 rfl (lv_at hl 3 rfl) ?_
  refine lv_iconst (v := nI 3) hx hb dL_law_744 (by decide) ?_
  refine n_add hx hb dL_law_745 ?_
  refine n_sld (j := j + 3) hx hb hX hbl hbA hS (by omega) (by omega) dL_law_746 ?_
  refine la_x (va_runV (As := [.int (xs (j + 1)), .int (xs (j + 2)), .int (xs (j + 3))]) (rest := []) ⟨hx, hb, hml, hown, hts⟩ (metX6_chainedIndex l G xo ha rg ta tx ea ka ad sa i n (mkx L pz ri rm rp ch) fs e1 v1 e2 v2 b g hLS.1 (xs (j + 1)) (xs (j + 2)) (xs (j + 3))) (cwV 3 hts gL_law_X6_chainedIndex rfl rfl rfl (by decide +kernel) ⟨Nat.le_of_ble_eq_true rfl, Nat.le_of_ble_eq_true rfl⟩) (pM_V (q0 := 0) hK (P_left hP) (D_left hD) rfl rfl) rfl rfl hl.1 rfl (lv_room (Nat.le_of_ble_eq_true rfl)) dL_law_747 ⟨Nat.le_refl _, Nat.le_refl _⟩) hP hD hS (fun _ => xc_adr) (fun r1 u1 H locs hw1 hP hD hS => ?_)
  refine lv_aload_n hx hb dL_law_750 rfl (lv_at hl 2 rfl) ?_
  refine lv_aload_n hx hb dL_law_751 rfl (lv_at hl 0 rfl) ?_
  refine lv_iload_n hx hb dL_law_752 rfl (lv_at hl 3 rfl) ?_
  refine lv_iconst (v := nI 1) hx hb dL_law_753 (by decide) ?_
  refine n_add hx hb dL_law_754 ?_
  refine n_sld (j := j + 1) hx hb hX hbl hbA hS (by omega) (by omega) dL_law_755 ?_
  refine lv_aload_n hx hb dL_law_756 rfl (lv_at hl 0 rfl) ?_
  refine lv_iload_n hx hb dL_law_757 rfl (lv_at hl 3 rfl) ?_
  refine lv_iconst (v := nI 2) hx hb dL_law_758 (by decide) ?_
  refine n_add hx hb dL_law_759 ?_
  refine n_sld (j := j + 2) hx hb hX hbl hbA hS (by omega) (by omega) dL_law_760 ?_
  refine lv_aload_n hx hb dL_law_761 rfl (lv_at hl 0 rfl) ?_
  refine lv_iload_n hx hb dL_law_762 rfl (lv_at hl 3 rfl) ?_
  refine lv_iconst (v := nI 3) hx hb dL_law_763 (by decide) ?_
  refine n_add hx hb dL_law_764 ?_
  refine n_sld (j := j + 3) hx hb hX hbl hbA hS (by omega) (by omega) dL_law_765 ?_
  refine laD_m hd0 (va_runV_D (As := [.int (xs (j + 1)), .int (xs (j + 2)), .int (xs (j + 3))]) (rest := [.int r1]) ⟨hx, hb, hml, hown, hts⟩ (metX7_chainedIndex l G md a pa n tb L aw iw qu up lo su kn ik im fo hR.mWF (xs (j + 1)) (xs (j + 2)) (xs (j + 3))) (cwV 3 hts gL_law_X7_chainedIndex rfl rfl rfl (by decide +kernel) ⟨Nat.le_of_ble_eq_true rfl, Nat.le_of_ble_eq_true rfl⟩) (pM_V (q0 := 0) hK (P_right hP) (D_right hD) rfl rfl) rfl rfl hl.1 rfl (lv_room (Nat.le_of_ble_eq_true rfl)) dL_law_766 ⟨Nat.le_refl _, Nat.le_refl _⟩) hP hD hS (fun _ => rfl) (fun r2 u2 H locs hw2 hP hD hS d0 hd0 => ?_)
  have heq : r1 = r2 := hw1.1.trans ((hw2.trans (an_CI hR (xs (j + 1)) (xs (j + 2)) (xs (j + 3)))).symm)
  refine lv_icmp_eq (tgt := 896) hx hb dL_law_769 (by decide) (fun c9e => ?_) (fun c9e => absurd heq c9e)
  exact kk _ _ _ _ _ (LIt.mk (hLS.ta hw1.2)) hd0 hP hD hS

set_option maxHeartbeats 4000000 in
set_option maxRecDepth 100000 in
/-- case 20: drift -/
theorem law_20 (l : Launch) (G : GG) (xo ha rg ta : Nat) (tx ea ka ad : Nat → Nat) (sa : Nat → Nat → Nat) (md : Nat → Nat) {p : Program} {e : Env} {s : State} {m : MethodId} {below : List Frame} {meth : Method} {c : Code} {bS LS0 : Nat} {xs : Nat → Int32} {Q : State → Prop} (C0 : lw_At p s m meth c bS LS0 xs) (hK0 : KX G s) {wx wm : va_W} (hI : LIt G xo ha rg ta tx ea ka ad sa md wx wm) {d0 : Drawn} (hd0 : s.drawn.sameBut d0 lw_cs) {H : Heap} {locs : List Loc} (hP : va_P G.1 vwCl (wx ++ wm) H) (hD : va_D (fun q : Nat => s.heap.size ≤ q) (wx ++ wm)) (hS : va_S (fun q : Nat => s.heap.size ≤ q) s.heap H locs) {j : Nat} (hj : j + 4 ≤ LS0) (hL9 : LS0 ≤ 2048) {ls : Array Slot} (hl : lv_has ls 4 [(0, .ref bS), (1, .ref xo), (2, .ref (md 0)), (3, .int (nI j))]) (kk : ∀ (wx wm : va_W) (d0 : Drawn) (H : Heap) (locs : List Loc), LIt G xo ha rg ta tx ea ka ad sa md wx wm → s.drawn.sameBut d0 lw_cs → va_P G.1 vwCl (wx ++ wm) H → va_D (fun q : Nat => s.heap.size ≤ q) (wx ++ wm) → va_S (fun q : Nat => s.heap.size ≤ q) s.heap H locs → W p l e room_1 (s.setDrawn d0) m #[Value.ref bS] below meth c H locs 600000 7302250 Q (F0 m 896 ls [])) : W p l e room_1 (s.setDrawn d0) m #[Value.ref bS] below meth c H locs 600000 7302250 Q (F0 m 774 ls []) := by
  obtain ⟨hx, hb, hr, hml, hown, hts00, hX, hbl, hlocks, hgv⟩ := C0
  have hts0 : ∀ w ∈ wsL_law, w.before #[Value.ref bS] s = true := fun w hw => hts00 w (wsL_law_in w hw)
  have hts := dr_words hts0 d0
  have hK := hK0.drawn d0
  have hX : va_X bS LS0 xs (s.setDrawn d0) s.heap := hX
  have hbA : ¬ (fun q : Nat => s.heap.size ≤ q) bS := Nat.not_le.mpr hbl
  obtain ⟨i, n, L, pz, ri, rm, rp, ch, fs, e1, v1, e2, v2, b, g, a, pa, tb, aw, iw, qu, up, lo, su, kn, ik, im, fo, c9, rfl, rfl, hLS⟩ := hI
  have hR : Rel a b := hLS.2.2.1
  refine lv_aload_n hx hb dL_law_774 rfl (lv_at hl 1 rfl) ?_
  refine lv_aload_n hx hb dL_law_775 rfl (lv_at hl 0 rfl) ?_
  refine lv_iload_n hx hb dL_law_776 rfl (lv_at hl 3 rfl) ?_
  refine lv_iconst (v := nI 1) hx hb dL_law_777 (by decide) ?_
  refine n_add hx hb dL_law_778 ?_
  refine n_sld (j := j + 1) hx hb hX hbl hbA hS (by omega) (by omega) dL_law_779 ?_
  refine lv_aload_n hx hb dL_law_780 rfl (lv_at hl 0 rfl) ?_
  refine lv_iload_n hx hb dL_law_781 rfl (lv_at hl 3 rfl) ?_
  refine lv_iconst (v := nI 2) hx hb dL_law_782 (by decide) ?_
  refine n_add hx hb dL_law_783 ?_
  refine n_sld (j := j + 2) hx hb hX hbl hbA hS (by omega) (by omega) dL_law_784 ?_
  refine lv_aload_n hx hb dL_law_785 rfl (lv_at hl 0 rfl) ?_
  refine lv_iload_n hx hb dL_law_786 rfl (lv_at hl 3 rfl) ?_
  refine lv_iconst (v := nI 3) hx hb dL_law_787 (by decide) ?_
  refine n_add hx hb dL_law_788 ?_
  refine n_sld (j := j + 3) hx hb hX hbl hbA hS (by omega) (by omega) dL_law_789 ?_
  refine la_x (va_runV (As := [.int (xs (j + 1)), .int (xs (j + 2)), .int (xs (j + 3))]) (rest := []) ⟨hx, hb, hml, hown, hts⟩ (metX6_drift l G xo ha rg ta tx ea ka ad sa i n (mkx L pz ri rm rp ch) fs e1 v1 e2 v2 b g hLS.1 (xs (j + 1)) (xs (j + 2)) (xs (j + 3))) (cwV 3 hts gL_law_X6_drift rfl rfl rfl (by decide +kernel) ⟨Nat.le_of_ble_eq_true rfl, Nat.le_of_ble_eq_true rfl⟩) (pM_V (q0 := 0) hK (P_left hP) (D_left hD) rfl rfl) rfl rfl hl.1 rfl (lv_room (Nat.le_of_ble_eq_true rfl)) dL_law_790 ⟨Nat.le_refl _, Nat.le_refl _⟩) hP hD hS (fun _ => xc_adr) (fun r1 u1 H locs hw1 hP hD hS => ?_)
  refine lv_aload_n hx hb dL_law_793 rfl (lv_at hl 2 rfl) ?_
  refine lv_aload_n hx hb dL_law_794 rfl (lv_at hl 0 rfl) ?_
  refine lv_iload_n hx hb dL_law_795 rfl (lv_at hl 3 rfl) ?_
  refine lv_iconst (v := nI 1) hx hb dL_law_796 (by decide) ?_
  refine n_add hx hb dL_law_797 ?_
  refine n_sld (j := j + 1) hx hb hX hbl hbA hS (by omega) (by omega) dL_law_798 ?_
  refine lv_aload_n hx hb dL_law_799 rfl (lv_at hl 0 rfl) ?_
  refine lv_iload_n hx hb dL_law_800 rfl (lv_at hl 3 rfl) ?_
  refine lv_iconst (v := nI 2) hx hb dL_law_801 (by decide) ?_
  refine n_add hx hb dL_law_802 ?_
  refine n_sld (j := j + 2) hx hb hX hbl hbA hS (by omega) (by omega) dL_law_803 ?_
  refine lv_aload_n hx hb dL_law_804 rfl (lv_at hl 0 rfl) ?_
  refine lv_iload_n hx hb dL_law_805 rfl (lv_at hl 3 rfl) ?_
  refine lv_iconst (v := nI 3) hx hb dL_law_806 (by decide) ?_
  refine n_add hx hb dL_law_807 ?_
  refine n_sld (j := j + 3) hx hb hX hbl hbA hS (by omega) (by omega) dL_law_808 ?_
  refine laD_m hd0 (va_runV_D (As := [.int (xs (j + 1)), .int (xs (j + 2)), .int (xs (j + 3))]) (rest := [.int r1]) ⟨hx, hb, hml, hown, hts⟩ (metX7_drift l G md a pa n tb L aw iw qu up lo su kn ik im fo hR.mWF (xs (j + 1)) (xs (j + 2)) (xs (j + 3))) (cwV 3 hts gL_law_X7_drift rfl rfl rfl (by decide +kernel) ⟨Nat.le_of_ble_eq_true rfl, Nat.le_of_ble_eq_true rfl⟩) (pM_V (q0 := 0) hK (P_right hP) (D_right hD) rfl rfl) rfl rfl hl.1 rfl (lv_room (Nat.le_of_ble_eq_true rfl)) dL_law_809 ⟨Nat.le_refl _, Nat.le_refl _⟩) hP hD hS (fun _ => rfl) (fun r2 u2 H locs hw2 hP hD hS d0 hd0 => ?_)
  have heq : r1 = r2 := hw1.1.trans ((hw2.trans (an_DR hR (xs (j + 1)) (xs (j + 2)) (xs (j + 3)))).symm)
  refine lv_icmp_eq (tgt := 896) hx hb dL_law_812 (by decide) (fun c9e => ?_) (fun c9e => absurd heq c9e)
  exact kk _ _ _ _ _ (LIt.mk (hLS.ta hw1.2)) hd0 hP hD hS

set_option maxHeartbeats 4000000 in
set_option maxRecDepth 100000 in
/-- case 21: aggregateIndex -/
theorem law_21 (l : Launch) (G : GG) (xo ha rg ta : Nat) (tx ea ka ad : Nat → Nat) (sa : Nat → Nat → Nat) (md : Nat → Nat) {p : Program} {e : Env} {s : State} {m : MethodId} {below : List Frame} {meth : Method} {c : Code} {bS LS0 : Nat} {xs : Nat → Int32} {Q : State → Prop} (C0 : lw_At p s m meth c bS LS0 xs) (hK0 : KX G s) {wx wm : va_W} (hI : LIt G xo ha rg ta tx ea ka ad sa md wx wm) {d0 : Drawn} (hd0 : s.drawn.sameBut d0 lw_cs) {H : Heap} {locs : List Loc} (hP : va_P G.1 vwCl (wx ++ wm) H) (hD : va_D (fun q : Nat => s.heap.size ≤ q) (wx ++ wm)) (hS : va_S (fun q : Nat => s.heap.size ≤ q) s.heap H locs) {j : Nat} (hj : j + 4 ≤ LS0) (hL9 : LS0 ≤ 2048) {ls : Array Slot} (hl : lv_has ls 4 [(0, .ref bS), (1, .ref xo), (2, .ref (md 0)), (3, .int (nI j))]) (kk : ∀ (wx wm : va_W) (d0 : Drawn) (H : Heap) (locs : List Loc), LIt G xo ha rg ta tx ea ka ad sa md wx wm → s.drawn.sameBut d0 lw_cs → va_P G.1 vwCl (wx ++ wm) H → va_D (fun q : Nat => s.heap.size ≤ q) (wx ++ wm) → va_S (fun q : Nat => s.heap.size ≤ q) s.heap H locs → W p l e room_1 (s.setDrawn d0) m #[Value.ref bS] below meth c H locs 600000 7302250 Q (F0 m 896 ls [])) : W p l e room_1 (s.setDrawn d0) m #[Value.ref bS] below meth c H locs 600000 7302250 Q (F0 m 817 ls []) := by
  obtain ⟨hx, hb, hr, hml, hown, hts00, hX, hbl, hlocks, hgv⟩ := C0
  have hts0 : ∀ w ∈ wsL_law, w.before #[Value.ref bS] s = true := fun w hw => hts00 w (wsL_law_in w hw)
  have hts := dr_words hts0 d0
  have hK := hK0.drawn d0
  have hX : va_X bS LS0 xs (s.setDrawn d0) s.heap := hX
  have hbA : ¬ (fun q : Nat => s.heap.size ≤ q) bS := Nat.not_le.mpr hbl
  obtain ⟨i, n, L, pz, ri, rm, rp, ch, fs, e1, v1, e2, v2, b, g, a, pa, tb, aw, iw, qu, up, lo, su, kn, ik, im, fo, c9, rfl, rfl, hLS⟩ := hI
  have hR : Rel a b := hLS.2.2.1
  refine lv_aload_n hx hb dL_law_817 rfl (lv_at hl 1 rfl) ?_
  refine lv_aload_n hx hb dL_law_818 rfl (lv_at hl 0 rfl) ?_
  refine lv_iload_n hx hb dL_law_819 rfl (lv_at hl 3 rfl) ?_
  refine lv_iconst (v := nI 1) hx hb dL_law_820 (by decide) ?_
  refine n_add hx hb dL_law_821 ?_
  refine n_sld (j := j + 1) hx hb hX hbl hbA hS (by omega) (by omega) dL_law_822 ?_
  refine lv_aload_n hx hb dL_law_823 rfl (lv_at hl 0 rfl) ?_
  refine lv_iload_n hx hb dL_law_824 rfl (lv_at hl 3 rfl) ?_
  refine lv_iconst (v := nI 2) hx hb dL_law_825 (by decide) ?_
  refine n_add hx hb dL_law_826 ?_
  refine n_sld (j := j + 2) hx hb hX hbl hbA hS (by omega) (by omega) dL_law_827 ?_
  refine la_x (va_runV (As := [.int (xs (j + 1)), .int (xs (j + 2))]) (rest := []) ⟨hx, hb, hml, hown, hts⟩ (metX6_aggregateIndex l G xo ha rg ta tx ea ka ad sa i n (mkx L pz ri rm rp ch) fs e1 v1 e2 v2 b g hLS.1 (xs (j + 1)) (xs (j + 2))) (cwV 2 hts gL_law_X6_aggregateIndex rfl rfl rfl (by decide +kernel) ⟨Nat.le_of_ble_eq_true rfl, Nat.le_of_ble_eq_true rfl⟩) (pM_V (q0 := 0) hK (P_left hP) (D_left hD) rfl rfl) rfl rfl hl.1 rfl (lv_room (Nat.le_of_ble_eq_true rfl)) dL_law_828 ⟨Nat.le_refl _, Nat.le_refl _⟩) hP hD hS (fun _ => xc_adr) (fun r1 u1 H locs hw1 hP hD hS => ?_)
  refine lv_aload_n hx hb dL_law_831 rfl (lv_at hl 2 rfl) ?_
  refine lv_aload_n hx hb dL_law_832 rfl (lv_at hl 0 rfl) ?_
  refine lv_iload_n hx hb dL_law_833 rfl (lv_at hl 3 rfl) ?_
  refine lv_iconst (v := nI 1) hx hb dL_law_834 (by decide) ?_
  refine n_add hx hb dL_law_835 ?_
  refine n_sld (j := j + 1) hx hb hX hbl hbA hS (by omega) (by omega) dL_law_836 ?_
  refine lv_aload_n hx hb dL_law_837 rfl (lv_at hl 0 rfl) ?_
  refine lv_iload_n hx hb dL_law_838 rfl (lv_at hl 3 rfl) ?_
  refine lv_iconst (v := nI 2) hx hb dL_law_839 (by decide) ?_
  refine n_add hx hb dL_law_840 ?_
  refine n_sld (j := j + 2) hx hb hX hbl hbA hS (by omega) (by omega) dL_law_841 ?_
  refine laD_m hd0 (va_runV_D (As := [.int (xs (j + 1)), .int (xs (j + 2))]) (rest := [.int r1]) ⟨hx, hb, hml, hown, hts⟩ (metX7_aggregateIndex l G md a pa n tb L aw iw qu up lo su kn ik im fo hR.mWF hR.w4 (xs (j + 1)) (xs (j + 2))) (cwV 2 hts gL_law_X7_aggregateIndex rfl rfl rfl (by decide +kernel) ⟨Nat.le_of_ble_eq_true rfl, Nat.le_of_ble_eq_true rfl⟩) (pM_V (q0 := 0) hK (P_right hP) (D_right hD) rfl rfl) rfl rfl hl.1 rfl (lv_room (Nat.le_of_ble_eq_true rfl)) dL_law_842 ⟨Nat.le_refl _, Nat.le_refl _⟩) hP hD hS (fun _ => rfl) (fun r2 u2 H locs hw2 hP hD hS d0 hd0 => ?_)
  have heq : r1 = r2 := hw1.1.trans ((hw2.trans (an_AX hR (xs (j + 1)) (xs (j + 2)))).symm)
  refine lv_icmp_eq (tgt := 896) hx hb dL_law_845 (by decide) (fun c9e => ?_) (fun c9e => absurd heq c9e)
  exact kk _ _ _ _ _ (LIt.mk (hLS.ta hw1.2)) hd0 hP hD hS

set_option maxHeartbeats 4000000 in
set_option maxRecDepth 100000 in
/-- case 22: aggregateBits -/
theorem law_22 (l : Launch) (G : GG) (xo ha rg ta : Nat) (tx ea ka ad : Nat → Nat) (sa : Nat → Nat → Nat) (md : Nat → Nat) {p : Program} {e : Env} {s : State} {m : MethodId} {below : List Frame} {meth : Method} {c : Code} {bS LS0 : Nat} {xs : Nat → Int32} {Q : State → Prop} (C0 : lw_At p s m meth c bS LS0 xs) (hK0 : KX G s) {wx wm : va_W} (hI : LIt G xo ha rg ta tx ea ka ad sa md wx wm) {d0 : Drawn} (hd0 : s.drawn.sameBut d0 lw_cs) {H : Heap} {locs : List Loc} (hP : va_P G.1 vwCl (wx ++ wm) H) (hD : va_D (fun q : Nat => s.heap.size ≤ q) (wx ++ wm)) (hS : va_S (fun q : Nat => s.heap.size ≤ q) s.heap H locs) {j : Nat} (hj : j + 4 ≤ LS0) (hL9 : LS0 ≤ 2048) {ls : Array Slot} (hl : lv_has ls 4 [(0, .ref bS), (1, .ref xo), (2, .ref (md 0)), (3, .int (nI j))]) (kk : ∀ (wx wm : va_W) (d0 : Drawn) (H : Heap) (locs : List Loc), LIt G xo ha rg ta tx ea ka ad sa md wx wm → s.drawn.sameBut d0 lw_cs → va_P G.1 vwCl (wx ++ wm) H → va_D (fun q : Nat => s.heap.size ≤ q) (wx ++ wm) → va_S (fun q : Nat => s.heap.size ≤ q) s.heap H locs → W p l e room_1 (s.setDrawn d0) m #[Value.ref bS] below meth c H locs 600000 7302250 Q (F0 m 896 ls [])) : W p l e room_1 (s.setDrawn d0) m #[Value.ref bS] below meth c H locs 600000 7302250 Q (F0 m 850 ls []) := by
  obtain ⟨hx, hb, hr, hml, hown, hts00, hX, hbl, hlocks, hgv⟩ := C0
  have hts0 : ∀ w ∈ wsL_law, w.before #[Value.ref bS] s = true := fun w hw => hts00 w (wsL_law_in w hw)
  have hts := dr_words hts0 d0
  have hK := hK0.drawn d0
  have hX : va_X bS LS0 xs (s.setDrawn d0) s.heap := hX
  have hbA : ¬ (fun q : Nat => s.heap.size ≤ q) bS := Nat.not_le.mpr hbl
  obtain ⟨i, n, L, pz, ri, rm, rp, ch, fs, e1, v1, e2, v2, b, g, a, pa, tb, aw, iw, qu, up, lo, su, kn, ik, im, fo, c9, rfl, rfl, hLS⟩ := hI
  have hR : Rel a b := hLS.2.2.1
  refine lv_aload_n hx hb dL_law_850 rfl (lv_at hl 1 rfl) ?_
  refine lv_aload_n hx hb dL_law_851 rfl (lv_at hl 0 rfl) ?_
  refine lv_iload_n hx hb dL_law_852 rfl (lv_at hl 3 rfl) ?_
  refine lv_iconst (v := nI 1) hx hb dL_law_853 (by decide) ?_
  refine n_add hx hb dL_law_854 ?_
  refine n_sld (j := j + 1) hx hb hX hbl hbA hS (by omega) (by omega) dL_law_855 ?_
  refine lv_aload_n hx hb dL_law_856 rfl (lv_at hl 0 rfl) ?_
  refine lv_iload_n hx hb dL_law_857 rfl (lv_at hl 3 rfl) ?_
  refine lv_iconst (v := nI 2) hx hb dL_law_858 (by decide) ?_
  refine n_add hx hb dL_law_859 ?_
  refine n_sld (j := j + 2) hx hb hX hbl hbA hS (by omega) (by omega) dL_law_860 ?_
  refine la_x (va_runV (As := [.int (xs (j + 1)), .int (xs (j + 2))]) (rest := []) ⟨hx, hb, hml, hown, hts⟩ (metX6_aggregateBits l G xo ha rg ta tx ea ka ad sa i n (mkx L pz ri rm rp ch) fs e1 v1 e2 v2 b g hLS.1 (xs (j + 1)) (xs (j + 2))) (cwV 2 hts gL_law_X6_aggregateBits rfl rfl rfl (by decide +kernel) ⟨Nat.le_of_ble_eq_true rfl, Nat.le_of_ble_eq_true rfl⟩) (pM_V (q0 := 0) hK (P_left hP) (D_left hD) rfl rfl) rfl rfl hl.1 rfl (lv_room (Nat.le_of_ble_eq_true rfl)) dL_law_861 ⟨Nat.le_refl _, Nat.le_refl _⟩) hP hD hS (fun _ => xc_adr) (fun r1 u1 H locs hw1 hP hD hS => ?_)
  refine lv_aload_n hx hb dL_law_864 rfl (lv_at hl 2 rfl) ?_
  refine lv_aload_n hx hb dL_law_865 rfl (lv_at hl 0 rfl) ?_
  refine lv_iload_n hx hb dL_law_866 rfl (lv_at hl 3 rfl) ?_
  refine lv_iconst (v := nI 1) hx hb dL_law_867 (by decide) ?_
  refine n_add hx hb dL_law_868 ?_
  refine n_sld (j := j + 1) hx hb hX hbl hbA hS (by omega) (by omega) dL_law_869 ?_
  refine lv_aload_n hx hb dL_law_870 rfl (lv_at hl 0 rfl) ?_
  refine lv_iload_n hx hb dL_law_871 rfl (lv_at hl 3 rfl) ?_
  refine lv_iconst (v := nI 2) hx hb dL_law_872 (by decide) ?_
  refine n_add hx hb dL_law_873 ?_
  refine n_sld (j := j + 2) hx hb hX hbl hbA hS (by omega) (by omega) dL_law_874 ?_
  refine laD_m hd0 (va_runV_D (As := [.int (xs (j + 1)), .int (xs (j + 2))]) (rest := [.int r1]) ⟨hx, hb, hml, hown, hts⟩ (metX7_aggregateBits l G md a pa n tb L aw iw qu up lo su kn ik im fo hR.mWF hR.w4 (xs (j + 1)) (xs (j + 2))) (cwV 2 hts gL_law_X7_aggregateBits rfl rfl rfl (by decide +kernel) ⟨Nat.le_of_ble_eq_true rfl, Nat.le_of_ble_eq_true rfl⟩) (pM_V (q0 := 0) hK (P_right hP) (D_right hD) rfl rfl) rfl rfl hl.1 rfl (lv_room (Nat.le_of_ble_eq_true rfl)) dL_law_875 ⟨Nat.le_refl _, Nat.le_refl _⟩) hP hD hS (fun _ => rfl) (fun r2 u2 H locs hw2 hP hD hS d0 hd0 => ?_)
  have heq : r1 = r2 := hw1.1.trans ((hw2.trans (an_AB hR (xs (j + 1)) (xs (j + 2)))).symm)
  refine lv_icmp_eq (tgt := 896) hx hb dL_law_878 (by decide) (fun c9e => ?_) (fun c9e => absurd heq c9e)
  exact kk _ _ _ _ _ (LIt.mk (hLS.ta hw1.2)) hd0 hP hD hS

set_option maxHeartbeats 4000000 in
set_option maxRecDepth 100000 in
/-- case 23: undo -/
theorem law_23 (l : Launch) (G : GG) (xo ha rg ta : Nat) (tx ea ka ad : Nat → Nat) (sa : Nat → Nat → Nat) (md : Nat → Nat) {p : Program} {e : Env} {s : State} {m : MethodId} {below : List Frame} {meth : Method} {c : Code} {bS LS0 : Nat} {xs : Nat → Int32} {Q : State → Prop} (C0 : lw_At p s m meth c bS LS0 xs) (hK0 : KX G s) {wx wm : va_W} (hI : LIt G xo ha rg ta tx ea ka ad sa md wx wm) {d0 : Drawn} (hd0 : s.drawn.sameBut d0 lw_cs) {H : Heap} {locs : List Loc} (hP : va_P G.1 vwCl (wx ++ wm) H) (hD : va_D (fun q : Nat => s.heap.size ≤ q) (wx ++ wm)) (hS : va_S (fun q : Nat => s.heap.size ≤ q) s.heap H locs) {j : Nat} (hj : j + 4 ≤ LS0) (hL9 : LS0 ≤ 2048) {ls : Array Slot} (hl : lv_has ls 4 [(0, .ref bS), (1, .ref xo), (2, .ref (md 0)), (3, .int (nI j))]) (kk : ∀ (wx wm : va_W) (d0 : Drawn) (H : Heap) (locs : List Loc), LIt G xo ha rg ta tx ea ka ad sa md wx wm → s.drawn.sameBut d0 lw_cs → va_P G.1 vwCl (wx ++ wm) H → va_D (fun q : Nat => s.heap.size ≤ q) (wx ++ wm) → va_S (fun q : Nat => s.heap.size ≤ q) s.heap H locs → W p l e room_1 (s.setDrawn d0) m #[Value.ref bS] below meth c H locs 600000 7302250 Q (F0 m 896 ls [])) : W p l e room_1 (s.setDrawn d0) m #[Value.ref bS] below meth c H locs 600000 7302250 Q (F0 m 883 ls []) := by
  obtain ⟨hx, hb, hr, hml, hown, hts00, hX, hbl, hlocks, hgv⟩ := C0
  have hts0 : ∀ w ∈ wsL_law, w.before #[Value.ref bS] s = true := fun w hw => hts00 w (wsL_law_in w hw)
  have hts := dr_words hts0 d0
  have hK := hK0.drawn d0
  have hX : va_X bS LS0 xs (s.setDrawn d0) s.heap := hX
  have hbA : ¬ (fun q : Nat => s.heap.size ≤ q) bS := Nat.not_le.mpr hbl
  obtain ⟨i, n, L, pz, ri, rm, rp, ch, fs, e1, v1, e2, v2, b, g, a, pa, tb, aw, iw, qu, up, lo, su, kn, ik, im, fo, c9, rfl, rfl, hLS⟩ := hI
  have hR : Rel a b := hLS.2.2.1
  refine lv_aload_n hx hb dL_law_883 rfl (lv_at hl 1 rfl) ?_
  refine la_x (va_runV (As := []) (rest := []) ⟨hx, hb, hml, hown, hts⟩ (metX6_undo l G xo ha rg ta tx ea ka ad sa i n (mkx L pz ri rm rp ch) fs e1 v1 e2 v2 b g hLS.1 ) (cwV 0 hts gL_law_X6_undo rfl rfl rfl (by decide +kernel) ⟨Nat.le_of_ble_eq_true rfl, Nat.le_of_ble_eq_true rfl⟩) (pM_V (q0 := 0) hK (P_left hP) (D_left hD) rfl rfl) rfl rfl hl.1 rfl (lv_room (Nat.le_of_ble_eq_true rfl)) dL_law_884 ⟨Nat.le_refl _, Nat.le_refl _⟩) hP hD hS (fun _ => xc_adr) (fun r1 u1 H locs hw1 hP hD hS => ?_)
  refine lv_aload_n hx hb dL_law_887 rfl (lv_at hl 2 rfl) ?_
  refine la_m (va_runV (As := []) (rest := [.int r1]) ⟨hx, hb, hml, hown, hts⟩ (metX7_undo l G md a pa n tb L aw iw qu up lo su kn ik im fo hLS.1.2.1 ) (cwV 0 hts gL_law_X7_undo rfl rfl rfl (by decide +kernel) ⟨Nat.le_of_ble_eq_true rfl, Nat.le_of_ble_eq_true rfl⟩) (pM_V (q0 := 0) hK (P_right hP) (D_right hD) rfl rfl) rfl rfl hl.1 rfl (lv_room (Nat.le_of_ble_eq_true rfl)) dL_law_888 ⟨Nat.le_refl _, Nat.le_refl _⟩) hP hD hS (fun _ => rfl) (fun r2 u2 H locs hw2 hP hD hS => ?_)
  have heq : r1 = r2 := by rw [hw1, hw2]; rfl
  refine lv_icmp_eq (tgt := 896) hx hb dL_law_891 (by decide) (fun c9e => ?_) (fun c9e => absurd heq c9e)
  exact kk _ _ _ _ _ (LIt.mk hLS.un) hd0 hP hD hS
