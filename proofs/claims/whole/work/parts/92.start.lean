theorem LSt_0 : LSt 0 0 0 (fun _ => 0) (false, (fun _ => false), (fun _ => 0), (fun _ => false), (fun _ => 0)) bZ (fun _ => bZ) (aZ 4 12) (fun _ => 0) (fun _ => 0) (fun _ => 0) := by
  have ov : okV (fun _ => 0) := fun j _ => Or.inr (show posF 0 by unfold posF; decide)
  exact ⟨⟨by omega, by omega, bWF_Z, ov, ov, fun q => by cases q⟩, by omega, Rel_Z, fun t ht => absurd ht (Nat.not_lt_zero t), fun j hj => absurd hj (Nat.not_lt_zero j), fun j hj => absurd hj (Nat.not_lt_zero j)⟩
set_option maxHeartbeats 4000000 in
set_option maxRecDepth 100000 in
/-- THE LAW, from its entry -/
theorem whole_start {p : Program} {e : Env} {s : State} {m : MethodId} {below : List Frame} {meth : Method} {c : Code} (l : Launch) (hflags : l.flags = flags0) {b L : Nat} {xs : Nat → Int32} (hL : L ≤ 2048) (C0 : lw_At p s m meth c b L xs) : W p l e room_1 s m #[Value.ref b] below meth c s.heap [] 0 0 (lw_Z below #[Value.ref b] s) (entryFrame m ([Value.ref b] : List Value).toArray 4) := by
  obtain ⟨hx, hb, hr, hml, hown, hts00, hX, hbl, hlocks, hgv⟩ := id C0
  obtain ⟨G, hK0, hO0⟩ := law_known hts00
  have hA : ∀ q : Nat, s.heap.size ≤ q → (fun q : Nat => s.heap.size ≤ q) q := fun _ h => h
  have hS : va_S (fun q : Nat => s.heap.size ≤ q) s.heap s.heap [] := va_S.rf
  have hP : va_P G.1 vwCl [] s.heap := fun k q h => by simp at h
  have hD : va_D (fun q : Nat => s.heap.size ≤ q) [] := ⟨fun i j p q h => by simp at h, fun k q h => by simp at h⟩
  have hl := lv_entry ([.ref b]) (n := 4) (Nat.le_of_ble_eq_true rfl)
  rw [lg_entry_eq]
  generalize (lg_sl ([.ref b]) ++ List.replicate (4 - (lg_sl ([.ref b])).length) Slot.unset).toArray = ls at hl ⊢
  have hl : lv_has ls 4 [(0, .ref b)] := hl
  refine W.base ?_
  have hd0 := Drawn.sameBut.refl s.drawn lw_cs
  have htsT := dr_words hts00 s.drawn
  have hts : ∀ w ∈ wsL_law, w.before #[Value.ref b] (s.setDrawn s.drawn) = true := fun w hw => htsT w (wsL_law_in w hw)
  have hK := hK0.drawn s.drawn
  have hO : va_AO RX0 (s.setDrawn s.drawn) := va_AO.moved (u := s) (U := s.setDrawn s.drawn) (Vm.Alike.refl s.vm) hO0
  refine va_new (D := G.1) (ci := 5) (fs := [.null, .null, .null, .null]) (C := RX6) (T := TX6) (N := 4) hx hb htsT in_wsX60 tyX6 tyX6_ok hown (hts (.classLink RL 7 RX6) (by decide +kernel)) (hts (.instantiable RX6 4) (by decide +kernel)) (hts (.initialized RX6) (by decide +kernel)) hK.1 hP hD hS hA rfl (by decide +kernel) (Nat.le_of_ble_eq_true rfl) (Nat.le_of_ble_eq_true rfl) dL_law_0 (fun q_x H hP hD hS => ?_)
  refine W.widen (k := 1) (n := 4) (Nat.le_of_ble_eq_true rfl) (Nat.le_of_ble_eq_true rfl) ?_
  refine lv_dup hx hb dL_law_3 rfl ?_
  refine cc_v (G := G) (wr := []) (wc := [(q_x, .inr (5, [.null, .null, .null, .null]))]) (va_runI (As := []) (rest := [.ref q_x]) ⟨hx, hb, hml, hown, hts⟩ (metX6_init l G q_x H.size) (cwI 0 hts gL_law_X6_init rfl rfl rfl (hts (.initialized RX6) (by decide +kernel)) (hts (.methodLink RL 9 yX6_init) (by decide +kernel)) (hts (.instanceMethod yX6_init) (by decide +kernel)) rfl (by decide +kernel) ⟨Nat.le_of_ble_eq_true rfl, Nat.le_of_ble_eq_true rfl⟩) (pI_S hK hO (P_right hP) (D_right hD)) rfl rfl hl.1 rfl (lv_room (Nat.le_of_ble_eq_true rfl)) dL_law_4 ⟨Nat.le_of_ble_eq_true rfl, Nat.le_of_ble_eq_true rfl⟩) hP hD hS hA (fun u H locs hw hP hD hS => ?_)
  obtain ⟨ha, rg, ta, tx, ea, ka, ad, sa⟩ := u
  have hP : va_P G.1 vwCl (xcells G q_x ha rg ta tx ea ka ad sa 0 0 (mkx 0 0 (fun _ => 0) (fun _ => 0) (fun _ => 0) (fun _ => 0)) false (fun _ => false) (fun _ => 0) (fun _ => false) (fun _ => 0) bZ (fun _ => bZ)) H := hP
  have hD : va_D (fun q : Nat => s.heap.size ≤ q) (xcells G q_x ha rg ta tx ea ka ad sa 0 0 (mkx 0 0 (fun _ => 0) (fun _ => 0) (fun _ => 0) (fun _ => 0)) false (fun _ => false) (fun _ => 0) (fun _ => false) (fun _ => 0) bZ (fun _ => bZ)) := hD
  refine W.widen (k := 96) (n := 4639) (Nat.le_of_ble_eq_true rfl) (Nat.le_of_ble_eq_true rfl) ?_
  refine lv_astore_n (lv' := [(1, .ref q_x), (0, .ref b)]) hx hb dL_law_7 rfl hl (by decide) rfl (fun ls hl => ?_)
  refine va_new (D := G.1) (ci := 6) (fs := [.null, .null, .int (nI 0), .null, .int (nI 0), .int (nI 0), .int (bI false), .null, .float 0, .float 0, .int (nI 0), .null, .null, .null, .float 0]) (C := RX7) (T := TX7) (N := 15) hx hb htsT in_wsX70 tyX7 tyX7_ok hown (hts (.classLink RL 10 RX7) (by decide +kernel)) (hts (.instantiable RX7 15) (by decide +kernel)) (hts (.initialized RX7) (by decide +kernel)) hK.1 hP hD hS hA rfl (by decide +kernel) (Nat.le_of_ble_eq_true rfl) (Nat.le_of_ble_eq_true rfl) dL_law_8 (fun q_m H hP hD hS => ?_)
  refine W.widen (k := 97) (n := 4654) (Nat.le_of_ble_eq_true rfl) (Nat.le_of_ble_eq_true rfl) ?_
  refine lv_dup hx hb dL_law_11 rfl ?_
  refine cc_v (G := G) (wr := xcells G q_x ha rg ta tx ea ka ad sa 0 0 (mkx 0 0 (fun _ => 0) (fun _ => 0) (fun _ => 0) (fun _ => 0)) false (fun _ => false) (fun _ => 0) (fun _ => false) (fun _ => 0) bZ (fun _ => bZ)) (wc := [(q_m, .inr (6, [.null, .null, .int (nI 0), .null, .int (nI 0), .int (nI 0), .int (bI false), .null, .float 0, .float 0, .int (nI 0), .null, .null, .null, .float 0]))]) (va_runI (As := []) (rest := [.ref q_m]) ⟨hx, hb, hml, hown, hts⟩ (metX7_init l G q_m H.size) (cwI 0 hts gL_law_X7_init rfl rfl rfl (hts (.initialized RX7) (by decide +kernel)) (hts (.methodLink RL 12 yX7_init) (by decide +kernel)) (hts (.instanceMethod yX7_init) (by decide +kernel)) rfl (by decide +kernel) ⟨Nat.le_of_ble_eq_true rfl, Nat.le_of_ble_eq_true rfl⟩) (pI_S hK hO (P_right hP) (D_right hD)) rfl rfl hl.1 rfl (lv_room (Nat.le_of_ble_eq_true rfl)) dL_law_12 ⟨Nat.le_of_ble_eq_true rfl, Nat.le_of_ble_eq_true rfl⟩) hP hD hS hA (fun u H locs hw hP hD hS => ?_)
  obtain ⟨md, rfl⟩ : ∃ z, z = u := ⟨_, rfl⟩
  have hq9 : md 0 = q_m := hw
  rw [← hq9]
  have hP : va_P G.1 vwCl (xcells G q_x ha rg ta tx ea ka ad sa 0 0 (mkx 0 0 (fun _ => 0) (fun _ => 0) (fun _ => 0) (fun _ => 0)) false (fun _ => false) (fun _ => 0) (fun _ => false) (fun _ => 0) bZ (fun _ => bZ) ++ mcells G md (aZ 4 12) (fun _ => 0) 0 (fun _ => 0) 0 0 false (fun _ => 0) 0 0 0 (fun _ => 0) (fun _ => false) (fun _ => false) 0) H := hP
  have hD : va_D (fun q : Nat => s.heap.size ≤ q) (xcells G q_x ha rg ta tx ea ka ad sa 0 0 (mkx 0 0 (fun _ => 0) (fun _ => 0) (fun _ => 0) (fun _ => 0)) false (fun _ => false) (fun _ => 0) (fun _ => false) (fun _ => 0) bZ (fun _ => bZ) ++ mcells G md (aZ 4 12) (fun _ => 0) 0 (fun _ => 0) 0 0 false (fun _ => 0) 0 0 0 (fun _ => 0) (fun _ => false) (fun _ => false) 0) := hD
  refine W.widen (k := 600000) (n := 7302250) (Nat.le_of_ble_eq_true rfl) (Nat.le_of_ble_eq_true rfl) ?_
  refine lv_astore_n (lv' := [(2, .ref (md 0)), (1, .ref q_x), (0, .ref b)]) hx hb dL_law_15 rfl hl (by decide) rfl (fun ls hl => ?_)
  refine lv_iconst (v := nI 0) hx hb dL_law_16 (by decide) ?_
  refine lv_istore_n (lv' := [(3, .int (nI 0)), (2, .ref (md 0)), (1, .ref q_x), (0, .ref b)]) hx hb dL_law_17 rfl hl (by decide) rfl (fun ls hl => ?_)
  exact law_loop l G q_x ha rg ta tx ea ka ad sa md C0 hK0 hL L 0 _ _ _ _ _ _ (by omega) (by omega) (LIt.mk LSt_0) hd0 hP hD hS (lv_sub hl [3, 2, 1, 0] rfl)
