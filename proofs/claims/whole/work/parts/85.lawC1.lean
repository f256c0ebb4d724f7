set_option maxHeartbeats 4000000 in
set_option maxRecDepth 100000 in
/-- case 0: addItem -/
theorem law_0 (l : Launch) (G : GG) (xo ha rg ta : Nat) (tx ea ka ad : Nat → Nat) (sa : Nat → Nat → Nat) (md : Nat → Nat) {p : Program} {e : Env} {s : State} {m : MethodId} {below : List Frame} {meth : Method} {c : Code} {bS LS0 : Nat} {xs : Nat → Int32} {Q : State → Prop} (C0 : lw_At p s m meth c bS LS0 xs) (hK0 : KX G s) {wx wm : va_W} (hI : LIt G xo ha rg ta tx ea ka ad sa md wx wm) {d0 : Drawn} (hd0 : s.drawn.sameBut d0 lw_cs) {H : Heap} {locs : List Loc} (hP : va_P G.1 vwCl (wx ++ wm) H) (hD : va_D (fun q : Nat => s.heap.size ≤ q) (wx ++ wm)) (hS : va_S (fun q : Nat => s.heap.size ≤ q) s.heap H locs) {j : Nat} (hj : j + 4 ≤ LS0) (hL9 : LS0 ≤ 2048) {ls : Array Slot} (hl : lv_has ls 4 [(0, .ref bS), (1, .ref xo), (2, .ref (md 0)), (3, .int (nI j))]) (kk : ∀ (wx wm : va_W) (d0 : Drawn) (H : Heap) (locs : List Loc), LIt G xo ha rg ta tx ea ka ad sa md wx wm → s.drawn.sameBut d0 lw_cs → va_P G.1 vwCl (wx ++ wm) H → va_D (fun q : Nat => s.heap.size ≤ q) (wx ++ wm) → va_S (fun q : Nat => s.heap.size ≤ q) s.heap H locs → W p l e room_1 (s.setDrawn d0) m #[Value.ref bS] below meth c H locs 600000 7302250 Q (F0 m 896 ls [])) : W p l e room_1 (s.setDrawn d0) m #[Value.ref bS] below meth c H locs 600000 7302250 Q (F0 m 144 ls []) := by
  obtain ⟨hx, hb, hr, hml, hown, hts00, hX, hbl, hlocks, hgv⟩ := C0
  have hts0 : ∀ w ∈ wsL_law, w.before #[Value.ref bS] s = true := fun w hw => hts00 w (wsL_law_in w hw)
  have hts := dr_words hts0 d0
  have hK := hK0.drawn d0
  have hX : va_X bS LS0 xs (s.setDrawn d0) s.heap := hX
  have hbA : ¬ (fun q : Nat => s.heap.size ≤ q) bS := Nat.not_le.mpr hbl
  obtain ⟨i, n, L, pz, ri, rm, rp, ch, fs, e1, v1, e2, v2, b, g, a, pa, tb, aw, iw, qu, up, lo, su, kn, ik, im, fo, c9, rfl, rfl, hLS⟩ := hI
  have hR : Rel a b := hLS.2.2.1
  refine lv_aload_n hx hb dL_law_144 rfl (lv_at hl 1 rfl) ?_
  refine lv_aload_n hx hb dL_law_145 rfl (lv_at hl 0 rfl) ?_
  refine lv_iload_n hx hb dL_law_146 rfl (lv_at hl 3 rfl) ?_
  refine lv_iconst (v := nI 1) hx hb dL_law_147 (by decide) ?_
  refine n_add hx hb dL_law_148 ?_
  refine n_sld (j := j + 1) hx hb hX hbl hbA hS (by omega) (by omega) dL_law_149 ?_
  refine lv_aload_n hx hb dL_law_150 rfl (lv_at hl 0 rfl) ?_
  refine lv_iload_n hx hb dL_law_151 rfl (lv_at hl 3 rfl) ?_
  refine lv_iconst (v := nI 2) hx hb dL_law_152 (by decide) ?_
  refine n_add hx hb dL_law_153 ?_
  refine n_sld (j := j + 2) hx hb hX hbl hbA hS (by omega) (by omega) dL_law_154 ?_
  refine lv_aload_n hx hb dL_law_155 rfl (lv_at hl 0 rfl) ?_
  refine lv_iload_n hx hb dL_law_156 rfl (lv_at hl 3 rfl) ?_
  refine lv_iconst (v := nI 3) hx hb dL_law_157 (by decide) ?_
  refine n_add hx hb dL_law_158 ?_
  refine n_sld (j := j + 3) hx hb hX hbl hbA hS (by omega) (by omega) dL_law_159 ?_
  refine la_x (va_runV (As := [.int (xs (j + 1)), .int (xs (j + 2)), .int (xs (j + 3))]) (rest := []) ⟨hx, hb, hml, hown, hts⟩ (metX6_addItem l G xo ha rg ta tx ea ka ad sa i n (mkx L pz ri rm rp ch) fs e1 v1 e2 v2 b g hLS.1 (xs (j + 1)) (xs (j + 2)) (xs (j + 3))) (cwV 3 hts gL_law_X6_addItem rfl rfl rfl (by decide +kernel) ⟨Nat.le_of_ble_eq_true rfl, Nat.le_of_ble_eq_true rfl⟩) (pM_V (q0 := 0) hK (P_left hP) (D_left hD) rfl rfl) rfl rfl hl.1 rfl (lv_room (Nat.le_of_ble_eq_true rfl)) dL_law_160 ⟨Nat.le_refl _, Nat.le_refl _⟩) hP hD hS (fun _ => xc_adr) (fun r1 u1 H locs hw1 hP hD hS => ?_)
  refine lv_aload_n hx hb dL_law_163 rfl (lv_at hl 2 rfl) ?_
  refine lv_aload_n hx hb dL_law_164 rfl (lv_at hl 0 rfl) ?_
  refine lv_iload_n hx hb dL_law_165 rfl (lv_at hl 3 rfl) ?_
  refine lv_iconst (v := nI 1) hx hb dL_law_166 (by decide) ?_
  refine n_add hx hb dL_law_167 ?_
  refine n_sld (j := j + 1) hx hb hX hbl hbA hS (by omega) (by omega) dL_law_168 ?_
  refine lv_aload_n hx hb dL_law_169 rfl (lv_at hl 0 rfl) ?_
  refine lv_iload_n hx hb dL_law_170 rfl (lv_at hl 3 rfl) ?_
  refine lv_iconst (v := nI 2) hx hb dL_law_171 (by decide) ?_
  refine n_add hx hb dL_law_172 ?_
  refine n_sld (j := j + 2) hx hb hX hbl hbA hS (by omega) (by omega) dL_law_173 ?_
  refine lv_aload_n hx hb dL_law_174 rfl (lv_at hl 0 rfl) ?_
  refine lv_iload_n hx hb dL_law_175 rfl (lv_at hl 3 rfl) ?_
  refine lv_iconst (v := nI 3) hx hb dL_law_176 (by decide) ?_
  refine n_add hx hb dL_law_177 ?_
  refine n_sld (j := j + 3) hx hb hX hbl hbA hS (by omega) (by omega) dL_law_178 ?_
  refine la_m (va_runV (As := [.int (xs (j + 1)), .int (xs (j + 2)), .int (xs (j + 3))]) (rest := [.int r1]) ⟨hx, hb, hml, hown, hts⟩ (metX7_addItem l G md a pa n tb L aw iw qu up lo su kn ik im fo hLS.1.2.1 hR.mWF (xs (j + 1)) (xs (j + 2)) (xs (j + 3))) (cwV 3 hts gL_law_X7_addItem rfl rfl rfl (by decide +kernel) ⟨Nat.le_of_ble_eq_true rfl, Nat.le_of_ble_eq_true rfl⟩) (pM_V (q0 := 0) hK (P_right hP) (D_right hD) rfl rfl) rfl rfl hl.1 rfl (lv_room (Nat.le_of_ble_eq_true rfl)) dL_law_179 ⟨Nat.le_refl _, Nat.le_refl _⟩) hP hD hS (fun _ => rfl) (fun r2 u2 H locs hw2 hP hD hS => ?_)
  have heq : r1 = r2 := hw1.trans ((hw2.trans (an_AI hR (xs (j + 1)) (xs (j + 2)) (xs (j + 3))).1).symm)
  refine lv_icmp_eq (tgt := 896) hx hb dL_law_182 (by decide) (fun c9e => ?_) (fun c9e => absurd heq c9e)
  have hee := (an_AI hR (xs (j + 1)) (xs (j + 2)) (xs (j + 3))).2
  rw [hee] at hP hD
  exact kk _ _ _ _ _ (LIt.mk (hLS.ed (fun h9 => by have h8 := h9; unfold eAI at h8; simp only [Bool.and_eq_true, decide_eq_true_eq] at h8; exact hR.app h8.1 h8.2))) hd0 hP hD hS

set_option maxHeartbeats 4000000 in
set_option maxRecDepth 100000 in
/-- case 1: itemCount -/
theorem law_1 (l : Launch) (G : GG) (xo ha rg ta : Nat) (tx ea ka ad : Nat → Nat) (sa : Nat → Nat → Nat) (md : Nat → Nat) {p : Program} {e : Env} {s : State} {m : MethodId} {below : List Frame} {meth : Method} {c : Code} {bS LS0 : Nat} {xs : Nat → Int32} {Q : State → Prop} (C0 : lw_At p s m meth c bS LS0 xs) (hK0 : KX G s) {wx wm : va_W} (hI : LIt G xo ha rg ta tx ea ka ad sa md wx wm) {d0 : Drawn} (hd0 : s.drawn.sameBut d0 lw_cs) {H : Heap} {locs : List Loc} (hP : va_P G.1 vwCl (wx ++ wm) H) (hD : va_D (fun q : Nat => s.heap.size ≤ q) (wx ++ wm)) (hS : va_S (fun q : Nat => s.heap.size ≤ q) s.heap H locs) {j : Nat} (hj : j + 4 ≤ LS0) (hL9 : LS0 ≤ 2048) {ls : Array Slot} (hl : lv_has ls 4 [(0, .ref bS), (1, .ref xo), (2, .ref (md 0)), (3, .int (nI j))]) (kk : ∀ (wx wm : va_W) (d0 : Drawn) (H : Heap) (locs : List Loc), LIt G xo ha rg ta tx ea ka ad sa md wx wm → s.drawn.sameBut d0 lw_cs → va_P G.1 vwCl (wx ++ wm) H → va_D (fun q : Nat => s.heap.size ≤ q) (wx ++ wm) → va_S (fun q : Nat => s.heap.size ≤ q) s.heap H locs → W p l e room_1 (s.setDrawn d0) m #[Value.ref bS] below meth c H locs 600000 7302250 Q (F0 m 896 ls [])) : W p l e room_1 (s.setDrawn d0) m #[Value.ref bS] below meth c H locs 600000 7302250 Q (F0 m 187 ls []) := by
  obtain ⟨hx, hb, hr, hml, hown, hts00, hX, hbl, hlocks, hgv⟩ := C0
  have hts0 : ∀ w ∈ wsL_law, w.before #[Value.ref bS] s = true := fun w hw => hts00 w (wsL_law_in w hw)
  have hts := dr_words hts0 d0
  have hK := hK0.drawn d0
  have hX : va_X bS LS0 xs (s.setDrawn d0) s.heap := hX
  have hbA : ¬ (fun q : Nat => s.heap.size ≤ q) bS := Nat.not_le.mpr hbl
  obtain ⟨i, n, L, pz, ri, rm, rp, ch, fs, e1, v1, e2, v2, b, g, a, pa, tb, aw, iw, qu, up, lo, su, kn, ik, im, fo, c9, rfl, rfl, hLS⟩ := hI
  have hR : Rel a b := hLS.2.2.1
  refine lv_aload_n hx hb dL_law_187 rfl (lv_at hl 1 rfl) ?_
  refine cr_i (va_runV (As := []) (rest := []) ⟨hx, hb, hml, hown, hts⟩ (metX6_itemCount l G xo ha rg ta tx ea ka ad sa i n (mkx L pz ri rm rp ch) fs e1 v1 e2 v2 b g hLS.1 ) (cwV 0 hts gL_law_X6_itemCount rfl rfl rfl (by decide +kernel) ⟨Nat.le_of_ble_eq_true rfl, Nat.le_of_ble_eq_true rfl⟩) (pR_V (q0 := 0) hK (P_left hP) rfl rfl) rfl rfl hl.1 rfl (lv_room (Nat.le_of_ble_eq_true rfl)) dL_law_188 ⟨Nat.le_refl _, Nat.le_refl _⟩) (fun r1 hw1 => ?_)
  refine lv_aload_n hx hb dL_law_191 rfl (lv_at hl 2 rfl) ?_
  refine cr_i (va_runV (As := []) (rest := [.int r1]) ⟨hx, hb, hml, hown, hts⟩ (metX7_itemCount l G md [.ref (md 2), .int (nI n), .ref (md 3), .int (nI L), .int (nI aw), .int (bI iw), .ref (md 4), .float up, .float lo, .int (nI su), .ref (md 5), .ref (md 6), .ref (md 7), .float fo] a hR.mC ) (cwV 0 hts gL_law_X7_itemCount rfl rfl rfl (by decide +kernel) ⟨Nat.le_of_ble_eq_true rfl, Nat.le_of_ble_eq_true rfl⟩) (pR_V (q0 := 0) hK ((P_right hP).sub (ws' := scells G md [.ref (md 2), .int (nI n), .ref (md 3), .int (nI L), .int (nI aw), .int (bI iw), .ref (md 4), .float up, .float lo, .int (nI su), .ref (md 5), .ref (md 6), .ref (md 7), .float fo] a) [0, 1] rfl) rfl rfl) rfl rfl hl.1 rfl (lv_room (Nat.le_of_ble_eq_true rfl)) dL_law_192 ⟨Nat.le_refl _, Nat.le_refl _⟩) (fun r2 hw2 => ?_)
  have heq : r1 = r2 := by rw [hw1, hw2, hR.n]
  refine lv_icmp_eq (tgt := 896) hx hb dL_law_195 (by decide) (fun c9e => ?_) (fun c9e => absurd heq c9e)
  exact kk _ _ _ _ _ (LIt.mk hLS) hd0 hP hD hS

set_option maxHeartbeats 4000000 in
set_option maxRecDepth 100000 in
/-- case 2: setPrice -/
theorem law_2 (l : Launch) (G : GG) (xo ha rg ta : Nat) (tx ea ka ad : Nat → Nat) (sa : Nat → Nat → Nat) (md : Nat → Nat) {p : Program} {e : Env} {s : State} {m : MethodId} {below : List Frame} {meth : Method} {c : Code} {bS LS0 : Nat} {xs : Nat → Int32} {Q : State → Prop} (C0 : lw_At p s m meth c bS LS0 xs) (hK0 : KX G s) {wx wm : va_W} (hI : LIt G xo ha rg ta tx ea ka ad sa md wx wm) {d0 : Drawn} (hd0 : s.drawn.sameBut d0 lw_cs) {H : Heap} {locs : List Loc} (hP : va_P G.1 vwCl (wx ++ wm) H) (hD : va_D (fun q : Nat => s.heap.size ≤ q) (wx ++ wm)) (hS : va_S (fun q : Nat => s.heap.size ≤ q) s.heap H locs) {j : Nat} (hj : j + 4 ≤ LS0) (hL9 : LS0 ≤ 2048) {ls : Array Slot} (hl : lv_has ls 4 [(0, .ref bS), (1, .ref xo), (2, .ref (md 0)), (3, .int (nI j))]) (kk : ∀ (wx wm : va_W) (d0 : Drawn) (H : Heap) (locs : List Loc), LIt G xo ha rg ta tx ea ka ad sa md wx wm → s.drawn.sameBut d0 lw_cs → va_P G.1 vwCl (wx ++ wm) H → va_D (fun q : Nat => s.heap.size ≤ q) (wx ++ wm) → va_S (fun q : Nat => s.heap.size ≤ q) s.heap H locs → W p l e room_1 (s.setDrawn d0) m #[Value.ref bS] below meth c H locs 600000 7302250 Q (F0 m 896 ls [])) : W p l e room_1 (s.setDrawn d0) m #[Value.ref bS] below meth c H locs 600000 7302250 Q (F0 m 200 ls []) := by
  obtain ⟨hx, hb, hr, hml, hown, hts00, hX, hbl, hlocks, hgv⟩ := C0
  have hts0 : ∀ w ∈ wsL_law, w.before #[Value.ref bS] s = true := fun w hw => hts00 w (wsL_law_in w hw)
  have hts := dr_words hts0 d0
  have hK := hK0.drawn d0
  have hX : va_X bS LS0 xs (s.setDrawn d0) s.heap := hX
  have hbA : ¬ (fun q : Nat => s.heap.size ≤ q) bS := Nat.not_le.mpr hbl
  obtain ⟨i, n, L, pz, ri, rm, rp, ch, fs, e1, v1, e2, v2, b, g, a, pa, tb, aw, iw, qu, up, lo, su, kn, ik, im, fo, c9, rfl, rfl, hLS⟩ := hI
  have hR : Rel a b := hLS.2.2.1
  refine lv_aload_n hx hb dL_law_200 rfl (lv_at hl 1 rfl) ?_
  refine lv_aload_n hx hb dL_law_201 rfl (lv_at hl 0 rfl) ?_
  refine lv_iload_n hx hb dL_law_202 rfl (lv_at hl 3 rfl) ?_
  refine lv_iconst (v := nI 1) hx hb dL_law_203 (by decide) ?_
  refine n_add hx hb dL_law_204 ?_
  refine n_sld (j := j + 1) hx hb hX hbl hbA hS (by omega) (by omega) dL_law_205 ?_
  refine lv_aload_n hx hb dL_law_206 rfl (lv_at hl 0 rfl) ?_
  refine lv_iload_n hx hb dL_law_207 rfl (lv_at hl 3 rfl) ?_
  refine lv_iconst (v := nI 2) hx hb dL_law_208 (by decide) ?_
  refine n_add hx hb dL_law_209 ?_
  refine n_sld (j := j + 2) hx hb hX hbl hbA hS (by omega) (by omega) dL_law_210 ?_
  refine lv_aload_n hx hb dL_law_211 rfl (lv_at hl 0 rfl) ?_
  refine lv_iload_n hx hb dL_law_212 rfl (lv_at hl 3 rfl) ?_
  refine lv_iconst (v := nI 3) hx hb dL_law_213 (by decide) ?_
  refine n_add hx hb dL_law_214 ?_
  refine n_sld (j := j + 3) hx hb hX hbl hbA hS (by omega) (by omega) dL_law_215 ?_
  refine la_x (va_runV (As := [.int (xs (j + 1)), .int (xs (j + 2)), .int (xs (j + 3))]) (rest := []) ⟨hx, hb, hml, hown, hts⟩ (metX6_setPrice l G xo ha rg ta tx ea ka ad sa i n (mkx L pz ri rm rp ch) fs e1 v1 e2 v2 b g hLS.1 (xs (j + 1)) (xs (j + 2)) (xs (j + 3))) (cwV 3 hts gL_law_X6_setPrice rfl rfl rfl (by decide +kernel) ⟨Nat.le_of_ble_eq_true rfl, Nat.le_of_ble_eq_true rfl⟩) (pM_V (q0 := 0) hK (P_left hP) (D_left hD) rfl rfl) rfl rfl hl.1 rfl (lv_room (Nat.le_of_ble_eq_true rfl)) dL_law_216 ⟨Nat.le_refl _, Nat.le_refl _⟩) hP hD hS (fun _ => xc_adr) (fun r1 u1 H locs hw1 hP hD hS => ?_)
  refine lv_aload_n hx hb dL_law_219 rfl (lv_at hl 2 rfl) ?_
  refine lv_aload_n hx hb dL_law_220 rfl (lv_at hl 0 rfl) ?_
  refine lv_iload_n hx hb dL_law_221 rfl (lv_at hl 3 rfl) ?_
  refine lv_iconst (v := nI 1) hx hb dL_law_222 (by decide) ?_
  refine n_add hx hb dL_law_223 ?_
  refine n_sld (j := j + 1) hx hb hX hbl hbA hS (by omega) (by omega) dL_law_224 ?_
  refine lv_aload_n hx hb dL_law_225 rfl (lv_at hl 0 rfl) ?_
  refine lv_iload_n hx hb dL_law_226 rfl (lv_at hl 3 rfl) ?_
  refine lv_iconst (v := nI 2) hx hb dL_law_227 (by decide) ?_
  refine n_add hx hb dL_law_228 ?_
  refine n_sld (j := j + 2) hx hb hX hbl hbA hS (by omega) (by omega) dL_law_229 ?_
  refine lv_aload_n hx hb dL_law_230 rfl (lv_at hl 0 rfl) ?_
  refine lv_iload_n hx hb dL_law_231 rfl (lv_at hl 3 rfl) ?_
  refine lv_iconst (v := nI 3) hx hb dL_law_232 (by decide) ?_
  refine n_add hx hb dL_law_233 ?_
  refine n_sld (j := j + 3) hx hb hX hbl hbA hS (by omega) (by omega) dL_law_234 ?_
  refine la_m (va_runV (As := [.int (xs (j + 1)), .int (xs (j + 2)), .int (xs (j + 3))]) (rest := [.int r1]) ⟨hx, hb, hml, hown, hts⟩ (metX7_setPrice l G md a pa n tb L aw iw qu up lo su kn ik im fo hLS.1.2.1 hR.mWF (xs (j + 1)) (xs (j + 2)) (xs (j + 3))) (cwV 3 hts gL_law_X7_setPrice rfl rfl rfl (by decide +kernel) ⟨Nat.le_of_ble_eq_true rfl, Nat.le_of_ble_eq_true rfl⟩) (pM_V (q0 := 0) hK (P_right hP) (D_right hD) rfl rfl) rfl rfl hl.1 rfl (lv_room (Nat.le_of_ble_eq_true rfl)) dL_law_235 ⟨Nat.le_refl _, Nat.le_refl _⟩) hP hD hS (fun _ => rfl) (fun r2 u2 H locs hw2 hP hD hS => ?_)
  have heq : r1 = r2 := hw1.trans ((hw2.trans (an_SP hR (xs (j + 1)) (xs (j + 2)) (xs (j + 3))).1).symm)
  refine lv_icmp_eq (tgt := 896) hx hb dL_law_238 (by decide) (fun c9e => ?_) (fun c9e => absurd heq c9e)
  have hee := (an_SP hR (xs (j + 1)) (xs (j + 2)) (xs (j + 3))).2
  rw [hee] at hP hD
  exact kk _ _ _ _ _ (LIt.mk (hLS.ed (fun h9 => by unfold spOK at h9; simp only [Bool.and_eq_true] at h9; obtain ⟨-, z2, z3⟩ := inR_c (by decide) (by decide) h9.2; have h8 := hR.put8 (k := nC (xs (j + 1))) (m := nC (xs (j + 2))) (p := nC (xs (j + 3))) (by have := (isIt_c hR.1 h9.1.1).1; have := hR.le; omega) (isMon_c h9.1.2).1 z2; rw [← z3] at h8; exact h8))) hd0 hP hD hS

set_option maxHeartbeats 4000000 in
set_option maxRecDepth 100000 in
/-- case 3: quotedPrice -/
theorem law_3 (l : Launch) (G : GG) (xo ha rg ta : Nat) (tx ea ka ad : Nat → Nat) (sa : Nat → Nat → Nat) (md : Nat → Nat) {p : Program} {e : Env} {s : State} {m : MethodId} {below : List Frame} {meth : Method} {c : Code} {bS LS0 : Nat} {xs : Nat → Int32} {Q : State → Prop} (C0 : lw_At p s m meth c bS LS0 xs) (hK0 : KX G s) {wx wm : va_W} (hI : LIt G xo ha rg ta tx ea ka ad sa md wx wm) {d0 : Drawn} (hd0 : s.drawn.sameBut d0 lw_cs) {H : Heap} {locs : List Loc} (hP : va_P G.1 vwCl (wx ++ wm) H) (hD : va_D (fun q : Nat => s.heap.size ≤ q) (wx ++ wm)) (hS : va_S (fun q : Nat => s.heap.size ≤ q) s.heap H locs) {j : Nat} (hj : j + 4 ≤ LS0) (hL9 : LS0 ≤ 2048) {ls : Array Slot} (hl : lv_has ls 4 [(0, .ref bS), (1, .ref xo), (2, .ref (md 0)), (3, .int (nI j))]) (kk : ∀ (wx wm : va_W) (d0 : Drawn) (H : Heap) (locs : List Loc), LIt G xo ha rg ta tx ea ka ad sa md wx wm → s.drawn.sameBut d0 lw_cs → va_P G.1 vwCl (wx ++ wm) H → va_D (fun q : Nat => s.heap.size ≤ q) (wx ++ wm) → va_S (fun q : Nat => s.heap.size ≤ q) s.heap H locs → W p l e room_1 (s.setDrawn d0) m #[Value.ref bS] below meth c H locs 600000 7302250 Q (F0 m 896 ls [])) : W p l e room_1 (s.setDrawn d0) m #[Value.ref bS] below meth c H locs 600000 7302250 Q (F0 m 243 ls []) := by
  obtain ⟨hx, hb, hr, hml, hown, hts00, hX, hbl, hlocks, hgv⟩ := C0
  have hts0 : ∀ w ∈ wsL_law, w.before #[Value.ref bS] s = true := fun w hw => hts00 w (wsL_law_in w hw)
  have hts := dr_words hts0 d0
  have hK := hK0.drawn d0
  have hX : va_X bS LS0 xs (s.setDrawn d0) s.heap := hX
  have hbA : ¬ (fun q : Nat => s.heap.size ≤ q) bS := Nat.not_le.mpr hbl
  obtain ⟨i, n, L, pz, ri, rm, rp, ch, fs, e1, v1, e2, v2, b, g, a, pa, tb, aw, iw, qu, up, lo, su, kn, ik, im, fo, c9, rfl, rfl, hLS⟩ := hI
  have hR : Rel a b := hLS.2.2.1
  refine lv_aload_n hx hb dL_law_243 rfl (lv_at hl 1 rfl) ?_
  refine lv_aload_n hx hb dL_law_244 rfl (lv_at hl 0 rfl) ?_
  refine lv_iload_n hx hb dL_law_245 rfl (lv_at hl 3 rfl) ?_
  refine lv_iconst (v := nI 1) hx hb dL_law_246 (by decide) ?_
  refine n_add hx hb dL_law_247 ?_
  refine n_sld (j := j + 1) hx hb hX hbl hbA hS (by omega) (by omega) dL_law_248 ?_
  refine lv_aload_n hx hb dL_law_249 rfl (lv_at hl 0 rfl) ?_
  refine lv_iload_n hx hb dL_law_250 rfl (lv_at hl 3 rfl) ?_
  refine lv_iconst (v := nI 2) hx hb dL_law_251 (by decide) ?_
  refine n_add hx hb dL_law_252 ?_
  refine n_sld (j := j + 2) hx hb hX hbl hbA hS (by omega) (by omega) dL_law_253 ?_
  refine cr_i (va_runV (As := [.int (xs (j + 1)), .int (xs (j + 2))]) (rest := []) ⟨hx, hb, hml, hown, hts⟩ (metX6_quotedPrice l G xo ha rg ta tx ea ka ad sa i n (mkx L pz ri rm rp ch) fs e1 v1 e2 v2 b g hLS.1 (xs (j + 1)) (xs (j + 2))) (cwV 2 hts gL_law_X6_quotedPrice rfl rfl rfl (by decide +kernel) ⟨Nat.le_of_ble_eq_true rfl, Nat.le_of_ble_eq_true rfl⟩) (pR_V (q0 := 0) hK (P_left hP) rfl rfl) rfl rfl hl.1 rfl (lv_room (Nat.le_of_ble_eq_true rfl)) dL_law_254 ⟨Nat.le_refl _, Nat.le_refl _⟩) (fun r1 hw1 => ?_)
  refine lv_aload_n hx hb dL_law_257 rfl (lv_at hl 2 rfl) ?_
  refine lv_aload_n hx hb dL_law_258 rfl (lv_at hl 0 rfl) ?_
  refine lv_iload_n hx hb dL_law_259 rfl (lv_at hl 3 rfl) ?_
  refine lv_iconst (v := nI 1) hx hb dL_law_260 (by decide) ?_
  refine n_add hx hb dL_law_261 ?_
  refine n_sld (j := j + 1) hx hb hX hbl hbA hS (by omega) (by omega) dL_law_262 ?_
  refine lv_aload_n hx hb dL_law_263 rfl (lv_at hl 0 rfl) ?_
  refine lv_iload_n hx hb dL_law_264 rfl (lv_at hl 3 rfl) ?_
  refine lv_iconst (v := nI 2) hx hb dL_law_265 (by decide) ?_
  refine n_add hx hb dL_law_266 ?_
  refine n_sld (j := j + 2) hx hb hX hbl hbA hS (by omega) (by omega) dL_law_267 ?_
  refine cr_i (va_runV (As := [.int (xs (j + 1)), .int (xs (j + 2))]) (rest := [.int r1]) ⟨hx, hb, hml, hown, hts⟩ (metX7_quotedPrice l G md [.ref (md 2), .int (nI n), .ref (md 3), .int (nI L), .int (nI aw), .int (bI iw), .ref (md 4), .float up, .float lo, .int (nI su), .ref (md 5), .ref (md 6), .ref (md 7), .float fo] a hR.mC (xs (j + 1)) (xs (j + 2))) (cwV 2 hts gL_law_X7_quotedPrice rfl rfl rfl (by decide +kernel) ⟨Nat.le_of_ble_eq_true rfl, Nat.le_of_ble_eq_true rfl⟩) (pR_V (q0 := 0) hK ((P_right hP).sub (ws' := scells G md [.ref (md 2), .int (nI n), .ref (md 3), .int (nI L), .int (nI aw), .int (bI iw), .ref (md 4), .float up, .float lo, .int (nI su), .ref (md 5), .ref (md 6), .ref (md 7), .float fo] a) [0, 1] rfl) rfl rfl) rfl rfl hl.1 rfl (lv_room (Nat.le_of_ble_eq_true rfl)) dL_law_268 ⟨Nat.le_refl _, Nat.le_refl _⟩) (fun r2 hw2 => ?_)
  have heq : r1 = r2 := hw1.trans ((hw2.trans (an_QP hR (xs (j + 1)) (xs (j + 2)))).symm)
  refine lv_icmp_eq (tgt := 896) hx hb dL_law_271 (by decide) (fun c9e => ?_) (fun c9e => absurd heq c9e)
  exact kk _ _ _ _ _ (LIt.mk hLS) hd0 hP hD hS

set_option maxHeartbeats 4000000 in
set_option maxRecDepth 100000 in
/-- case 4: appendCharacter -/
theorem law_4 (l : Launch) (G : GG) (xo ha rg ta : Nat) (tx ea ka ad : Nat → Nat) (sa : Nat → Nat → Nat) (md : Nat → Nat) {p : Program} {e : Env} {s : State} {m : MethodId} {below : List Frame} {meth : Method} {c : Code} {bS LS0 : Nat} {xs : Nat → Int32} {Q : State → Prop} (C0 : lw_At p s m meth c bS LS0 xs) (hK0 : KX G s) {wx wm : va_W} (hI : LIt G xo ha rg ta tx ea ka ad sa md wx wm) {d0 : Drawn} (hd0 : s.drawn.sameBut d0 lw_cs) {H : Heap} {locs : List Loc} (hP : va_P G.1 vwCl (wx ++ wm) H) (hD : va_D (fun q : Nat => s.heap.size ≤ q) (wx ++ wm)) (hS : va_S (fun q : Nat => s.heap.size ≤ q) s.heap H locs) {j : Nat} (hj : j + 4 ≤ LS0) (hL9 : LS0 ≤ 2048) {ls : Array Slot} (hl : lv_has ls 4 [(0, .ref bS), (1, .ref xo), (2, .ref (md 0)), (3, .int (nI j))]) (kk : ∀ (wx wm : va_W) (d0 : Drawn) (H : Heap) (locs : List Loc), LIt G xo ha rg ta tx ea ka ad sa md wx wm → s.drawn.sameBut d0 lw_cs → va_P G.1 vwCl (wx ++ wm) H → va_D (fun q : Nat => s.heap.size ≤ q) (wx ++ wm) → va_S (fun q : Nat => s.heap.size ≤ q) s.heap H locs → W p l e room_1 (s.setDrawn d0) m #[Value.ref bS] below meth c H locs 600000 7302250 Q (F0 m 896 ls [])) : W p l e room_1 (s.setDrawn d0) m #[Value.ref bS] below meth c H locs 600000 7302250 Q (F0 m 276 ls []) := by
  obtain ⟨hx, hb, hr, hml, hown, hts00, hX, hbl, hlocks, hgv⟩ := C0
  have hts0 : ∀ w ∈ wsL_law, w.before #[Value.ref bS] s = true := fun w hw => hts00 w (wsL_law_in w hw)
  have hts := dr_words hts0 d0
  have hK := hK0.drawn d0
  have hX : va_X bS LS0 xs (s.setDrawn d0) s.heap := hX
  have hbA : ¬ (fun q : Nat => s.heap.size ≤ q) bS := Nat.not_le.mpr hbl
  obtain ⟨i, n, L, pz, ri, rm, rp, ch, fs, e1, v1, e2, v2, b, g, a, pa, tb, aw, iw, qu, up, lo, su, kn, ik, im, fo, c9, rfl, rfl, hLS⟩ := hI
  have hR : Rel a b := hLS.2.2.1
  refine lv_aload_n hx hb dL_law_276 rfl (lv_at hl 1 rfl) ?_
  refine lv_aload_n hx hb dL_law_277 rfl (lv_at hl 0 rfl) ?_
  refine lv_iload_n hx hb dL_law_278 rfl (lv_at hl 3 rfl) ?_
  refine lv_iconst (v := nI 1) hx hb dL_law_279 (by decide) ?_
  refine n_add hx hb dL_law_280 ?_
  refine n_sld (j := j + 1) hx hb hX hbl hbA hS (by omega) (by omega) dL_law_281 ?_
  refine la_x (va_runV (As := [.int (xs (j + 1))]) (rest := []) ⟨hx, hb, hml, hown, hts⟩ (metX6_appendCharacter l G xo ha rg ta tx ea ka ad sa i n L pz ri rm rp ch fs e1 v1 e2 v2 b g hLS.1 hLS.2.1 (xs (j + 1))) (cwV 1 hts gL_law_X6_appendCharacter rfl rfl rfl (by decide +kernel) ⟨Nat.le_of_ble_eq_true rfl, Nat.le_of_ble_eq_true rfl⟩) (pM_V (q0 := 0) hK (P_left hP) (D_left hD) rfl rfl) rfl rfl hl.1 rfl (lv_room (Nat.le_of_ble_eq_true rfl)) dL_law_282 ⟨Nat.le_refl _, Nat.le_refl _⟩) hP hD hS (fun _ => xc_adr) (fun r1 u1 H locs hw1 hP hD hS => ?_)
  refine lv_aload_n hx hb dL_law_285 rfl (lv_at hl 2 rfl) ?_
  refine lv_aload_n hx hb dL_law_286 rfl (lv_at hl 0 rfl) ?_
  refine lv_iload_n hx hb dL_law_287 rfl (lv_at hl 3 rfl) ?_
  refine lv_iconst (v := nI 1) hx hb dL_law_288 (by decide) ?_
  refine n_add hx hb dL_law_289 ?_
  refine n_sld (j := j + 1) hx hb hX hbl hbA hS (by omega) (by omega) dL_law_290 ?_
  refine la_m (va_runV (As := [.int (xs (j + 1))]) (rest := [.int r1]) ⟨hx, hb, hml, hown, hts⟩ (metX7_appendCharacter l G md a pa n tb L aw iw qu up lo su kn ik im fo hLS.2.1 (xs (j + 1))) (cwV 1 hts gL_law_X7_appendCharacter rfl rfl rfl (by decide +kernel) ⟨Nat.le_of_ble_eq_true rfl, Nat.le_of_ble_eq_true rfl⟩) (pM_V (q0 := 0) hK (P_right hP) (D_right hD) rfl rfl) rfl rfl hl.1 rfl (lv_room (Nat.le_of_ble_eq_true rfl)) dL_law_291 ⟨Nat.le_refl _, Nat.le_refl _⟩) hP hD hS (fun _ => rfl) (fun r2 u2 H locs hw2 hP hD hS => ?_)
  have heq : r1 = r2 := by rw [hw1, hw2, (an_AP hLS.2.1 _).1]
  refine lv_icmp_eq (tgt := 896) hx hb dL_law_294 (by decide) (fun c9e => ?_) (fun c9e => absurd heq c9e)
  have hee := (an_AP hLS.2.1 (xs (j + 1))).2
  rw [hee] at hP hD
  cases h9 : eAP L (xs (j + 1))
  · rw [h9] at hP hD
    exact kk _ _ _ _ _ (LIt.mk hLS) hd0 hP hD hS
  · rw [h9] at hP hD
    unfold eAP at h9
    simp only [Bool.and_eq_true, decide_eq_true_eq] at h9
    exact kk _ _ _ _ _ (LIt.mk (hLS.ap h9.1 h9.2)) hd0 hP hD hS

set_option maxHeartbeats 4000000 in
set_option maxRecDepth 100000 in
/-- case 5: clearText -/
theorem law_5 (l : Launch) (G : GG) (xo ha rg ta : Nat) (tx ea ka ad : Nat → Nat) (sa : Nat → Nat → Nat) (md : Nat → Nat) {p : Program} {e : Env} {s : State} {m : MethodId} {below : List Frame} {meth : Method} {c : Code} {bS LS0 : Nat} {xs : Nat → Int32} {Q : State → Prop} (C0 : lw_At p s m meth c bS LS0 xs) (hK0 : KX G s) {wx wm : va_W} (hI : LIt G xo ha rg ta tx ea ka ad sa md wx wm) {d0 : Drawn} (hd0 : s.drawn.sameBut d0 lw_cs) {H : Heap} {locs : List Loc} (hP : va_P G.1 vwCl (wx ++ wm) H) (hD : va_D (fun q : Nat => s.heap.size ≤ q) (wx ++ wm)) (hS : va_S (fun q : Nat => s.heap.size ≤ q) s.heap H locs) {j : Nat} (hj : j + 4 ≤ LS0) (hL9 : LS0 ≤ 2048) {ls : Array Slot} (hl : lv_has ls 4 [(0, .ref bS), (1, .ref xo), (2, .ref (md 0)), (3, .int (nI j))]) (kk : ∀ (wx wm : va_W) (d0 : Drawn) (H : Heap) (locs : List Loc), LIt G xo ha rg ta tx ea ka ad sa md wx wm → s.drawn.sameBut d0 lw_cs → va_P G.1 vwCl (wx ++ wm) H → va_D (fun q : Nat => s.heap.size ≤ q) (wx ++ wm) → va_S (fun q : Nat => s.heap.size ≤ q) s.heap H locs → W p l e room_1 (s.setDrawn d0) m #[Value.ref bS] below meth c H locs 600000 7302250 Q (F0 m 896 ls [])) : W p l e room_1 (s.setDrawn d0) m #[Value.ref bS] below meth c H locs 600000 7302250 Q (F0 m 299 ls []) := by
  obtain ⟨hx, hb, hr, hml, hown, hts00, hX, hbl, hlocks, hgv⟩ := C0
  have hts0 : ∀ w ∈ wsL_law, w.before #[Value.ref bS] s = true := fun w hw => hts00 w (wsL_law_in w hw)
  have hts := dr_words hts0 d0
  have hK := hK0.drawn d0
  have hX : va_X bS LS0 xs (s.setDrawn d0) s.heap := hX
  have hbA : ¬ (fun q : Nat => s.heap.size ≤ q) bS := Nat.not_le.mpr hbl
  obtain ⟨i, n, L, pz, ri, rm, rp, ch, fs, e1, v1, e2, v2, b, g, a, pa, tb, aw, iw, qu, up, lo, su, kn, ik, im, fo, c9, rfl, rfl, hLS⟩ := hI
  have hR : Rel a b := hLS.2.2.1
  refine lv_aload_n hx hb dL_law_299 rfl (lv_at hl 1 rfl) ?_
  refine la_x (va_runV (As := []) (rest := []) ⟨hx, hb, hml, hown, hts⟩ (metX6_clearText l G xo ha rg ta tx ea ka ad sa i n L pz ri rm rp ch fs e1 v1 e2 v2 b g hLS.1) (cwV 0 hts gL_law_X6_clearText rfl rfl rfl (by decide +kernel) ⟨Nat.le_of_ble_eq_true rfl, Nat.le_of_ble_eq_true rfl⟩) (pM_V (q0 := 0) hK (P_left hP) (D_left hD) rfl rfl) rfl rfl hl.1 rfl (lv_room (Nat.le_of_ble_eq_true rfl)) dL_law_300 ⟨Nat.le_refl _, Nat.le_refl _⟩) hP hD hS (fun _ => xc_adr) (fun r1 u1 H locs hw1 hP hD hS => ?_)
  refine lv_aload_n hx hb dL_law_303 rfl (lv_at hl 2 rfl) ?_
  refine la_m (va_runV (As := []) (rest := [.int r1]) ⟨hx, hb, hml, hown, hts⟩ (metX7_clearText l G md a pa n tb L aw iw qu up lo su kn ik im fo  ) (cwV 0 hts gL_law_X7_clearText rfl rfl rfl (by decide +kernel) ⟨Nat.le_of_ble_eq_true rfl, Nat.le_of_ble_eq_true rfl⟩) (pM_V (q0 := 0) hK (P_right hP) (D_right hD) rfl rfl) rfl rfl hl.1 rfl (lv_room (Nat.le_of_ble_eq_true rfl)) dL_law_304 ⟨Nat.le_refl _, Nat.le_refl _⟩) hP hD hS (fun _ => rfl) (fun r2 u2 H locs hw2 hP hD hS => ?_)
  have heq : r1 = r2 := by rw [hw1, hw2]
  refine lv_icmp_eq (tgt := 896) hx hb dL_law_307 (by decide) (fun c9e => ?_) (fun c9e => absurd heq c9e)
  exact kk _ _ _ _ _ (LIt.mk hLS.cl) hd0 hP hD hS

set_option maxHeartbeats 4000000 in
set_option maxRecDepth 100000 in
/-- case 6: importPrices -/
theorem law_6 (l : Launch) (G : GG) (xo ha rg ta : Nat) (tx ea ka ad : Nat → Nat) (sa : Nat → Nat → Nat) (md : Nat → Nat) {p : Program} {e : Env} {s : State} {m : MethodId} {below : List Frame} {meth : Method} {c : Code} {bS LS0 : Nat} {xs : Nat → Int32} {Q : State → Prop} (C0 : lw_At p s m meth c bS LS0 xs) (hK0 : KX G s) {wx wm : va_W} (hI : LIt G xo ha rg ta tx ea ka ad sa md wx wm) {d0 : Drawn} (hd0 : s.drawn.sameBut d0 lw_cs) {H : Heap} {locs : List Loc} (hP : va_P G.1 vwCl (wx ++ wm) H) (hD : va_D (fun q : Nat => s.heap.size ≤ q) (wx ++ wm)) (hS : va_S (fun q : Nat => s.heap.size ≤ q) s.heap H locs) {j : Nat} (hj : j + 4 ≤ LS0) (hL9 : LS0 ≤ 2048) {ls : Array Slot} (hl : lv_has ls 4 [(0, .ref bS), (1, .ref xo), (2, .ref (md 0)), (3, .int (nI j))]) (kk : ∀ (wx wm : va_W) (d0 : Drawn) (H : Heap) (locs : List Loc), LIt G xo ha rg ta tx ea ka ad sa md wx wm → s.drawn.sameBut d0 lw_cs → va_P G.1 vwCl (wx ++ wm) H → va_D (fun q : Nat => s.heap.size ≤ q) (wx ++ wm) → va_S (fun q : Nat => s.heap.size ≤ q) s.heap H locs → W p l e room_1 (s.setDrawn d0) m #[Value.ref bS] below meth c H locs 600000 7302250 Q (F0 m 896 ls [])) : W p l e room_1 (s.setDrawn d0) m #[Value.ref bS] below meth c H locs 600000 7302250 Q (F0 m 312 ls []) := by
  obtain ⟨hx, hb, hr, hml, hown, hts00, hX, hbl, hlocks, hgv⟩ := C0
  have hts0 : ∀ w ∈ wsL_law, w.before #[Value.ref bS] s = true := fun w hw => hts00 w (wsL_law_in w hw)
  have hts := dr_words hts0 d0
  have hK := hK0.drawn d0
  have hX : va_X bS LS0 xs (s.setDrawn d0) s.heap := hX
  have hbA : ¬ (fun q : Nat => s.heap.size ≤ q) bS := Nat.not_le.mpr hbl
  obtain ⟨i, n, L, pz, ri, rm, rp, ch, fs, e1, v1, e2, v2, b, g, a, pa, tb, aw, iw, qu, up, lo, su, kn, ik, im, fo, c9, rfl, rfl, hLS⟩ := hI
  have hR : Rel a b := hLS.2.2.1
  refine lv_aload_n hx hb dL_law_312 rfl (lv_at hl 1 rfl) ?_
  refine la_x (va_runV (As := []) (rest := []) ⟨hx, hb, hml, hown, hts⟩ (metX6_importPrices l G xo ha rg ta tx ea ka ad sa i n L pz ri rm rp ch fs e1 v1 e2 v2 b g hLS.1 c9 hLS.2.1 hLS.2.2.2.2.1) (cwV 0 hts gL_law_X6_importPrices rfl rfl rfl (by decide +kernel) ⟨Nat.le_of_ble_eq_true rfl, Nat.le_of_ble_eq_true rfl⟩) (pM_V (q0 := 0) hK (P_left hP) (D_left hD) rfl rfl) rfl rfl hl.1 rfl (lv_room (Nat.le_of_ble_eq_true rfl)) dL_law_313 ⟨Nat.le_refl _, Nat.le_refl _⟩) hP hD hS (fun _ => xc_adr) (fun r1 u1 H locs hw1 hP hD hS => ?_)
  refine lv_aload_n hx hb dL_law_316 rfl (lv_at hl 2 rfl) ?_
  refine la_m (va_runV (As := []) (rest := [.int r1]) ⟨hx, hb, hml, hown, hts⟩ (metX7_importPrices l G md a pa n tb L aw iw qu up lo su kn ik im fo hLS.1.2.1 hR.mWF c9 hLS.2.1 hLS.2.2.2.2.2 ) (cwV 0 hts gL_law_X7_importPrices rfl rfl rfl (by decide +kernel) ⟨Nat.le_of_ble_eq_true rfl, Nat.le_of_ble_eq_true rfl⟩) (pM_V (q0 := 0) hK (P_right hP) (D_right hD) rfl rfl) rfl rfl hl.1 rfl (lv_room (Nat.le_of_ble_eq_true rfl)) dL_law_317 ⟨Nat.le_refl _, Nat.le_refl _⟩) hP hD hS (fun _ => rfl) (fun r2 u2 H locs hw2 hP hD hS => ?_)
  have heq : r1 = r2 := by rw [hw1, hw2, hR.n]
  refine lv_icmp_eq (tgt := 896) hx hb dL_law_320 (by decide) (fun c9e => ?_) (fun c9e => absurd heq c9e)
  rw [hR.n] at hP hD
  exact kk _ _ _ _ _ (LIt.mk (hLS.imp (fun h9 => hR.imp hR.le (rdE_ok h9)))) hd0 hP hD hS

set_option maxHeartbeats 4000000 in
set_option maxRecDepth 100000 in
/-- case 7: replaceItem -/
theorem law_7 (l : Launch) (G : GG) (xo ha rg ta : Nat) (tx ea ka ad : Nat → Nat) (sa : Nat → Nat → Nat) (md : Nat → Nat) {p : Program} {e : Env} {s : State} {m : MethodId} {below : List Frame} {meth : Method} {c : Code} {bS LS0 : Nat} {xs : Nat → Int32} {Q : State → Prop} (C0 : lw_At p s m meth c bS LS0 xs) (hK0 : KX G s) {wx wm : va_W} (hI : LIt G xo ha rg ta tx ea ka ad sa md wx wm) {d0 : Drawn} (hd0 : s.drawn.sameBut d0 lw_cs) {H : Heap} {locs : List Loc} (hP : va_P G.1 vwCl (wx ++ wm) H) (hD : va_D (fun q : Nat => s.heap.size ≤ q) (wx ++ wm)) (hS : va_S (fun q : Nat => s.heap.size ≤ q) s.heap H locs) {j : Nat} (hj : j + 4 ≤ LS0) (hL9 : LS0 ≤ 2048) {ls : Array Slot} (hl : lv_has ls 4 [(0, .ref bS), (1, .ref xo), (2, .ref (md 0)), (3, .int (nI j))]) (kk : ∀ (wx wm : va_W) (d0 : Drawn) (H : Heap) (locs : List Loc), LIt G xo ha rg ta tx ea ka ad sa md wx wm → s.drawn.sameBut d0 lw_cs → va_P G.1 vwCl (wx ++ wm) H → va_D (fun q : Nat => s.heap.size ≤ q) (wx ++ wm) → va_S (fun q : Nat => s.heap.size ≤ q) s.heap H locs → W p l e room_1 (s.setDrawn d0) m #[Value.ref bS] below meth c H locs 600000 7302250 Q (F0 m 896 ls [])) : W p l e room_1 (s.setDrawn d0) m #[Value.ref bS] below meth c H locs 600000 7302250 Q (F0 m 325 ls []) := by
  obtain ⟨hx, hb, hr, hml, hown, hts00, hX, hbl, hlocks, hgv⟩ := C0
  have hts0 : ∀ w ∈ wsL_law, w.before #[Value.ref bS] s = true := fun w hw => hts00 w (wsL_law_in w hw)
  have hts := dr_words hts0 d0
  have hK := hK0.drawn d0
  have hX : va_X bS LS0 xs (s.setDrawn d0) s.heap := hX
  have hbA : ¬ (fun q : Nat => s.heap.size ≤ q) bS := Nat.not_le.mpr hbl
  obtain ⟨i, n, L, pz, ri, rm, rp, ch, fs, e1, v1, e2, v2, b, g, a, pa, tb, aw, iw, qu, up, lo, su, kn, ik, im, fo, c9, rfl, rfl, hLS⟩ := hI
  have hR : Rel a b := hLS.2.2.1
  refine lv_aload_n hx hb dL_law_325 rfl (lv_at hl 1 rfl) ?_
  refine lv_aload_n hx hb dL_law_326 rfl (lv_at hl 0 rfl) ?_
  refine lv_iload_n hx hb dL_law_327 rfl (lv_at hl 3 rfl) ?_
  refine lv_iconst (v := nI 1) hx hb dL_law_328 (by decide) ?_
  refine n_add hx hb dL_law_329 ?_
  refine n_sld (j := j + 1) hx hb hX hbl hbA hS (by omega) (by omega) dL_law_330 ?_
  refine lv_aload_n hx hb dL_law_331 rfl (lv_at hl 0 rfl) ?_
  refine lv_iload_n hx hb dL_law_332 rfl (lv_at hl 3 rfl) ?_
  refine lv_iconst (v := nI 2) hx hb dL_law_333 (by decide) ?_
  refine n_add hx hb dL_law_334 ?_
  refine n_sld (j := j + 2) hx hb hX hbl hbA hS (by omega) (by omega) dL_law_335 ?_
  refine lv_aload_n hx hb dL_law_336 rfl (lv_at hl 0 rfl) ?_
  refine lv_iload_n hx hb dL_law_337 rfl (lv_at hl 3 rfl) ?_
  refine lv_iconst (v := nI 3) hx hb dL_law_338 (by decide) ?_
  refine n_add hx hb dL_law_339 ?_
  refine n_sld (j := j + 3) hx hb hX hbl hbA hS (by omega) (by omega) dL_law_340 ?_
  refine la_x (va_runV (As := [.int (xs (j + 1)), .int (xs (j + 2)), .int (xs (j + 3))]) (rest := []) ⟨hx, hb, hml, hown, hts⟩ (metX6_replaceItem l G xo ha rg ta tx ea ka ad sa i n (mkx L pz ri rm rp ch) fs e1 v1 e2 v2 b g hLS.1 (xs (j + 1)) (xs (j + 2)) (xs (j + 3))) (cwV 3 hts gL_law_X6_replaceItem rfl rfl rfl (by decide +kernel) ⟨Nat.le_of_ble_eq_true rfl, Nat.le_of_ble_eq_true rfl⟩) (pM_V (q0 := 0) hK (P_left hP) (D_left hD) rfl rfl) rfl rfl hl.1 rfl (lv_room (Nat.le_of_ble_eq_true rfl)) dL_law_341 ⟨Nat.le_refl _, Nat.le_refl _⟩) hP hD hS (fun _ => xc_adr) (fun r1 u1 H locs hw1 hP hD hS => ?_)
  refine lv_aload_n hx hb dL_law_344 rfl (lv_at hl 2 rfl) ?_
  refine lv_aload_n hx hb dL_law_345 rfl (lv_at hl 0 rfl) ?_
  refine lv_iload_n hx hb dL_law_346 rfl (lv_at hl 3 rfl) ?_
  refine lv_iconst (v := nI 1) hx hb dL_law_347 (by decide) ?_
  refine n_add hx hb dL_law_348 ?_
  refine n_sld (j := j + 1) hx hb hX hbl hbA hS (by omega) (by omega) dL_law_349 ?_
  refine lv_aload_n hx hb dL_law_350 rfl (lv_at hl 0 rfl) ?_
  refine lv_iload_n hx hb dL_law_351 rfl (lv_at hl 3 rfl) ?_
  refine lv_iconst (v := nI 2) hx hb dL_law_352 (by decide) ?_
  refine n_add hx hb dL_law_353 ?_
  refine n_sld (j := j + 2) hx hb hX hbl hbA hS (by omega) (by omega) dL_law_354 ?_
  refine lv_aload_n hx hb dL_law_355 rfl (lv_at hl 0 rfl) ?_
  refine lv_iload_n hx hb dL_law_356 rfl (lv_at hl 3 rfl) ?_
  refine lv_iconst (v := nI 3) hx hb dL_law_357 (by decide) ?_
  refine n_add hx hb dL_law_358 ?_
  refine n_sld (j := j + 3) hx hb hX hbl hbA hS (by omega) (by omega) dL_law_359 ?_
  refine la_m (va_runV (As := [.int (xs (j + 1)), .int (xs (j + 2)), .int (xs (j + 3))]) (rest := [.int r1]) ⟨hx, hb, hml, hown, hts⟩ (metX7_replaceItem l G md a pa n tb L aw iw qu up lo su kn ik im fo hLS.1.2.1 hR.mWF (xs (j + 1)) (xs (j + 2)) (xs (j + 3))) (cwV 3 hts gL_law_X7_replaceItem rfl rfl rfl (by decide +kernel) ⟨Nat.le_of_ble_eq_true rfl, Nat.le_of_ble_eq_true rfl⟩) (pM_V (q0 := 0) hK (P_right hP) (D_right hD) rfl rfl) rfl rfl hl.1 rfl (lv_room (Nat.le_of_ble_eq_true rfl)) dL_law_360 ⟨Nat.le_refl _, Nat.le_refl _⟩) hP hD hS (fun _ => rfl) (fun r2 u2 H locs hw2 hP hD hS => ?_)
  have heq : r1 = r2 := hw1.trans ((hw2.trans (an_RI hR (xs (j + 1)) (xs (j + 2)) (xs (j + 3))).1).symm)
  refine lv_icmp_eq (tgt := 896) hx hb dL_law_363 (by decide) (fun c9e => ?_) (fun c9e => absurd heq c9e)
  have hee := (an_RI hR (xs (j + 1)) (xs (j + 2)) (xs (j + 3))).2.1
  rw [hee] at hP hD
  exact kk _ _ _ _ _ (LIt.mk (hLS.ed ((an_RI hR (xs (j + 1)) (xs (j + 2)) (xs (j + 3))).2.2))) hd0 hP hD hS

set_option maxHeartbeats 4000000 in
set_option maxRecDepth 100000 in
/-- case 8: endReplacement -/
theorem law_8 (l : Launch) (G : GG) (xo ha rg ta : Nat) (tx ea ka ad : Nat → Nat) (sa : Nat → Nat → Nat) (md : Nat → Nat) {p : Program} {e : Env} {s : State} {m : MethodId} {below : List Frame} {meth : Method} {c : Code} {bS LS0 : Nat} {xs : Nat → Int32} {Q : State → Prop} (C0 : lw_At p s m meth c bS LS0 xs) (hK0 : KX G s) {wx wm : va_W} (hI : LIt G xo ha rg ta tx ea ka ad sa md wx wm) {d0 : Drawn} (hd0 : s.drawn.sameBut d0 lw_cs) {H : Heap} {locs : List Loc} (hP : va_P G.1 vwCl (wx ++ wm) H) (hD : va_D (fun q : Nat => s.heap.size ≤ q) (wx ++ wm)) (hS : va_S (fun q : Nat => s.heap.size ≤ q) s.heap H locs) {j : Nat} (hj : j + 4 ≤ LS0) (hL9 : LS0 ≤ 2048) {ls : Array Slot} (hl : lv_has ls 4 [(0, .ref bS), (1, .ref xo), (2, .ref (md 0)), (3, .int (nI j))]) (kk : ∀ (wx wm : va_W) (d0 : Drawn) (H : Heap) (locs : List Loc), LIt G xo ha rg ta tx ea ka ad sa md wx wm → s.drawn.sameBut d0 lw_cs → va_P G.1 vwCl (wx ++ wm) H → va_D (fun q : Nat => s.heap.size ≤ q) (wx ++ wm) → va_S (fun q : Nat => s.heap.size ≤ q) s.heap H locs → W p l e room_1 (s.setDrawn d0) m #[Value.ref bS] below meth c H locs 600000 7302250 Q (F0 m 896 ls [])) : W p l e room_1 (s.setDrawn d0) m #[Value.ref bS] below meth c H locs 600000 7302250 Q (F0 m 368 ls []) := by
  obtain ⟨hx, hb, hr, hml, hown, hts00, hX, hbl, hlocks, hgv⟩ := C0
  have hts0 : ∀ w ∈ wsL_law, w.before #[Value.ref bS] s = true := fun w hw => hts00 w (wsL_law_in w hw)
  have hts := dr_words hts0 d0
  have hK := hK0.drawn d0
  have hX : va_X bS LS0 xs (s.setDrawn d0) s.heap := hX
  have hbA : ¬ (fun q : Nat => s.heap.size ≤ q) bS := Nat.not_le.mpr hbl
  obtain ⟨i, n, L, pz, ri, rm, rp, ch, fs, e1, v1, e2, v2, b, g, a, pa, tb, aw, iw, qu, up, lo, su, kn, ik, im, fo, c9, rfl, rfl, hLS⟩ := hI
  have hR : Rel a b := hLS.2.2.1
  refine lv_aload_n hx hb dL_law_368 rfl (lv_at hl 1 rfl) ?_
  refine lv_aload_n hx hb dL_law_369 rfl (lv_at hl 0 rfl) ?_
  refine lv_iload_n hx hb dL_law_370 rfl (lv_at hl 3 rfl) ?_
  refine lv_iconst (v := nI 1) hx hb dL_law_371 (by decide) ?_
  refine n_add hx hb dL_law_372 ?_
  refine n_sld (j := j + 1) hx hb hX hbl hbA hS (by omega) (by omega) dL_law_373 ?_
  refine la_x (va_runV (As := [.int (xs (j + 1))]) (rest := []) ⟨hx, hb, hml, hown, hts⟩ (metX6_endReplacement l G xo ha rg ta tx ea ka ad sa i n (mkx L pz ri rm rp ch) fs e1 v1 e2 v2 b g hLS.1 (xs (j + 1))) (cwV 1 hts gL_law_X6_endReplacement rfl rfl rfl (by decide +kernel) ⟨Nat.le_of_ble_eq_true rfl, Nat.le_of_ble_eq_true rfl⟩) (pM_V (q0 := 0) hK (P_left hP) (D_left hD) rfl rfl) rfl rfl hl.1 rfl (lv_room (Nat.le_of_ble_eq_true rfl)) dL_law_374 ⟨Nat.le_refl _, Nat.le_refl _⟩) hP hD hS (fun _ => xc_adr) (fun r1 u1 H locs hw1 hP hD hS => ?_)
  refine lv_aload_n hx hb dL_law_377 rfl (lv_at hl 2 rfl) ?_
  refine lv_aload_n hx hb dL_law_378 rfl (lv_at hl 0 rfl) ?_
  refine lv_iload_n hx hb dL_law_379 rfl (lv_at hl 3 rfl) ?_
  refine lv_iconst (v := nI 1) hx hb dL_law_380 (by decide) ?_
  refine n_add hx hb dL_law_381 ?_
  refine n_sld (j := j + 1) hx hb hX hbl hbA hS (by omega) (by omega) dL_law_382 ?_
  refine la_m (va_runV (As := [.int (xs (j + 1))]) (rest := [.int r1]) ⟨hx, hb, hml, hown, hts⟩ (metX7_endReplacement l G md a pa n tb L aw iw qu up lo su kn ik im fo hLS.1.2.1 hR.mWF (xs (j + 1))) (cwV 1 hts gL_law_X7_endReplacement rfl rfl rfl (by decide +kernel) ⟨Nat.le_of_ble_eq_true rfl, Nat.le_of_ble_eq_true rfl⟩) (pM_V (q0 := 0) hK (P_right hP) (D_right hD) rfl rfl) rfl rfl hl.1 rfl (lv_room (Nat.le_of_ble_eq_true rfl)) dL_law_383 ⟨Nat.le_refl _, Nat.le_refl _⟩) hP hD hS (fun _ => rfl) (fun r2 u2 H locs hw2 hP hD hS => ?_)
  have heq : r1 = r2 := hw1.trans ((hw2.trans (an_ER hR (xs (j + 1))).1).symm)
  refine lv_icmp_eq (tgt := 896) hx hb dL_law_386 (by decide) (fun c9e => ?_) (fun c9e => absurd heq c9e)
  have hee := (an_ER hR (xs (j + 1))).2.1
  rw [hee] at hP hD
  exact kk _ _ _ _ _ (LIt.mk (hLS.ed ((an_ER hR (xs (j + 1))).2.2))) hd0 hP hD hS

set_option maxHeartbeats 4000000 in
set_option maxRecDepth 100000 in
/-- case 9: replacementOf -/
theorem law_9 (l : Launch) (G : GG) (xo ha rg ta : Nat) (tx ea ka ad : Nat → Nat) (sa : Nat → Nat → Nat) (md : Nat → Nat) {p : Program} {e : Env} {s : State} {m : MethodId} {below : List Frame} {meth : Method} {c : Code} {bS LS0 : Nat} {xs : Nat → Int32} {Q : State → Prop} (C0 : lw_At p s m meth c bS LS0 xs) (hK0 : KX G s) {wx wm : va_W} (hI : LIt G xo ha rg ta tx ea ka ad sa md wx wm) {d0 : Drawn} (hd0 : s.drawn.sameBut d0 lw_cs) {H : Heap} {locs : List Loc} (hP : va_P G.1 vwCl (wx ++ wm) H) (hD : va_D (fun q : Nat => s.heap.size ≤ q) (wx ++ wm)) (hS : va_S (fun q : Nat => s.heap.size ≤ q) s.heap H locs) {j : Nat} (hj : j + 4 ≤ LS0) (hL9 : LS0 ≤ 2048) {ls : Array Slot} (hl : lv_has ls 4 [(0, .ref bS), (1, .ref xo), (2, .ref (md 0)), (3, .int (nI j))]) (kk : ∀ (wx wm : va_W) (d0 : Drawn) (H : Heap) (locs : List Loc), LIt G xo ha rg ta tx ea ka ad sa md wx wm → s.drawn.sameBut d0 lw_cs → va_P G.1 vwCl (wx ++ wm) H → va_D (fun q : Nat => s.heap.size ≤ q) (wx ++ wm) → va_S (fun q : Nat => s.heap.size ≤ q) s.heap H locs → W p l e room_1 (s.setDrawn d0) m #[Value.ref bS] below meth c H locs 600000 7302250 Q (F0 m 896 ls [])) : W p l e room_1 (s.setDrawn d0) m #[Value.ref bS] below meth c H locs 600000 7302250 Q (F0 m 391 ls []) := by
  obtain ⟨hx, hb, hr, hml, hown, hts00, hX, hbl, hlocks, hgv⟩ := C0
  have hts0 : ∀ w ∈ wsL_law, w.before #[Value.ref bS] s = true := fun w hw => hts00 w (wsL_law_in w hw)
  have hts := dr_words hts0 d0
  have hK := hK0.drawn d0
  have hX : va_X bS LS0 xs (s.setDrawn d0) s.heap := hX
  have hbA : ¬ (fun q : Nat => s.heap.size ≤ q) bS := Nat.not_le.mpr hbl
  obtain ⟨i, n, L, pz, ri, rm, rp, ch, fs, e1, v1, e2, v2, b, g, a, pa, tb, aw, iw, qu, up, lo, su, kn, ik, im, fo, c9, rfl, rfl, hLS⟩ := hI
  have hR : Rel a b := hLS.2.2.1
  refine lv_aload_n hx hb dL_law_391 rfl (lv_at hl 1 rfl) ?_
  refine lv_aload_n hx hb dL_law_392 rfl (lv_at hl 0 rfl) ?_
  refine lv_iload_n hx hb dL_law_393 rfl (lv_at hl 3 rfl) ?_
  refine lv_iconst (v := nI 1) hx hb dL_law_394 (by decide) ?_
  refine n_add hx hb dL_law_395 ?_
  refine n_sld (j := j + 1) hx hb hX hbl hbA hS (by omega) (by omega) dL_law_396 ?_
  refine cr_i (va_runV (As := [.int (xs (j + 1))]) (rest := []) ⟨hx, hb, hml, hown, hts⟩ (metX6_replacementOf l G xo ha rg ta tx ea ka ad sa i n (mkx L pz ri rm rp ch) fs e1 v1 e2 v2 b g hLS.1 (xs (j + 1))) (cwV 1 hts gL_law_X6_replacementOf rfl rfl rfl (by decide +kernel) ⟨Nat.le_of_ble_eq_true rfl, Nat.le_of_ble_eq_true rfl⟩) (pR_V (q0 := 0) hK (P_left hP) rfl rfl) rfl rfl hl.1 rfl (lv_room (Nat.le_of_ble_eq_true rfl)) dL_law_397 ⟨Nat.le_refl _, Nat.le_refl _⟩) (fun r1 hw1 => ?_)
  refine lv_aload_n hx hb dL_law_400 rfl (lv_at hl 2 rfl) ?_
  refine lv_aload_n hx hb dL_law_401 rfl (lv_at hl 0 rfl) ?_
  refine lv_iload_n hx hb dL_law_402 rfl (lv_at hl 3 rfl) ?_
  refine lv_iconst (v := nI 1) hx hb dL_law_403 (by decide) ?_
  refine n_add hx hb dL_law_404 ?_
  refine n_sld (j := j + 1) hx hb hX hbl hbA hS (by omega) (by omega) dL_law_405 ?_
  refine cr_i (va_runV (As := [.int (xs (j + 1))]) (rest := [.int r1]) ⟨hx, hb, hml, hown, hts⟩ (metX7_replacementOf l G md [.ref (md 2), .int (nI n), .ref (md 3), .int (nI L), .int (nI aw), .int (bI iw), .ref (md 4), .float up, .float lo, .int (nI su), .ref (md 5), .ref (md 6), .ref (md 7), .float fo] a hR.mC (xs (j + 1))) (cwV 1 hts gL_law_X7_replacementOf rfl rfl rfl (by decide +kernel) ⟨Nat.le_of_ble_eq_true rfl, Nat.le_of_ble_eq_true rfl⟩) (pR_V (q0 := 0) hK ((P_right hP).sub (ws' := scells G md [.ref (md 2), .int (nI n), .ref (md 3), .int (nI L), .int (nI aw), .int (bI iw), .ref (md 4), .float up, .float lo, .int (nI su), .ref (md 5), .ref (md 6), .ref (md 7), .float fo] a) [0, 1] rfl) rfl rfl) rfl rfl hl.1 rfl (lv_room (Nat.le_of_ble_eq_true rfl)) dL_law_406 ⟨Nat.le_refl _, Nat.le_refl _⟩) (fun r2 hw2 => ?_)
  have heq : r1 = r2 := hw1.trans ((hw2.trans (an_RO hR (xs (j + 1)))).symm)
  refine lv_icmp_eq (tgt := 896) hx hb dL_law_409 (by decide) (fun c9e => ?_) (fun c9e => absurd heq c9e)
  exact kk _ _ _ _ _ (LIt.mk hLS) hd0 hP hD hS

set_option maxHeartbeats 4000000 in
set_option maxRecDepth 100000 in
/-- case 10: setWeight -/
theorem law_10 (l : Launch) (G : GG) (xo ha rg ta : Nat) (tx ea ka ad : Nat → Nat) (sa : Nat → Nat → Nat) (md : Nat → Nat) {p : Program} {e : Env} {s : State} {m : MethodId} {below : List Frame} {meth : Method} {c : Code} {bS LS0 : Nat} {xs : Nat → Int32} {Q : State → Prop} (C0 : lw_At p s m meth c bS LS0 xs) (hK0 : KX G s) {wx wm : va_W} (hI : LIt G xo ha rg ta tx ea ka ad sa md wx wm) {d0 : Drawn} (hd0 : s.drawn.sameBut d0 lw_cs) {H : Heap} {locs : List Loc} (hP : va_P G.1 vwCl (wx ++ wm) H) (hD : va_D (fun q : Nat => s.heap.size ≤ q) (wx ++ wm)) (hS : va_S (fun q : Nat => s.heap.size ≤ q) s.heap H locs) {j : Nat} (hj : j + 4 ≤ LS0) (hL9 : LS0 ≤ 2048) {ls : Array Slot} (hl : lv_has ls 4 [(0, .ref bS), (1, .ref xo), (2, .ref (md 0)), (3, .int (nI j))]) (kk : ∀ (wx wm : va_W) (d0 : Drawn) (H : Heap) (locs : List Loc), LIt G xo ha rg ta tx ea ka ad sa md wx wm → s.drawn.sameBut d0 lw_cs → va_P G.1 vwCl (wx ++ wm) H → va_D (fun q : Nat => s.heap.size ≤ q) (wx ++ wm) → va_S (fun q : Nat => s.heap.size ≤ q) s.heap H locs → W p l e room_1 (s.setDrawn d0) m #[Value.ref bS] below meth c H locs 600000 7302250 Q (F0 m 896 ls [])) : W p l e room_1 (s.setDrawn d0) m #[Value.ref bS] below meth c H locs 600000 7302250 Q (F0 m 414 ls []) := by
  obtain ⟨hx, hb, hr, hml, hown, hts00, hX, hbl, hlocks, hgv⟩ := C0
  have hts0 : ∀ w ∈ wsL_law, w.before #[Value.ref bS] s = true := fun w hw => hts00 w (wsL_law_in w hw)
  have hts := dr_words hts0 d0
  have hK := hK0.drawn d0
  have hX : va_X bS LS0 xs (s.setDrawn d0) s.heap := hX
  have hbA : ¬ (fun q : Nat => s.heap.size ≤ q) bS := Nat.not_le.mpr hbl
  obtain ⟨i, n, L, pz, ri, rm, rp, ch, fs, e1, v1, e2, v2, b, g, a, pa, tb, aw, iw, qu, up, lo, su, kn, ik, im, fo, c9, rfl, rfl, hLS⟩ := hI
  have hR : Rel a b := hLS.2.2.1
  refine lv_aload_n hx hb dL_law_414 rfl (lv_at hl 1 rfl) ?_
  refine lv_aload_n hx hb dL_law_415 rfl (lv_at hl 0 rfl) ?_
  refine lv_iload_n hx hb dL_law_416 rfl (lv_at hl 3 rfl) ?_
  refine lv_iconst (v := nI 1) hx hb dL_law_417 (by decide) ?_
  refine n_add hx hb dL_law_418 ?_
  refine n_sld (j := j + 1) hx hb hX hbl hbA hS (by omega) (by omega) dL_law_419 ?_
  refine lv_aload_n hx hb dL_law_420 rfl (lv_at hl 0 rfl) ?_
  refine lv_iload_n hx hb dL_law_421 rfl (lv_at hl 3 rfl) ?_
  refine lv_iconst (v := nI 2) hx hb dL_law_422 (by decide) ?_
  refine n_add hx hb dL_law_423 ?_
  refine n_sld (j := j + 2) hx hb hX hbl hbA hS (by omega) (by omega) dL_law_424 ?_
  refine la_x (va_runV (As := [.int (xs (j + 1)), .int (xs (j + 2))]) (rest := []) ⟨hx, hb, hml, hown, hts⟩ (metX6_setWeight l G xo ha rg ta tx ea ka ad sa i n (mkx L pz ri rm rp ch) fs e1 v1 e2 v2 b g hLS.1 (xs (j + 1)) (xs (j + 2))) (cwV 2 hts gL_law_X6_setWeight rfl rfl rfl (by decide +kernel) ⟨Nat.le_of_ble_eq_true rfl, Nat.le_of_ble_eq_true rfl⟩) (pM_V (q0 := 0) hK (P_left hP) (D_left hD) rfl rfl) rfl rfl hl.1 rfl (lv_room (Nat.le_of_ble_eq_true rfl)) dL_law_425 ⟨Nat.le_refl _, Nat.le_refl _⟩) hP hD hS (fun _ => xc_adr) (fun r1 u1 H locs hw1 hP hD hS => ?_)
  refine lv_aload_n hx hb dL_law_428 rfl (lv_at hl 2 rfl) ?_
  refine lv_aload_n hx hb dL_law_429 rfl (lv_at hl 0 rfl) ?_
  refine lv_iload_n hx hb dL_law_430 rfl (lv_at hl 3 rfl) ?_
  refine lv_iconst (v := nI 1) hx hb dL_law_431 (by decide) ?_
  refine n_add hx hb dL_law_432 ?_
  refine n_sld (j := j + 1) hx hb hX hbl hbA hS (by omega) (by omega) dL_law_433 ?_
  refine lv_aload_n hx hb dL_law_434 rfl (lv_at hl 0 rfl) ?_
  refine lv_iload_n hx hb dL_law_435 rfl (lv_at hl 3 rfl) ?_
  refine lv_iconst (v := nI 2) hx hb dL_law_436 (by decide) ?_
  refine n_add hx hb dL_law_437 ?_
  refine n_sld (j := j + 2) hx hb hX hbl hbA hS (by omega) (by omega) dL_law_438 ?_
  refine la_m (va_runV (As := [.int (xs (j + 1)), .int (xs (j + 2))]) (rest := [.int r1]) ⟨hx, hb, hml, hown, hts⟩ (metX7_setWeight l G md a pa n tb L aw iw qu up lo su kn ik im fo hLS.1.2.1 hR.mWF (xs (j + 1)) (xs (j + 2))) (cwV 2 hts gL_law_X7_setWeight rfl rfl rfl (by decide +kernel) ⟨Nat.le_of_ble_eq_true rfl, Nat.le_of_ble_eq_true rfl⟩) (pM_V (q0 := 0) hK (P_right hP) (D_right hD) rfl rfl) rfl rfl hl.1 rfl (lv_room (Nat.le_of_ble_eq_true rfl)) dL_law_439 ⟨Nat.le_refl _, Nat.le_refl _⟩) hP hD hS (fun _ => rfl) (fun r2 u2 H locs hw2 hP hD hS => ?_)
  have heq : r1 = r2 := hw1.trans ((hw2.trans (an_SW hR (xs (j + 1)) (xs (j + 2))).1).symm)
  refine lv_icmp_eq (tgt := 896) hx hb dL_law_442 (by decide) (fun c9e => ?_) (fun c9e => absurd heq c9e)
  have hee := (an_SW hR (xs (j + 1)) (xs (j + 2))).2
  rw [hee] at hP hD
  exact kk _ _ _ _ _ (LIt.mk (hLS.ed (fun h9 => by unfold swOK at h9; simp only [Bool.and_eq_true] at h9; obtain ⟨-, z2, z3⟩ := inR_c (by decide) (by decide) h9.2; have h8 := hR.put1 (k := nC (xs (j + 1))) (w := nC (xs (j + 2))) (isStr_c h9.1).1 z2; rw [← z3] at h8; exact h8))) hd0 hP hD hS

set_option maxHeartbeats 4000000 in
set_option maxRecDepth 100000 in
/-- case 11: setFormula -/
theorem law_11 (l : Launch) (G : GG) (xo ha rg ta : Nat) (tx ea ka ad : Nat → Nat) (sa : Nat → Nat → Nat) (md : Nat → Nat) {p : Program} {e : Env} {s : State} {m : MethodId} {below : List Frame} {meth : Method} {c : Code} {bS LS0 : Nat} {xs : Nat → Int32} {Q : State → Prop} (C0 : lw_At p s m meth c bS LS0 xs) (hK0 : KX G s) {wx wm : va_W} (hI : LIt G xo ha rg ta tx ea ka ad sa md wx wm) {d0 : Drawn} (hd0 : s.drawn.sameBut d0 lw_cs) {H : Heap} {locs : List Loc} (hP : va_P G.1 vwCl (wx ++ wm) H) (hD : va_D (fun q : Nat => s.heap.size ≤ q) (wx ++ wm)) (hS : va_S (fun q : Nat => s.heap.size ≤ q) s.heap H locs) {j : Nat} (hj : j + 4 ≤ LS0) (hL9 : LS0 ≤ 2048) {ls : Array Slot} (hl : lv_has ls 4 [(0, .ref bS), (1, .ref xo), (2, .ref (md 0)), (3, .int (nI j))]) (kk : ∀ (wx wm : va_W) (d0 : Drawn) (H : Heap) (locs : List Loc), LIt G xo ha rg ta tx ea ka ad sa md wx wm → s.drawn.sameBut d0 lw_cs → va_P G.1 vwCl (wx ++ wm) H → va_D (fun q : Nat => s.heap.size ≤ q) (wx ++ wm) → va_S (fun q : Nat => s.heap.size ≤ q) s.heap H locs → W p l e room_1 (s.setDrawn d0) m #[Value.ref bS] below meth c H locs 600000 7302250 Q (F0 m 896 ls [])) : W p l e room_1 (s.setDrawn d0) m #[Value.ref bS] below meth c H locs 600000 7302250 Q (F0 m 447 ls []) := by
  obtain ⟨hx, hb, hr, hml, hown, hts00, hX, hbl, hlocks, hgv⟩ := C0
  have hts0 : ∀ w ∈ wsL_law, w.before #[Value.ref bS] s = true := fun w hw => hts00 w (wsL_law_in w hw)
  have hts := dr_words hts0 d0
  have hK := hK0.drawn d0
  have hX : va_X bS LS0 xs (s.setDrawn d0) s.heap := hX
  have hbA : ¬ (fun q : Nat => s.heap.size ≤ q) bS := Nat.not_le.mpr hbl
  obtain ⟨i, n, L, pz, ri, rm, rp, ch, fs, e1, v1, e2, v2, b, g, a, pa, tb, aw, iw, qu, up, lo, su, kn, ik, im, fo, c9, rfl, rfl, hLS⟩ := hI
  have hR : Rel a b := hLS.2.2.1
  refine lv_aload_n hx hb dL_law_447 rfl (lv_at hl 1 rfl) ?_
  refine lv_aload_n hx hb dL_law_448 rfl (lv_at hl 0 rfl) ?_
  refine lv_iload_n hx hb dL_law_449 rfl (lv_at hl 3 rfl) ?_
  refine lv_iconst (v := nI 1) hx hb dL_law_450 (by decide) ?_
  refine n_add hx hb dL_law_451 ?_
  refine n_sld (j := j + 1) hx hb hX hbl hbA hS (by omega) (by omega) dL_law_452 ?_
  refine la_x (va_runV (As := [.int (xs (j + 1))]) (rest := []) ⟨hx, hb, hml, hown, hts⟩ (metX6_setFormula l G xo ha rg ta tx ea ka ad sa i n (mkx L pz ri rm rp ch) fs e1 v1 e2 v2 b g hLS.1 (xs (j + 1))) (cwV 1 hts gL_law_X6_setFormula rfl rfl rfl (by decide +kernel) ⟨Nat.le_of_ble_eq_true rfl, Nat.le_of_ble_eq_true rfl⟩) (pM_V (q0 := 0) hK (P_left hP) (D_left hD) rfl rfl) rfl rfl hl.1 rfl (lv_room (Nat.le_of_ble_eq_true rfl)) dL_law_453 ⟨Nat.le_refl _, Nat.le_refl _⟩) hP hD hS (fun _ => xc_adr) (fun r1 u1 H locs hw1 hP hD hS => ?_)
  refine lv_aload_n hx hb dL_law_456 rfl (lv_at hl 2 rfl) ?_
  refine lv_aload_n hx hb dL_law_457 rfl (lv_at hl 0 rfl) ?_
  refine lv_iload_n hx hb dL_law_458 rfl (lv_at hl 3 rfl) ?_
  refine lv_iconst (v := nI 1) hx hb dL_law_459 (by decide) ?_
  refine n_add hx hb dL_law_460 ?_
  refine n_sld (j := j + 1) hx hb hX hbl hbA hS (by omega) (by omega) dL_law_461 ?_
  refine la_m (va_runV (As := [.int (xs (j + 1))]) (rest := [.int r1]) ⟨hx, hb, hml, hown, hts⟩ (metX7_setFormula l G md a pa n tb L aw iw qu up lo su kn ik im fo hLS.1.2.1 hR.mWF (xs (j + 1))) (cwV 1 hts gL_law_X7_setFormula rfl rfl rfl (by decide +kernel) ⟨Nat.le_of_ble_eq_true rfl, Nat.le_of_ble_eq_true rfl⟩) (pM_V (q0 := 0) hK (P_right hP) (D_right hD) rfl rfl) rfl rfl hl.1 rfl (lv_room (Nat.le_of_ble_eq_true rfl)) dL_law_462 ⟨Nat.le_refl _, Nat.le_refl _⟩) hP hD hS (fun _ => rfl) (fun r2 u2 H locs hw2 hP hD hS => ?_)
  have heq : r1 = r2 := hw1.trans ((hw2.trans (an_SF hR (xs (j + 1)))).symm)
  refine lv_icmp_eq (tgt := 896) hx hb dL_law_465 (by decide) (fun c9e => ?_) (fun c9e => absurd heq c9e)
  exact kk _ _ _ _ _ (LIt.mk (hLS.ed (fun _ => hR.put0))) hd0 hP hD hS
