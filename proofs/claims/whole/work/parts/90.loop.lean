theorem and31 (x : Int32) : ∃ q, q < 32 ∧ x &&& nI 31 = nI q := by
  refine ⟨(x &&& nI 31).toBitVec.toNat, ?_, ?_⟩
  · rw [Int32.toBitVec_and, BitVec.toNat_and]
    have h : (nI 31).toBitVec.toNat = 31 := by decide
    rw [h]
    exact Nat.lt_of_le_of_lt Nat.and_le_right (by decide)
  · apply Int32.toBitVec_inj.mp
    show _ = BitVec.ofNat 32 _
    rw [BitVec.ofNat_toNat, BitVec.setWidth_eq]
set_option maxHeartbeats 4000000 in
set_option maxRecDepth 100000 in
/-- the law's loop, from its head -/
theorem law_loop (l : Launch) (G : GG) (xo ha rg ta : Nat) (tx ea ka ad : Nat → Nat) (sa : Nat → Nat → Nat) (md : Nat → Nat) {p : Program} {e : Env} {s : State} {m : MethodId} {below : List Frame} {meth : Method} {c : Code} {bS LS0 : Nat} {xs : Nat → Int32} (C0 : lw_At p s m meth c bS LS0 xs) (hK0 : KX G s) (hL9 : LS0 ≤ 2048) : ∀ (d j : Nat) (wx wm : va_W) (d0 : Drawn) (H : Heap) (locs : List Loc) (ls : Array Slot), LS0 < j + 4 + d → j < 4096 → LIt G xo ha rg ta tx ea ka ad sa md wx wm → s.drawn.sameBut d0 lw_cs → va_P G.1 vwCl (wx ++ wm) H → va_D (fun q : Nat => s.heap.size ≤ q) (wx ++ wm) → va_S (fun q : Nat => s.heap.size ≤ q) s.heap H locs → lv_has ls 4 [(0, .ref bS), (1, .ref xo), (2, .ref (md 0)), (3, .int (nI j))] → W p l e room_1 (s.setDrawn d0) m #[Value.ref bS] below meth c H locs 600000 7302250 (lw_Z below #[Value.ref bS] s) (F0 m 18 ls []) := by
  obtain ⟨hx, hb, hr, hml, hown, hts00, hX0, hbl, hlocks, hgv⟩ := id C0
  have hbA : ¬ (fun q : Nat => s.heap.size ≤ q) bS := Nat.not_le.mpr hbl
  intro d
  induction d with
  | zero =>
    intro j wx wm d0 H locs ls hd hj hI hd0 hP hD hS hl
    have hX : va_X bS LS0 xs (s.setDrawn d0) s.heap := hX0
    refine lv_iload_n hx hb dL_law_18 rfl (lv_at hl 3 rfl) ?_
    refine lv_aload_n hx hb dL_law_19 rfl (lv_at hl 0 rfl) ?_
    refine va_slen hx hb hX hbl hbA hS dL_law_20 ?_
    refine lv_iconst (v := nI 4) hx hb dL_law_21 (by decide) ?_
    refine lv_isub hx hb dL_law_22 ?_
    refine lv_icmp_gt (tgt := 902) hx hb dL_law_23 (by decide) (fun c9 => ?_) (fun c9 => ?_)
    · refine lv_iconst (v := 1) hx hb dL_law_902 (by decide) ?_
      refine va_forget (fun q hq => hS.2.2 q hq) ?_
      exact lw_ret hd0 hx hb hr hlocks dL_law_903
    · exfalso
      refine c9 ?_
      show nI LS0 - nI 4 < nI j
      rw [Int32.lt_iff_toInt_lt, pk_sub_toInt (by omega) (by omega), nI_toInt (by omega)]
      omega
  | succ d ih =>
    intro j wx wm d0 H locs ls hd hj hI hd0 hP hD hS hl
    have hX : va_X bS LS0 xs (s.setDrawn d0) s.heap := hX0
    have kk : ∀ (wx wm : va_W) (d0 : Drawn) (H : Heap) (locs : List Loc), j + 4 ≤ LS0 → LIt G xo ha rg ta tx ea ka ad sa md wx wm → s.drawn.sameBut d0 lw_cs → va_P G.1 vwCl (wx ++ wm) H → va_D (fun q : Nat => s.heap.size ≤ q) (wx ++ wm) → va_S (fun q : Nat => s.heap.size ≤ q) s.heap H locs → W p l e room_1 (s.setDrawn d0) m #[Value.ref bS] below meth c H locs 600000 7302250 (lw_Z below #[Value.ref bS] s) (F0 m 896 ls []) := by
      intro wx wm d0 H locs hj4 hI hd0 hP hD hS
      refine lv_iinc (v := nI (j + 4)) (lv' := [(3, .int (nI (j + 4))), (0, .ref bS), (1, .ref xo), (2, .ref (md 0))]) hx hb dL_law_896 hl (k := 3) rfl (by exact nI_add _ _) (by decide) rfl (fun ls hl => ?_)
      refine lv_goto (tgt := 18) hx hb dL_law_899 (by decide) ?_
      exact ih (j + 4) wx wm d0 H locs ls (by omega) (by omega) hI hd0 hP hD hS (lv_sub hl [1, 2, 3, 0] rfl)
    refine lv_iload_n hx hb dL_law_18 rfl (lv_at hl 3 rfl) ?_
    refine lv_aload_n hx hb dL_law_19 rfl (lv_at hl 0 rfl) ?_
    refine va_slen hx hb hX hbl hbA hS dL_law_20 ?_
    refine lv_iconst (v := nI 4) hx hb dL_law_21 (by decide) ?_
    refine lv_isub hx hb dL_law_22 ?_
    refine lv_icmp_gt (tgt := 902) hx hb dL_law_23 (by decide) (fun c9 => ?_) (fun c9 => ?_)
    · refine lv_iconst (v := 1) hx hb dL_law_902 (by decide) ?_
      refine va_forget (fun q hq => hS.2.2 q hq) ?_
      exact lw_ret hd0 hx hb hr hlocks dL_law_903
    · have hj4 : j + 4 ≤ LS0 := by
        have c8 : ¬ nI LS0 - nI 4 < nI j := c9
        rw [Int32.lt_iff_toInt_lt, pk_sub_toInt (by omega) (by omega), nI_toInt (by omega)] at c8
        omega
      refine lv_aload_n hx hb dL_law_26 rfl (lv_at hl 0 rfl) ?_
      refine lv_iload_n hx hb dL_law_27 rfl (lv_at hl 3 rfl) ?_
      refine n_sld (j := j) hx hb hX hbl hbA hS (by omega) (by omega) dL_law_28 ?_
      refine lv_bipush (v := nI 31) hx hb dL_law_29 (by decide) ?_
      refine lv_iand hx hb dL_law_31 ?_
      obtain ⟨q, hq, eq9⟩ := and31 (xs j)
      refine eq_i eq9 ?_
      rcases (show q = 0 ∨ q = 1 ∨ q = 2 ∨ q = 3 ∨ q = 4 ∨ q = 5 ∨ q = 6 ∨ q = 7 ∨ q = 8 ∨ q = 9 ∨ q = 10 ∨ q = 11 ∨ q = 12 ∨ q = 13 ∨ q = 14 ∨ q = 15 ∨ q = 16 ∨ q = 17 ∨ q = 18 ∨ q = 19 ∨ q = 20 ∨ q = 21 ∨ q = 22 ∨ q = 23 ∨ 24 ≤ q by omega) with rfl | rfl | rfl | rfl | rfl | rfl | rfl | rfl | rfl | rfl | rfl | rfl | rfl | rfl | rfl | rfl | rfl | rfl | rfl | rfl | rfl | rfl | rfl | rfl | h24
      · refine lv_tableIn (off := 112) (tgt := 144) hx hb dL_law_32 (by decide) (by decide) (by decide) (by decide) ?_
        exact law_0 l G xo ha rg ta tx ea ka ad sa md C0 hK0 hI hd0 hP hD hS hj4 hL9 hl (fun wx wm d0 H locs h1 h2 h3 h4 h5 => kk wx wm d0 H locs hj4 h1 h2 h3 h4 h5)
      · refine lv_tableIn (off := 155) (tgt := 187) hx hb dL_law_32 (by decide) (by decide) (by decide) (by decide) ?_
        exact law_1 l G xo ha rg ta tx ea ka ad sa md C0 hK0 hI hd0 hP hD hS hj4 hL9 hl (fun wx wm d0 H locs h1 h2 h3 h4 h5 => kk wx wm d0 H locs hj4 h1 h2 h3 h4 h5)
      · refine lv_tableIn (off := 168) (tgt := 200) hx hb dL_law_32 (by decide) (by decide) (by decide) (by decide) ?_
        exact law_2 l G xo ha rg ta tx ea ka ad sa md C0 hK0 hI hd0 hP hD hS hj4 hL9 hl (fun wx wm d0 H locs h1 h2 h3 h4 h5 => kk wx wm d0 H locs hj4 h1 h2 h3 h4 h5)
      · refine lv_tableIn (off := 211) (tgt := 243) hx hb dL_law_32 (by decide) (by decide) (by decide) (by decide) ?_
        exact law_3 l G xo ha rg ta tx ea ka ad sa md C0 hK0 hI hd0 hP hD hS hj4 hL9 hl (fun wx wm d0 H locs h1 h2 h3 h4 h5 => kk wx wm d0 H locs hj4 h1 h2 h3 h4 h5)
      · refine lv_tableIn (off := 244) (tgt := 276) hx hb dL_law_32 (by decide) (by decide) (by decide) (by decide) ?_
        exact law_4 l G xo ha rg ta tx ea ka ad sa md C0 hK0 hI hd0 hP hD hS hj4 hL9 hl (fun wx wm d0 H locs h1 h2 h3 h4 h5 => kk wx wm d0 H locs hj4 h1 h2 h3 h4 h5)
      · refine lv_tableIn (off := 267) (tgt := 299) hx hb dL_law_32 (by decide) (by decide) (by decide) (by decide) ?_
        exact law_5 l G xo ha rg ta tx ea ka ad sa md C0 hK0 hI hd0 hP hD hS hj4 hL9 hl (fun wx wm d0 H locs h1 h2 h3 h4 h5 => kk wx wm d0 H locs hj4 h1 h2 h3 h4 h5)
      · refine lv_tableIn (off := 280) (tgt := 312) hx hb dL_law_32 (by decide) (by decide) (by decide) (by decide) ?_
        exact law_6 l G xo ha rg ta tx ea ka ad sa md C0 hK0 hI hd0 hP hD hS hj4 hL9 hl (fun wx wm d0 H locs h1 h2 h3 h4 h5 => kk wx wm d0 H locs hj4 h1 h2 h3 h4 h5)
      · refine lv_tableIn (off := 293) (tgt := 325) hx hb dL_law_32 (by decide) (by decide) (by decide) (by decide) ?_
        exact law_7 l G xo ha rg ta tx ea ka ad sa md C0 hK0 hI hd0 hP hD hS hj4 hL9 hl (fun wx wm d0 H locs h1 h2 h3 h4 h5 => kk wx wm d0 H locs hj4 h1 h2 h3 h4 h5)
      · refine lv_tableIn (off := 336) (tgt := 368) hx hb dL_law_32 (by decide) (by decide) (by decide) (by decide) ?_
        exact law_8 l G xo ha rg ta tx ea ka ad sa md C0 hK0 hI hd0 hP hD hS hj4 hL9 hl (fun wx wm d0 H locs h1 h2 h3 h4 h5 => kk wx wm d0 H locs hj4 h1 h2 h3 h4 h5)
      · refine lv_tableIn (off := 359) (tgt := 391) hx hb dL_law_32 (by decide) (by decide) (by decide) (by decide) ?_
        exact law_9 l G xo ha rg ta tx ea ka ad sa md C0 hK0 hI hd0 hP hD hS hj4 hL9 hl (fun wx wm d0 H locs h1 h2 h3 h4 h5 => kk wx wm d0 H locs hj4 h1 h2 h3 h4 h5)
      · refine lv_tableIn (off := 382) (tgt := 414) hx hb dL_law_32 (by decide) (by decide) (by decide) (by decide) ?_
        exact law_10 l G xo ha rg ta tx ea ka ad sa md C0 hK0 hI hd0 hP hD hS hj4 hL9 hl (fun wx wm d0 H locs h1 h2 h3 h4 h5 => kk wx wm d0 H locs hj4 h1 h2 h3 h4 h5)
      · refine lv_tableIn (off := 415) (tgt := 447) hx hb dL_law_32 (by decide) (by decide) (by decide) (by decide) ?_
        exact law_11 l G xo ha rg ta tx ea ka ad sa md C0 hK0 hI hd0 hP hD hS hj4 hL9 hl (fun wx wm d0 H locs h1 h2 h3 h4 h5 => kk wx wm d0 H locs hj4 h1 h2 h3 h4 h5)
      · refine lv_tableIn (off := 438) (tgt := 470) hx hb dL_law_32 (by decide) (by decide) (by decide) (by decide) ?_
        exact law_12 l G xo ha rg ta tx ea ka ad sa md C0 hK0 hI hd0 hP hD hS hj4 hL9 hl (fun wx wm d0 H locs h1 h2 h3 h4 h5 => kk wx wm d0 H locs hj4 h1 h2 h3 h4 h5)
      · refine lv_tableIn (off := 471) (tgt := 503) hx hb dL_law_32 (by decide) (by decide) (by decide) (by decide) ?_
        exact law_13 l G xo ha rg ta tx ea ka ad sa md C0 hK0 hI hd0 hP hD hS hj4 hL9 hl (fun wx wm d0 H locs h1 h2 h3 h4 h5 => kk wx wm d0 H locs hj4 h1 h2 h3 h4 h5)
      · refine lv_tableIn (off := 504) (tgt := 536) hx hb dL_law_32 (by decide) (by decide) (by decide) (by decide) ?_
        exact law_14 l G xo ha rg ta tx ea ka ad sa md C0 hK0 hI hd0 hP hD hS hj4 hL9 hl (fun wx wm d0 H locs h1 h2 h3 h4 h5 => kk wx wm d0 H locs hj4 h1 h2 h3 h4 h5)
      · refine lv_tableIn (off := 527) (tgt := 559) hx hb dL_law_32 (by decide) (by decide) (by decide) (by decide) ?_
        exact law_15 l G xo ha rg ta tx ea ka ad sa md C0 hK0 hI hd0 hP hD hS hj4 hL9 hl (fun wx wm d0 H locs h1 h2 h3 h4 h5 => kk wx wm d0 H locs hj4 h1 h2 h3 h4 h5)
      · refine lv_tableIn (off := 570) (tgt := 602) hx hb dL_law_32 (by decide) (by decide) (by decide) (by decide) ?_
        exact law_16 l G xo ha rg ta tx ea ka ad sa md C0 hK0 hI hd0 hP hD hS hj4 hL9 hl (fun wx wm d0 H locs h1 h2 h3 h4 h5 => kk wx wm d0 H locs hj4 h1 h2 h3 h4 h5)
      · refine lv_tableIn (off := 613) (tgt := 645) hx hb dL_law_32 (by decide) (by decide) (by decide) (by decide) ?_
        exact law_17 l G xo ha rg ta tx ea ka ad sa md C0 hK0 hI hd0 hP hD hS hj4 hL9 hl (fun wx wm d0 H locs h1 h2 h3 h4 h5 => kk wx wm d0 H locs hj4 h1 h2 h3 h4 h5)
      · refine lv_tableIn (off := 656) (tgt := 688) hx hb dL_law_32 (by decide) (by decide) (by decide) (by decide) ?_
        exact law_18 l G xo ha rg ta tx ea ka ad sa md C0 hK0 hI hd0 hP hD hS hj4 hL9 hl (fun wx wm d0 H locs h1 h2 h3 h4 h5 => kk wx wm d0 H locs hj4 h1 h2 h3 h4 h5)
      · refine lv_tableIn (off := 699) (tgt := 731) hx hb dL_law_32 (by decide) (by decide) (by decide) (by decide) ?_
        exact law_19 l G xo ha rg ta tx ea ka ad sa md C0 hK0 hI hd0 hP hD hS hj4 hL9 hl (fun wx wm d0 H locs h1 h2 h3 h4 h5 => kk wx wm d0 H locs hj4 h1 h2 h3 h4 h5)
      · refine lv_tableIn (off := 742) (tgt := 774) hx hb dL_law_32 (by decide) (by decide) (by decide) (by decide) ?_
        exact law_20 l G xo ha rg ta tx ea ka ad sa md C0 hK0 hI hd0 hP hD hS hj4 hL9 hl (fun wx wm d0 H locs h1 h2 h3 h4 h5 => kk wx wm d0 H locs hj4 h1 h2 h3 h4 h5)
      · refine lv_tableIn (off := 785) (tgt := 817) hx hb dL_law_32 (by decide) (by decide) (by decide) (by decide) ?_
        exact law_21 l G xo ha rg ta tx ea ka ad sa md C0 hK0 hI hd0 hP hD hS hj4 hL9 hl (fun wx wm d0 H locs h1 h2 h3 h4 h5 => kk wx wm d0 H locs hj4 h1 h2 h3 h4 h5)
      · refine lv_tableIn (off := 818) (tgt := 850) hx hb dL_law_32 (by decide) (by decide) (by decide) (by decide) ?_
        exact law_22 l G xo ha rg ta tx ea ka ad sa md C0 hK0 hI hd0 hP hD hS hj4 hL9 hl (fun wx wm d0 H locs h1 h2 h3 h4 h5 => kk wx wm d0 H locs hj4 h1 h2 h3 h4 h5)
      · refine lv_tableIn (off := 851) (tgt := 883) hx hb dL_law_32 (by decide) (by decide) (by decide) (by decide) ?_
        exact law_23 l G xo ha rg ta tx ea ka ad sa md C0 hK0 hI hd0 hP hD hS hj4 hL9 hl (fun wx wm d0 H locs h1 h2 h3 h4 h5 => kk wx wm d0 H locs hj4 h1 h2 h3 h4 h5)
      · refine lv_tableOut (tgt := 896) hx hb dL_law_32 (Or.inr (by rw [nI_toInt (by omega)]; omega)) (by decide) ?_
        exact kk wx wm d0 H locs hj4 hI hd0 hP hD hS
theorem arr_known {s : State} {A : Array Value} {ty : FieldType} (h : (Cond.arrayClass ty).before A s = true) : ∃ cA : ClassId, ArrOfT s cA ty ∧ s.vm.findClass ("[" ++ ty.toString) = some cA := by
  obtain ⟨c, k, comp, h1, h2, h3⟩ := Cond.arrayClass_spec h
  exact ⟨c, fun n z => ⟨fun k h => (by cases h), k, h2, comp, h3⟩, h1⟩
theorem arr_over {s : State} {A : Array Value} {C : String} (h : (Cond.arrayOver (.object C)).before A s = true) : ∃ cA : ClassId, ArrOfT s cA (.object C) ∧ va_RA s cA (.object C) := by
  obtain ⟨comp, c, k, h1, h2, h3, h4, h5⟩ := Cond.arrayOver_spec h
  exact ⟨c, fun n z => ⟨fun k h => (by cases h), k, h3, comp, h4⟩, k, comp, h3, h4, h1, h5⟩
set_option maxHeartbeats 4000000 in
set_option maxRecDepth 100000 in
/-- what the tables know at the law's start -/
theorem law_known {s : State} {A : Array Value} (hts : ∀ w ∈ lw_tbl, w.before A s = true) : ∃ G : GG, KX G s ∧ va_AO RX0 s := by
  obtain ⟨c0, i0, hc0⟩ := u_known (C := RX0) (T := TX0) (N := 10) (n := 10) hts in_wsX00 (hts (.instantiable RX0 10) (List.mem_of_getElem? (i := 53) (by decide +kernel)))
  obtain ⟨c1, i1, hc1⟩ := u_known (C := RX1) (T := TX1) (N := 3) (n := 3) hts in_wsX10 (hts (.instantiable RX1 3) (List.mem_of_getElem? (i := 102) (by decide +kernel)))
  obtain ⟨c2, i2, hc2⟩ := u_known (C := RX2) (T := TX2) (N := 3) (n := 3) hts in_wsX20 (hts (.instantiable RX2 3) (List.mem_of_getElem? (i := 157) (by decide +kernel)))
  obtain ⟨c3, i3, hc3⟩ := u_known (C := RX3) (T := TX3) (N := 4) (n := 4) hts in_wsX30 (hts (.instantiable RX3 4) (List.mem_of_getElem? (i := 151) (by decide +kernel)))
  obtain ⟨c4, i4, hc4⟩ := u_known (C := RX4) (T := TX4) (N := 6) (n := 6) hts in_wsX40 (hts (.instantiable RX4 6) (List.mem_of_getElem? (i := 122) (by decide +kernel)))
  obtain ⟨c6, i6, hc6⟩ := u_known (C := RX6) (T := TX6) (N := 4) (n := 4) hts in_wsX60 (hts (.instantiable RX6 4) (List.mem_of_getElem? (i := 45) (by decide +kernel)))
  obtain ⟨c7, i7, hc7⟩ := u_known (C := RX7) (T := TX7) (N := 15) (n := 15) hts in_wsX70 (hts (.instantiable RX7 15) (List.mem_of_getElem? (i := 544) (by decide +kernel)))
  obtain ⟨a0, ha0, ga0⟩ := arr_known (hts (.arrayClass .int) (List.mem_of_getElem? (i := 100) (by decide +kernel)))
  obtain ⟨a1, ha1, ga1⟩ := arr_known (hts (.arrayClass .boolean) (List.mem_of_getElem? (i := 172) (by decide +kernel)))
  obtain ⟨a2, ha2, ga2⟩ := arr_known (hts (.arrayClass .float) (List.mem_of_getElem? (i := 173) (by decide +kernel)))
  obtain ⟨a3, ha3, ga3⟩ := arr_known (hts (.arrayClass .byte) (List.mem_of_getElem? (i := 595) (by decide +kernel)))
  have hov := hts (.arrayOver (.object RX0)) (List.mem_of_getElem? (i := 108) (by decide +kernel))
  obtain ⟨a4, ha4, ga4⟩ := arr_over hov
  refine ⟨((fun k => match k with | 0 => c0 | 1 => c1 | 2 => c2 | 3 => c3 | 4 => c4 | 5 => c6 | _ => c7, fun k => match k with | 0 => i0 | 1 => i1 | 2 => i2 | 3 => i3 | 4 => i4 | 5 => i6 | _ => i7), fun k => match k with | 0 => a0 | 1 => a1 | 2 => a2 | 3 => a3 | _ => a4), ⟨⟨fun k q hq => ?_, fun k q hq => ?_⟩, ?_, ?_, ?_⟩, va_AO.of hov⟩
  · match k, hq with
    | 0, hq => cases hq; exact hc0
    | 1, hq => cases hq; exact hc1
    | 2, hq => cases hq; exact hc2
    | 3, hq => cases hq; exact hc3
    | 4, hq => cases hq; exact hc4
    | 5, hq => cases hq; exact hc6
    | 6, hq => cases hq; exact hc7
    | k + 7, hq => simp [vwCl] at hq
  · match k, hq with
    | 0, hq => cases hq; exact ⟨ha0, ga0⟩
    | 1, hq => cases hq; exact ⟨ha1, ga1⟩
    | 2, hq => cases hq; exact ⟨ha2, ga2⟩
    | 3, hq => cases hq; exact ⟨ha3, ga3⟩
    | 4, hq => cases hq; exact ⟨ha4, ga4⟩
    | k + 5, hq => simp [TYs] at hq
  · exact va_Nw.of rfl (hts (.methodLinkNest RX0 57 yX6_cell RX6) (List.mem_of_getElem? (i := 318) (by decide +kernel)))
  · exact va_Nw.of rfl (hts (.methodLinkNest RX2 23 yX6_cell RX6) (List.mem_of_getElem? (i := 397) (by decide +kernel)))
  · exact va_Nw.of rfl (hts (.methodLinkNest RX6 25 yX4_init RX6) (List.mem_of_getElem? (i := 123) (by decide +kernel)))
