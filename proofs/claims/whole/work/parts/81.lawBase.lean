/-! THE LAW: component and reference side by side -/
section LROWS
variable {p : Program} {l : Launch} {e : Env} {R : Room} {s : State} {m : MethodId} {args : Array Value} {below : List Frame} {meth : Method} {c : Code} {H : Heap} {locs : List Loc} {cells slots : Nat} {Q : State → Prop}
variable {pc : Nat} {ls : Array Slot} {rest st0 : List Value} {a : Array Value} {A : Nat → Prop} {H0 : Heap} {cs : List Choice} {cc : ByteArray} {D : va_G} {cl : List vw_C} {S : Type} {w' : S → va_W} {wx wm : va_W}
theorem adr_in (hD : va_D A wx) : ∀ q, adr wx q → A q := fun q h => by
  obtain ⟨k, e, hk⟩ := adr_of h
  exact hD.2 k _ hk
/-- a call on the first of two worlds, and on the second -/
theorem la_x {post : Int32 → S → Prop} (hr : va_Run p l e R s m args below meth c H locs cells slots 0 0 (F0 m pc ls st0) rest (va_Qi post (fun u t => va_P D cl (w' u) t.heap) (adr wx) a) (adr wx)) (hP : va_P D cl (wx ++ wm) H) (hD : va_D A (wx ++ wm)) (hS : va_S A H0 H locs) (hadr : ∀ u, (w' u).map Prod.fst = wx.map Prod.fst)
    (kk : ∀ (r : Int32) (u : S) (H1 : Heap) (locs1 : List Loc), post r u → va_P D cl (w' u ++ wm) H1 → va_D A (w' u ++ wm) → va_S A H0 H1 locs1 → W p l e R s m args below meth c H1 locs1 cells slots Q (F0 m (pc + 3) ls (.int r :: rest))) : W p l e R s m args below meth c H locs cells slots Q (F0 m pc ls st0) := by
  have hF := adr_in (D_left hD)
  refine va_calli hr hS (fun q _ h => hF q h) hF (fun r u t H1 locs1 ht hvm hw hB hz1 hk1 hS1 => ?_)
  rw [ht] at hB
  have hPm : va_P D cl wm H1 := P_mem.mpr fun q hq => by
    have h0 := P_mem.mp hP q (List.mem_append_right _ hq)
    refine h0.kept (hk1 q.1 h0.lt fun h => ?_)
    obtain ⟨z, hz, hze⟩ := adr_mem.mp h
    exact D_apart hD hz hq hze
  exact kk r u H1 locs1 hw (va_P.app hB hPm) (D_re hD (by rw [List.map_append, List.map_append, hadr u])) hS1
theorem la_m {post : Int32 → S → Prop} (hr : va_Run p l e R s m args below meth c H locs cells slots 0 0 (F0 m pc ls st0) rest (va_Qi post (fun u t => va_P D cl (w' u) t.heap) (adr wm) a) (adr wm)) (hP : va_P D cl (wx ++ wm) H) (hD : va_D A (wx ++ wm)) (hS : va_S A H0 H locs) (hadr : ∀ u, (w' u).map Prod.fst = wm.map Prod.fst)
    (kk : ∀ (r : Int32) (u : S) (H1 : Heap) (locs1 : List Loc), post r u → va_P D cl (wx ++ w' u) H1 → va_D A (wx ++ w' u) → va_S A H0 H1 locs1 → W p l e R s m args below meth c H1 locs1 cells slots Q (F0 m (pc + 3) ls (.int r :: rest))) : W p l e R s m args below meth c H locs cells slots Q (F0 m pc ls st0) := by
  have hF := adr_in (D_right hD)
  refine va_calli hr hS (fun q _ h => hF q h) hF (fun r u t H1 locs1 ht hvm hw hB hz1 hk1 hS1 => ?_)
  rw [ht] at hB
  have hPx : va_P D cl wx H1 := P_mem.mpr fun q hq => by
    have h0 := P_mem.mp hP q (List.mem_append_left _ hq)
    refine h0.kept (hk1 q.1 h0.lt fun h => ?_)
    obtain ⟨z, hz, hze⟩ := adr_mem.mp h
    exact D_apart hD hq hz hze.symm
  exact kk r u H1 locs1 hw (va_P.app hPx hB) (D_re hD (by rw [List.map_append, List.map_append, hadr u])) hS1
theorem laD_m {d0 : Drawn} (hd0 : s.drawn.sameBut d0 cs) {post : Int32 → S → Prop} (hr : va_RunD cs p l e R (s.setDrawn d0) m args below meth c H locs cells slots 0 0 (F0 m pc ls st0) rest (va_Qi post (fun u t => va_P D cl (w' u) t.heap) (adr wm) a) (adr wm)) (hP : va_P D cl (wx ++ wm) H) (hD : va_D A (wx ++ wm)) (hS : va_S A H0 H locs) (hadr : ∀ u, (w' u).map Prod.fst = wm.map Prod.fst)
    (kk : ∀ (r : Int32) (u : S) (H1 : Heap) (locs1 : List Loc), post r u → va_P D cl (wx ++ w' u) H1 → va_D A (wx ++ w' u) → va_S A H0 H1 locs1 → ∀ d' : Drawn, s.drawn.sameBut d' cs → W p l e R (s.setDrawn d') m args below meth c H1 locs1 cells slots Q (F0 m (pc + 3) ls (.int r :: rest))) : W p l e R (s.setDrawn d0) m args below meth c H locs cells slots Q (F0 m pc ls st0) := by
  have hF := adr_in (D_right hD)
  refine va_calliD hd0 hr hS (fun q _ h => hF q h) hF (fun r u t H1 locs1 ht hvm hw hB hz1 hk1 hS1 d' hd' => ?_)
  rw [ht] at hB
  have hPx : va_P D cl wx H1 := P_mem.mpr fun q hq => by
    have h0 := P_mem.mp hP q (List.mem_append_left _ hq)
    refine h0.kept (hk1 q.1 h0.lt fun h => ?_)
    obtain ⟨z, hz, hze⟩ := adr_mem.mp h
    exact D_apart hD hq hz hze.symm
  exact kk r u H1 locs1 hw (va_P.app hPx hB) (D_re hD (by rw [List.map_append, List.map_append, hadr u])) hS1 d' hd'
/-- one int of the script -/
theorem n_sld (hexec : p.tables.exec = Jvm.exec) (hb : c.code = cc) {b L : Nat} {xs : Nat → Int32} (hX : va_X b L xs s H0) (hbl : b < H0.size) (hbA : ¬ A b) (hS : va_S A H0 H locs) {j : Nat} (hj : j < L) (hL : L < 2 ^ 31) (hdg : decode cc pc = .ok (.iaload, 1))
    (kk : W p l e R s m args below meth c H locs cells slots Q (F0 m (pc + 1) ls (.int (xs j) :: rest))) : W p l e R s m args below meth c H locs cells slots Q (F0 m pc ls (.int (nI j) :: .ref b :: rest)) := by
  refine va_sld hexec hb hX hbl hbA hS (vp_in_nI hj hL) hdg ?_
  rw [nI_clamp (Nat.lt_trans hj hL)]
  exact kk
end LROWS
theorem xc_adr {G : GG} {xo ha rg ta : Nat} {tx ea ka ad : Nat → Nat} {sa : Nat → Nat → Nat} {i n : Nat} {x : Nat → Nat → Int32} {fs : Bool} {e1 : Nat → Bool} {v1 : Nat → UInt32} {e2 : Nat → Bool} {v2 : Nat → UInt32} {b : Nat → Nat → Int32} {g : Nat → Nat → Nat → Int32} {i' n' : Nat} {x' : Nat → Nat → Int32} {fs' : Bool} {e1' : Nat → Bool} {v1' : Nat → UInt32} {e2' : Nat → Bool} {v2' : Nat → UInt32} {b' : Nat → Nat → Int32} {g' : Nat → Nat → Nat → Int32} : (xcells G xo ha rg ta tx ea ka ad sa i n x fs e1 v1 e2 v2 b g).map Prod.fst = (xcells G xo ha rg ta tx ea ka ad sa i' n' x' fs' e1' v1' e2' v2' b' g').map Prod.fst := by
  unfold xcells
  rw [List.map_append, List.map_append]
  unfold rings
  rw [ringsN_adr (g := g) (g' := g')]
  rfl
/-- what the two keep in common, call after call -/
def LSt (i n L : Nat) (ch : Nat → Int32) (u : TS) (b : Nat → Nat → Int32) (g : Nat → Nat → Nat → Int32) (a pa tb : Nat → Int32) (c9 : Nat → Nat) : Prop := xI i n u b ∧ L ≤ 60 ∧ Rel a b ∧ Hs pa g i n ∧ chI ch c9 L ∧ tbI tb c9 L
def LIt (G : GG) (xo ha rg ta : Nat) (tx ea ka ad : Nat → Nat) (sa : Nat → Nat → Nat) (md : Nat → Nat) (wx wm : va_W) : Prop := ∃ (i n L pz : Nat) (ri rm rp ch : Nat → Int32) (fs : Bool) (e1 : Nat → Bool) (v1 : Nat → UInt32) (e2 : Nat → Bool) (v2 : Nat → UInt32) (b : Nat → Nat → Int32) (g : Nat → Nat → Nat → Int32) (a pa tb : Nat → Int32) (aw : Nat) (iw : Bool) (qu : Nat → Int32) (up lo : UInt32) (su : Nat) (kn : Nat → UInt32) (ik im : Nat → Bool) (fo : UInt32) (c9 : Nat → Nat), wx = xcells G xo ha rg ta tx ea ka ad sa i n (mkx L pz ri rm rp ch) fs e1 v1 e2 v2 b g ∧ wm = mcells G md a pa n tb L aw iw qu up lo su kn ik im fo ∧ LSt i n L ch (fs, e1, v1, e2, v2) b g a pa tb c9
theorem LIt.mk {G : GG} {xo ha rg ta : Nat} {tx ea ka ad : Nat → Nat} {sa : Nat → Nat → Nat} {md : Nat → Nat} {i n L pz : Nat} {ri rm rp ch : Nat → Int32} {fs : Bool} {e1 : Nat → Bool} {v1 : Nat → UInt32} {e2 : Nat → Bool} {v2 : Nat → UInt32} {b : Nat → Nat → Int32} {g : Nat → Nat → Nat → Int32} {a pa tb : Nat → Int32} {aw : Nat} {iw : Bool} {qu : Nat → Int32} {up lo : UInt32} {su : Nat} {kn : Nat → UInt32} {ik im : Nat → Bool} {fo : UInt32} {c9 : Nat → Nat} (h : LSt i n L ch (fs, e1, v1, e2, v2) b g a pa tb c9) : LIt G xo ha rg ta tx ea ka ad sa md (xcells G xo ha rg ta tx ea ka ad sa i n (mkx L pz ri rm rp ch) fs e1 v1 e2 v2 b g) (mcells G md a pa n tb L aw iw qu up lo su kn ik im fo) := ⟨i, n, L, pz, ri, rm, rp, ch, fs, e1, v1, e2, v2, b, g, a, pa, tb, aw, iw, qu, up, lo, su, kn, ik, im, fo, c9, rfl, rfl, h⟩
section LSROWS
variable {i n L : Nat} {ch : Nat → Int32} {fs : Bool} {e1 : Nat → Bool} {v1 : Nat → UInt32} {e2 : Nat → Bool} {v2 : Nat → UInt32} {b : Nat → Nat → Int32} {g : Nat → Nat → Nat → Int32} {a pa tb : Nat → Int32} {c9 : Nat → Nat}
theorem LSt.ed (h : LSt i n L ch (fs, e1, v1, e2, v2) b g a pa tb c9) {E : Bool} {a2 : Nat → Int32} {b2 : Nat → Nat → Int32} (hR : E = true → Rel a2 b2) : LSt (cond E (nx8 i) i) (cond E (kp8 n) n) L ch (cond E false fs, e1, v1, e2, v2) (cond E b2 b) (cond E (va_up g i b) g) (cond E a2 a) (cond E (edP pa a n) pa) tb c9 := by
  cases E
  · exact h
  · obtain ⟨⟨x1, x2, x3, x4, x5, x6⟩, h2, h3, h4, h5, h6⟩ := h
    exact ⟨⟨nx8_lt, kp8_le, (hR rfl).1, x4, x5, fun q => by cases q⟩, h2, hR rfl, h4.edit h3 x1 x2, h5, h6⟩
theorem LSt.imp (h : LSt i n L ch (fs, e1, v1, e2, v2) b g a pa tb c9) {E : Bool} {a2 : Nat → Int32} {b2 : Nat → Nat → Int32} (hR : E = true → Rel a2 b2) : LSt (cond E (nx8 i) i) (cond E (kp8 n) n) (cond E 0 L) ch (cond E false fs, e1, v1, e2, v2) (cond E b2 b) (cond E (va_up g i b) g) (cond E a2 a) (cond E (edP pa a n) pa) tb c9 := by
  have h1 := h.ed hR
  cases E
  · exact h
  · obtain ⟨h1, h2, h3, h4, h5, h6⟩ := h1
    exact ⟨h1, Nat.zero_le 60, h3, h4, fun j hj => absurd hj (Nat.not_lt_zero j), fun j hj => absurd hj (Nat.not_lt_zero j)⟩
theorem LSt.cl (h : LSt i n L ch (fs, e1, v1, e2, v2) b g a pa tb c9) : LSt i n 0 ch (fs, e1, v1, e2, v2) b g a pa tb c9 := by
  obtain ⟨h1, h2, h3, h4, h5, h6⟩ := h
  exact ⟨h1, Nat.zero_le 60, h3, h4, fun j hj => absurd hj (Nat.not_lt_zero j), fun j hj => absurd hj (Nat.not_lt_zero j)⟩
theorem LSt.ta (h : LSt i n L ch (fs, e1, v1, e2, v2) b g a pa tb c9) {u : TS} (hu : tI b u) : LSt i n L ch (u.1, u.2.1, u.2.2.1, u.2.2.2.1, u.2.2.2.2) b g a pa tb c9 := by
  obtain ⟨⟨x1, x2, x3, -⟩, h2⟩ := h
  exact ⟨⟨x1, x2, x3, hu⟩, h2⟩
theorem LSt.un (h : LSt i n L ch (fs, e1, v1, e2, v2) b g a pa tb c9) : LSt (cond (decide (0 < n)) (pv8 i) i) (n - 1) L ch (cond (decide (0 < n)) false fs, e1, v1, e2, v2) (cond (decide (0 < n)) (g (pv8 i)) b) g (cond (decide (0 < n)) (unP pa (n - 1) a) a) pa tb c9 := by
  by_cases hn : 0 < n
  · rw [decide_eq_true hn]
    obtain ⟨⟨x1, x2, x3, x4, x5, x6⟩, h2, h3, h4, h5, h6⟩ := h
    obtain ⟨r1, r2⟩ := h4.undo (a := a) x1 hn x2
    exact ⟨⟨pv8_lt x1, by omega, r1.1, x4, x5, fun q => by cases q⟩, h2, r1, r2, h5, h6⟩
  · have h0 : n = 0 := by omega
    subst h0
    exact h
theorem LSt.ap (h : LSt i n L ch (fs, e1, v1, e2, v2) b g a pa tb c9) {y : Int32} (hy : inR y (nI 0) (nI 255) = true) (hL : L < 60) : LSt i n (L + 1) (upd ch L y) (fs, e1, v1, e2, v2) b g a pa (upd tb L (y.toInt8.toInt32)) (fun j => if j = L then nC y else c9 j) := by
  obtain ⟨h1, h2, h3, h4, h5, h6⟩ := h
  obtain ⟨-, y2, y3⟩ := inR_c (by decide) (by decide) hy
  refine ⟨h1, by omega, h3, h4, fun j hj => ?_, fun j hj => ?_⟩
  · unfold upd
    by_cases e : j = L
    · simp only [if_pos e]
      exact ⟨y3, by omega⟩
    · simp only [if_neg e]
      exact h5 j (by omega)
  · unfold upd
    by_cases e : j = L
    · simp only [if_pos e]
      refine ⟨?_, by omega⟩
      unfold sb_b
      rw [← y3]
    · simp only [if_neg e]
      exact h6 j (by omega)
end LSROWS
theorem an_AP {L : Nat} (hL : L ≤ 60) (y : Int32) : mAPf L y = fAP L y ∧ mAPe L y = eAP L y := by
  unfold mAPf fAP mAPe eAP
  by_cases e : L = 60
  · subst e
    simp
  · have : L < 60 := by omega
    simp [e, this]
theorem rdO_ok {c : Nat → Nat} {L it N : Nat} : ∀ {f n : Nat}, rdO c L it f n (psn c L it n) = (true, N) → (∀ k, k < n → qOk c L it (psn c L it k) = true) → ∀ k, k < N → qOk c L it (psn c L it k) = true
  | 0, n, h, _ => by
    rw [rdO_0] at h
    cases h
  | f + 1, n, h, hq => by
    rw [rdO] at h
    by_cases h1 : qOk c L it (psn c L it n) = true
    · have hq' : ∀ k, k < n + 1 → qOk c L it (psn c L it k) = true := fun k hk => by
        by_cases e : k = n
        · subst e; exact h1
        · exact hq k (by omega)
      rw [if_pos h1] at h
      by_cases h2 : L ≤ qPos c L it (psn c L it n)
      · rw [if_pos h2] at h
        have : n + 1 = N := congrArg Prod.snd h
        subst this
        exact hq'
      · rw [if_neg h2] at h
        exact rdO_ok (f := f) (n := n + 1) h hq'
    · rw [if_neg h1] at h
      cases h
theorem rdE_ok {c : Nat → Nat} {L it : Nat} (h : (rdE c L it).1 = true) : ∀ k, k < (rdE c L it).2 → qOk c L it (psn c L it k) = true := by
  have h1 : rdO c L it 10 0 (psn c L it 0) = (true, (rdE c L it).2) := by
    show rdE c L it = _
    rw [← h]
  exact rdO_ok h1 (fun k hk => absurd hk (Nat.not_lt_zero k))
