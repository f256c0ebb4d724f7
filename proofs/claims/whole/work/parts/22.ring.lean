/-! the whole object: its cells; calls that touch one slot of the ring -/
def ringsN (G : GG) (sa : Nat → Nat → Nat) (g : Nat → Nat → Nat → Int32) : Nat → va_W
  | 0 => []
  | n + 1 => ringsN G sa g n ++ bcells G (sa n) (g n)
def rings (G : GG) (sa : Nat → Nat → Nat) (g : Nat → Nat → Nat → Int32) : va_W := ringsN G sa g 8
theorem P_mem {D : va_G} {cl : List vw_C} {ws : va_W} {H : Heap} : va_P D cl ws H ↔ ∀ q ∈ ws, va_at D cl q H :=
  ⟨fun h q hq => by obtain ⟨k, hk⟩ := List.getElem?_of_mem hq; exact h k q hk, fun h k q hk => h q (List.mem_of_getElem? hk)⟩
theorem ringsN_mem {G : GG} {sa : Nat → Nat → Nat} {g : Nat → Nat → Nat → Int32} {q : Nat × va_E} : ∀ {n : Nat}, q ∈ ringsN G sa g n ↔ ∃ j, j < n ∧ q ∈ bcells G (sa j) (g j)
  | 0 => by simp [ringsN]
  | n + 1 => by
    rw [ringsN, List.mem_append, ringsN_mem (n := n)]
    constructor
    · rintro (⟨j, h1, h2⟩ | h)
      · exact ⟨j, by omega, h2⟩
      · exact ⟨n, by omega, h⟩
    · rintro ⟨j, h1, h2⟩
      by_cases e : j = n
      · subst e; exact Or.inr h2
      · exact Or.inl ⟨j, by omega, h2⟩
theorem bcells_adr {G : GG} {ad : Nat → Nat} {b b' : Nat → Nat → Int32} : (bcells G ad b).map Prod.fst = (bcells G ad b').map Prod.fst := rfl
theorem ringsN_adr {G : GG} {sa : Nat → Nat → Nat} {g g' : Nat → Nat → Nat → Int32} : ∀ {n : Nat}, (ringsN G sa g n).map Prod.fst = (ringsN G sa g' n).map Prod.fst
  | 0 => rfl
  | n + 1 => by
    rw [ringsN, ringsN, List.map_append, List.map_append, ringsN_adr (n := n) (g := g) (g' := g'), bcells_adr (b' := g' n)]
theorem D_apart {A : Nat → Prop} {w1 w2 : va_W} (hD : va_D A (w1 ++ w2)) {p q : Nat × va_E} (hp : p ∈ w1) (hq : q ∈ w2) : p.1 ≠ q.1 := by
  obtain ⟨i, hi⟩ := List.getElem?_of_mem hp
  obtain ⟨j, hj⟩ := List.getElem?_of_mem hq
  have hil : i < w1.length := (List.getElem?_eq_some_iff.mp hi).1
  intro e
  have := hD.1 i (w1.length + j) p q (by rw [List.getElem?_append_left hil]; exact hi) (by rw [List.getElem?_append_right (by omega), Nat.add_sub_cancel_left]; exact hj) e
  omega
theorem D_left {A : Nat → Prop} {w1 w2 : va_W} (hD : va_D A (w1 ++ w2)) : va_D A w1 := by
  refine ⟨fun i j p q hi hj e => ?_, fun k q hk => ?_⟩
  · have h1 := (List.getElem?_eq_some_iff.mp hi).1
    have h2 := (List.getElem?_eq_some_iff.mp hj).1
    exact hD.1 i j p q (by rw [List.getElem?_append_left h1]; exact hi) (by rw [List.getElem?_append_left h2]; exact hj) e
  · have h1 := (List.getElem?_eq_some_iff.mp hk).1
    exact hD.2 k q (by rw [List.getElem?_append_left h1]; exact hk)
theorem D_right {A : Nat → Prop} {w1 w2 : va_W} (hD : va_D A (w1 ++ w2)) : va_D A w2 := by
  refine ⟨fun i j p q hi hj e => ?_, fun k q hk => ?_⟩
  · have := hD.1 (w1.length + i) (w1.length + j) p q (by rw [List.getElem?_append_right (by omega), Nat.add_sub_cancel_left]; exact hi) (by rw [List.getElem?_append_right (by omega), Nat.add_sub_cancel_left]; exact hj) e
    omega
  · exact hD.2 (w1.length + k) q (by rw [List.getElem?_append_right (by omega), Nat.add_sub_cancel_left]; exact hk)
theorem P_left {D : va_G} {cl : List vw_C} {w1 w2 : va_W} {H : Heap} (h : va_P D cl (w1 ++ w2) H) : va_P D cl w1 H := P_mem.mpr fun q hq => P_mem.mp h q (List.mem_append_left _ hq)
theorem P_right {D : va_G} {cl : List vw_C} {w1 w2 : va_W} {H : Heap} (h : va_P D cl (w1 ++ w2) H) : va_P D cl w2 H := P_mem.mpr fun q hq => P_mem.mp h q (List.mem_append_right _ hq)
theorem ringsN_apart {G : GG} {sa : Nat → Nat → Nat} {g : Nat → Nat → Nat → Int32} {A : Nat → Prop} : ∀ {n : Nat}, va_D A (ringsN G sa g n) → ∀ {i j : Nat}, i < n → j < n → i ≠ j → ∀ {p q : Nat × va_E}, p ∈ bcells G (sa i) (g i) → q ∈ bcells G (sa j) (g j) → p.1 ≠ q.1
  | 0, _, i, _, hi, _, _, _, _, _, _ => absurd hi (Nat.not_lt_zero i)
  | n + 1, hD, i, j, hi, hj, hij, p, q, hp, hq => by
    rw [ringsN] at hD
    by_cases e1 : i = n
    · subst e1
      exact fun e => D_apart hD (ringsN_mem.mpr ⟨j, by omega, hq⟩) hp e.symm
    · by_cases e2 : j = n
      · subst e2
        exact D_apart hD (ringsN_mem.mpr ⟨i, by omega, hp⟩) hq
      · exact ringsN_apart (D_left hD) (by omega) (by omega) hij hp hq
theorem ringsN_at {G : GG} {sa : Nat → Nat → Nat} {g : Nat → Nat → Nat → Int32} {A : Nat → Prop} : ∀ {n : Nat}, va_D A (ringsN G sa g n) → ∀ {i : Nat}, i < n → va_D A (bcells G (sa i) (g i))
  | 0, _, i, hi => absurd hi (Nat.not_lt_zero i)
  | n + 1, hD, i, hi => by
    rw [ringsN] at hD
    by_cases e1 : i = n
    · subst e1; exact D_right hD
    · exact ringsN_at (D_left hD) (by omega)
theorem rings_P {G : GG} {sa : Nat → Nat → Nat} {g : Nat → Nat → Nat → Int32} {D : va_G} {cl : List vw_C} {H : Heap} (h : va_P D cl (rings G sa g) H) {i : Nat} (hi : i < 8) : va_P D cl (bcells G (sa i) (g i)) H := P_mem.mpr fun q hq => P_mem.mp h q (ringsN_mem.mpr ⟨i, hi, hq⟩)
theorem adr_mem {w : va_W} {x : Nat} : adr w x ↔ ∃ q ∈ w, q.1 = x := by
  unfold adr
  rw [List.mem_map]
/-- the rings behind a call that wrote one slot -/
theorem rings_join {G : GG} {sa : Nat → Nat → Nat} {g : Nat → Nat → Nat → Int32} {A : Nat → Prop} {D : va_G} {cl : List vw_C} {head wc : va_W} {H H1 : Heap} {i : Nat} {y : Nat → Nat → Int32} (hi : i < 8) (hP : va_P D cl (head ++ rings G sa g) H) (hD : va_D A (head ++ rings G sa g)) (hwc : ∀ x, adr wc x → adr head x)
    (hk : ∀ q : Nat, q < H.size → ¬ adr (wc ++ bcells G (sa i) (g i)) q → H1[q]? = H[q]?) (hy : va_P D cl (bcells G (sa i) y) H1) : va_P D cl (rings G sa (va_up g i y)) H1 := by
  refine P_mem.mpr fun q hq => ?_
  obtain ⟨j, hj, hqj⟩ := ringsN_mem.mp hq
  by_cases e : j = i
  · subst e
    have e2 : va_up g j y j = y := by unfold va_up; rw [if_pos rfl]
    rw [e2] at hqj
    exact P_mem.mp hy q hqj
  · have e2 : va_up g i y j = g j := by unfold va_up; rw [if_neg e]
    rw [e2] at hqj
    have hqr : q ∈ rings G sa g := ringsN_mem.mpr ⟨j, hj, hqj⟩
    have h0 := P_mem.mp hP q (List.mem_append_right _ hqr)
    refine h0.kept (hk q.1 h0.lt fun h => ?_)
    obtain ⟨z, hz, hze⟩ := adr_mem.mp h
    rcases List.mem_append.mp hz with hz | hz
    · obtain ⟨z2, hz2, hze2⟩ := adr_mem.mp (hwc z.1 (adr_mem.mpr ⟨z, hz, rfl⟩))
      exact D_apart hD hz2 hqr (hze2.trans hze)
    · exact ringsN_apart (D_right hD) hi hj (fun e9 => e e9.symm) hz hqj hze
theorem head_join {G : GG} {sa : Nat → Nat → Nat} {g : Nat → Nat → Nat → Int32} {A : Nat → Prop} {D : va_G} {cl : List vw_C} {head wc wr w1 : va_W} {H H1 : Heap} {i : Nat} (hi : i < 8) (hP : va_P D cl (head ++ rings G sa g) H) (hD : va_D A (head ++ rings G sa g)) (isC isR : List Nat) (hC : isC.map (fun i => head[i]?) = wc.map some) (hR : isR.map (fun i => head[i]?) = wr.map some) (hdis : ∀ i ∈ isR, i ∉ isC)
    (hk : ∀ q : Nat, q < H.size → ¬ adr (wc ++ bcells G (sa i) (g i)) q → H1[q]? = H[q]?) (hP1 : va_P D cl w1 H1) : va_P D cl (wr ++ w1) H1 := by
  have at' : ∀ {is : List Nat} {w : va_W}, is.map (fun i => head[i]?) = w.map some → ∀ (k : Nat) (q : Nat × va_E), w[k]? = some q → ∃ i, is[k]? = some i ∧ head[i]? = some q := by
    intro is w hs k q hq
    have h1 : (is.map (fun i => head[i]?))[k]? = some (some q) := by rw [hs, List.getElem?_map, hq]; rfl
    rw [List.getElem?_map] at h1
    cases hi : is[k]? with
    | none => rw [hi] at h1; cases h1
    | some i => rw [hi] at h1; exact ⟨i, rfl, Option.some.inj h1⟩
  refine va_P.app (fun k q hq => ?_) hP1
  obtain ⟨j, h1, h2⟩ := at' hR k q hq
  have hqh : q ∈ head := List.mem_of_getElem? h2
  have h0 := P_mem.mp hP q (List.mem_append_left _ hqh)
  refine h0.kept (hk q.1 h0.lt fun h => ?_)
  obtain ⟨z, hz, hze⟩ := adr_mem.mp h
  rcases List.mem_append.mp hz with hz | hz
  · obtain ⟨k2, hk2⟩ := List.getElem?_of_mem hz
    obtain ⟨j2, h3, h4⟩ := at' hC k2 z hk2
    have := (D_left hD).1 j j2 q z h2 h4 hze.symm
    subst this
    exact hdis j (List.mem_of_getElem? h1) (List.mem_of_getElem? h3)
  · exact D_apart hD hqh (ringsN_mem.mpr ⟨i, hi, hz⟩) hze.symm
section RINGCALL
variable {p : Program} {l : Launch} {e : Env} {R : Room} {s : State} {m : MethodId} {args : Array Value} {below : List Frame} {meth : Method} {c : Code} {H : Heap} {locs : List Loc} {cells slots : Nat} {Q : State → Prop}
variable {pc : Nat} {ls : Array Slot} {rest st0 : List Value} {a : Array Value} {A : Nat → Prop} {H0 : Heap} {D : va_G} {cl : List vw_C} {G : GG} {sa : Nat → Nat → Nat} {g : Nat → Nat → Nat → Int32} {head wc wr w1 head2 : va_W} {y : Nat → Nat → Int32} {i : Nat}
theorem slot_free (hi : i < 8) (hD : va_D A (head ++ rings G sa g)) (isC : List Nat) (hC : isC.map (fun i => head[i]?) = wc.map some) : ∀ q, adr (wc ++ bcells G (sa i) (g i)) q → A q := by
  intro q h
  obtain ⟨z, hz, rfl⟩ := adr_mem.mp h
  rcases List.mem_append.mp hz with hz | hz
  · exact adr_free (D_left hD) isC hC z.1 (adr_mem.mpr ⟨z, hz, rfl⟩)
  · obtain ⟨k, hk⟩ := List.getElem?_of_mem (ringsN_mem.mpr ⟨i, hi, hz⟩ : z ∈ rings G sa g)
    exact (D_right hD).2 k z hk
theorem adr_heads (isC : List Nat) (hC : isC.map (fun i => head[i]?) = wc.map some) : ∀ x, adr wc x → adr head x := by
  intro x h
  obtain ⟨k, e, hk⟩ := adr_of h
  have h1 : (isC.map (fun i => head[i]?))[k]? = some (some (x, e)) := by rw [hC, List.getElem?_map, hk]; rfl
  rw [List.getElem?_map] at h1
  cases hi : isC[k]? with
  | none => rw [hi] at h1; cases h1
  | some i => rw [hi] at h1; exact adr_at (q := (x, e)) (Option.some.inj h1)
theorem rg_v (hi : i < 8) {post : Unit → Prop} (hr : va_Run p l e R s m args below meth c H locs cells slots 0 0 (F0 m pc ls st0) rest (va_Qv post (fun _ t => va_P D cl (w1 ++ bcells G (sa i) y) t.heap) (adr (wc ++ bcells G (sa i) (g i))) a) (adr (wc ++ bcells G (sa i) (g i)))) (hP : va_P D cl (head ++ rings G sa g) H) (hD : va_D A (head ++ rings G sa g)) (hS : va_S A H0 H locs) (isC isR : List Nat) (hC : isC.map (fun i => head[i]?) = wc.map some) (hR : isR.map (fun i => head[i]?) = wr.map some) (hdis : ∀ i ∈ isR, i ∉ isC) (pm : List Nat) (hpm : pm.filterMap (fun i => (wr ++ w1)[i]?) = head2) (hadr : head2.map Prod.fst = head.map Prod.fst)
    (kk : ∀ (H1 : Heap) (locs1 : List Loc), va_P D cl (head2 ++ rings G sa (va_up g i y)) H1 → va_D A (head2 ++ rings G sa (va_up g i y)) → va_S A H0 H1 locs1 → W p l e R s m args below meth c H1 locs1 cells slots Q (F0 m (pc + 3) ls rest)) : W p l e R s m args below meth c H locs cells slots Q (F0 m pc ls st0) := by
  refine va_callv hr hS (fun q _ h => slot_free hi hD isC hC q h) (slot_free hi hD isC hC) (fun u t H1 locs1 ht hvm hw hB hz1 hk1 hS1 => ?_)
  rw [ht] at hB
  have h1 := head_join hi hP hD isC isR hC hR hdis hk1 (P_left hB)
  have h2 := rings_join hi hP hD (adr_heads isC hC) hk1 (P_right hB)
  refine kk H1 locs1 (va_P.app (h1.sub pm hpm) h2) (va_D_of_adr (w := head ++ rings G sa g) ?_ (fun q h => ?_) hD) hS1
  · rw [List.map_append, List.map_append, hadr]
    unfold rings
    rw [ringsN_adr (g := va_up g i y) (g' := g)]
  · obtain ⟨k, e, hk⟩ := adr_of h
    exact hD.2 k _ hk
theorem rg_i (hi : i < 8) {post : Int32 → Unit → Prop} (hr : va_Run p l e R s m args below meth c H locs cells slots 0 0 (F0 m pc ls st0) rest (va_Qi post (fun _ t => va_P D cl (w1 ++ bcells G (sa i) y) t.heap) (adr (wc ++ bcells G (sa i) (g i))) a) (adr (wc ++ bcells G (sa i) (g i)))) (hP : va_P D cl (head ++ rings G sa g) H) (hD : va_D A (head ++ rings G sa g)) (hS : va_S A H0 H locs) (isC isR : List Nat) (hC : isC.map (fun i => head[i]?) = wc.map some) (hR : isR.map (fun i => head[i]?) = wr.map some) (hdis : ∀ i ∈ isR, i ∉ isC) (pm : List Nat) (hpm : pm.filterMap (fun i => (wr ++ w1)[i]?) = head2) (hadr : head2.map Prod.fst = head.map Prod.fst)
    (kk : ∀ (r : Int32) (H1 : Heap) (locs1 : List Loc), post r () → va_P D cl (head2 ++ rings G sa (va_up g i y)) H1 → va_D A (head2 ++ rings G sa (va_up g i y)) → va_S A H0 H1 locs1 → W p l e R s m args below meth c H1 locs1 cells slots Q (F0 m (pc + 3) ls (.int r :: rest))) : W p l e R s m args below meth c H locs cells slots Q (F0 m pc ls st0) := by
  refine va_calli hr hS (fun q _ h => slot_free hi hD isC hC q h) (slot_free hi hD isC hC) (fun r u t H1 locs1 ht hvm hw hB hz1 hk1 hS1 => ?_)
  rw [ht] at hB
  have h1 := head_join hi hP hD isC isR hC hR hdis hk1 (P_left hB)
  have h2 := rings_join hi hP hD (adr_heads isC hC) hk1 (P_right hB)
  refine kk r H1 locs1 hw (va_P.app (h1.sub pm hpm) h2) (va_D_of_adr (w := head ++ rings G sa g) ?_ (fun q h => ?_) hD) hS1
  · rw [List.map_append, List.map_append, hadr]
    unfold rings
    rw [ringsN_adr (g := va_up g i y) (g' := g)]
  · obtain ⟨k, e, hk⟩ := adr_of h
    exact hD.2 k _ hk
end RINGCALL
/-- the text: x 0 0 its length, x 0 1 its position, x 1 .. x 4 its rows -/
def xcells (G : GG) (xo ha rg ta : Nat) (tx ea ka ad : Nat → Nat) (sa : Nat → Nat → Nat) (i n : Nat) (x : Nat → Nat → Int32) (fs : Bool) (e1 : Nat → Bool) (v1 : Nat → UInt32) (e2 : Nat → Bool) (v2 : Nat → UInt32) (b : Nat → Nat → Int32) (g : Nat → Nat → Nat → Int32) : va_W := ((xo, .inr (5, [.ref (ad 0), .ref ha, .ref (tx 0), .ref ta])) :: (ha, .inr (1, [.ref rg, .int (nI i), .int (nI n)])) :: (rg, .inl (G.2 4, 8, .inr (.inr (.inr (.inr (fun j => some (sa j 0))))))) :: (tx 0, .inr (4, [.ref (tx 1), .ref (tx 2), .ref (tx 3), .int (x 0 0), .ref (tx 4), .int (x 0 1)])) :: (tx 1, .inl (G.2 0, 10, .inl (x 1))) :: (tx 2, .inl (G.2 0, 10, .inl (x 2))) :: (tx 3, .inl (G.2 0, 10, .inl (x 3))) :: (tx 4, .inl (G.2 0, 60, .inl (x 4))) :: tcells G ta ea ka ad fs e1 v1 e2 v2 b) ++ rings G sa g
