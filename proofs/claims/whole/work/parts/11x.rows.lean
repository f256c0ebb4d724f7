/-! behind a call: the rest, then what came back -/
theorem fr_app {A0 : Nat → Prop} {D : va_G} {cl : List vw_C} {ws wc wr w1 : va_W} {H H1 : Heap} (hP : va_P D cl ws H) (hD : va_D A0 ws) (isC isR : List Nat) (hC : isC.map (fun i => ws[i]?) = wc.map some) (hR : isR.map (fun i => ws[i]?) = wr.map some) (hnC : va_nd isC = true) (hnR : va_nd isR = true) (hdis : ∀ i ∈ isR, i ∉ isC) (hadr : w1.map Prod.fst = wc.map Prod.fst)
    (hk : ∀ q : Nat, q < H.size → ¬ adr wc q → H1[q]? = H[q]?) (hP1 : va_P D cl w1 H1) : va_P D cl (wr ++ w1) H1 ∧ va_D A0 (wr ++ w1) := by
  have at' : ∀ {is : List Nat} {w : va_W}, is.map (fun i => ws[i]?) = w.map some → ∀ (k : Nat) (q : Nat × va_E), w[k]? = some q → ∃ i, is[k]? = some i ∧ ws[i]? = some q := by
    intro is w hs k q hq
    have h1 : (is.map (fun i => ws[i]?))[k]? = some (some q) := by rw [hs, List.getElem?_map, hq]; rfl
    rw [List.getElem?_map] at h1
    cases hi : is[k]? with
    | none => rw [hi] at h1; cases h1
    | some i => rw [hi] at h1; exact ⟨i, rfl, Option.some.inj h1⟩
  have apart : ∀ (k : Nat) (q : Nat × va_E), wr[k]? = some q → q.1 < H.size ∧ ¬ adr wc q.1 := by
    intro k q hq
    obtain ⟨i, h1, h2⟩ := at' hR k q hq
    refine ⟨(hP i q h2).lt, fun h => ?_⟩
    obtain ⟨k2, e, h⟩ := adr_of h
    obtain ⟨j, h3, h4⟩ := at' hC k2 (q.1, e) h
    have hij := hD.1 i j q (q.1, e) h2 h4 rfl
    subst hij
    exact hdis i (List.mem_of_getElem? h1) (List.mem_of_getElem? h3)
  have hD1 : va_D A0 w1 := va_D_of_adr hadr (fun q h => adr_free hD isC hC q h) (hD.sub isC hnC hC)
  refine ⟨va_P.app (fun k q hq => ?_) hP1, va_D.app (hD.sub isR hnR hR) hD1 (fun i j x y hx hy hxy => ?_)⟩
  · obtain ⟨i, h1, h2⟩ := at' hR k q hq
    obtain ⟨g1, g2⟩ := apart k q hq
    exact (hP i q h2).kept (hk q.1 g1 g2)
  · refine (apart i x hx).2 ?_
    have := adr_at hy
    unfold adr at this ⊢
    rw [← hadr, hxy]
    exact this
section MYROWS4
variable {p : Program} {l : Launch} {e : Env} {R : Room} {s : State} {m : MethodId} {args : Array Value} {below : List Frame} {meth : Method} {c : Code} {H : Heap} {locs : List Loc} {cells slots : Nat} {Q : State → Prop}
variable {pc : Nat} {ls : Array Slot} {rest st0 : List Value} {a : Array Value} {A : Nat → Prop} {H0 : Heap} {D : va_G} {cl : List vw_C} {S : Type} {w' : S → va_W} {ws wc wr : va_W}
theorem cj_v {post : S → Prop} (hr : va_Run p l e R s m args below meth c H locs cells slots 0 0 (F0 m pc ls st0) rest (va_Qv post (fun u t => va_P D cl (w' u) t.heap) (adr wc) a) (adr wc)) (hP : va_P D cl ws H) (hD : va_D A ws) (hS : va_S A H0 H locs) (isC isR : List Nat) (hC : isC.map (fun i => ws[i]?) = wc.map some) (hR : isR.map (fun i => ws[i]?) = wr.map some) (hnC : va_nd isC = true) (hnR : va_nd isR = true) (hdis : ∀ i ∈ isR, i ∉ isC) (hadr : ∀ u, (w' u).map Prod.fst = wc.map Prod.fst)
    (kk : ∀ (u : S) (H1 : Heap) (locs1 : List Loc), post u → va_P D cl (wr ++ w' u) H1 → va_D A (wr ++ w' u) → va_S A H0 H1 locs1 → W p l e R s m args below meth c H1 locs1 cells slots Q (F0 m (pc + 3) ls rest)) : W p l e R s m args below meth c H locs cells slots Q (F0 m pc ls st0) := by
  refine va_callv hr hS (fun q _ h => adr_free hD isC hC q h) (adr_free hD isC hC) (fun u t H1 locs1 ht hvm hw hB hz1 hk1 hS1 => ?_)
  rw [ht] at hB
  obtain ⟨hP1, hD1⟩ := fr_app hP hD isC isR hC hR hnC hnR hdis (hadr u) hk1 hB
  exact kk u H1 locs1 hw hP1 hD1 hS1
theorem cj_i {post : Int32 → S → Prop} (hr : va_Run p l e R s m args below meth c H locs cells slots 0 0 (F0 m pc ls st0) rest (va_Qi post (fun u t => va_P D cl (w' u) t.heap) (adr wc) a) (adr wc)) (hP : va_P D cl ws H) (hD : va_D A ws) (hS : va_S A H0 H locs) (isC isR : List Nat) (hC : isC.map (fun i => ws[i]?) = wc.map some) (hR : isR.map (fun i => ws[i]?) = wr.map some) (hnC : va_nd isC = true) (hnR : va_nd isR = true) (hdis : ∀ i ∈ isR, i ∉ isC) (hadr : ∀ u, (w' u).map Prod.fst = wc.map Prod.fst)
    (kk : ∀ (r : Int32) (u : S) (H1 : Heap) (locs1 : List Loc), post r u → va_P D cl (wr ++ w' u) H1 → va_D A (wr ++ w' u) → va_S A H0 H1 locs1 → W p l e R s m args below meth c H1 locs1 cells slots Q (F0 m (pc + 3) ls (.int r :: rest))) : W p l e R s m args below meth c H locs cells slots Q (F0 m pc ls st0) := by
  refine va_calli hr hS (fun q _ h => adr_free hD isC hC q h) (adr_free hD isC hC) (fun r u t H1 locs1 ht hvm hw hB hz1 hk1 hS1 => ?_)
  rw [ht] at hB
  obtain ⟨hP1, hD1⟩ := fr_app hP hD isC isR hC hR hnC hnR hdis (hadr u) hk1 hB
  exact kk r u H1 locs1 hw hP1 hD1 hS1
end MYROWS4
