/-! calls that write some of the head's cells, the ring left alone -/
theorem head_app {A : Nat → Prop} {D : va_G} {cl : List vw_C} {head tl wc wr w1 : va_W} {H H1 : Heap} (hP : va_P D cl (head ++ tl) H) (hD : va_D A (head ++ tl)) (isC isR : List Nat) (hC : isC.map (fun i => head[i]?) = wc.map some) (hR : isR.map (fun i => head[i]?) = wr.map some) (hdis : ∀ i ∈ isR, i ∉ isC)
    (hk : ∀ q : Nat, q < H.size → ¬ adr wc q → H1[q]? = H[q]?) (hP1 : va_P D cl w1 H1) : va_P D cl (wr ++ w1) H1 ∧ va_P D cl tl H1 := by
  have at' : ∀ {is : List Nat} {w : va_W}, is.map (fun i => head[i]?) = w.map some → ∀ (k : Nat) (q : Nat × va_E), w[k]? = some q → ∃ i, is[k]? = some i ∧ head[i]? = some q := by
    intro is w hs k q hq
    have h1 : (is.map (fun i => head[i]?))[k]? = some (some q) := by rw [hs, List.getElem?_map, hq]; rfl
    rw [List.getElem?_map] at h1
    cases hi : is[k]? with
    | none => rw [hi] at h1; cases h1
    | some i => rw [hi] at h1; exact ⟨i, rfl, Option.some.inj h1⟩
  refine ⟨va_P.app (fun k q hq => ?_) hP1, P_mem.mpr fun q hq => ?_⟩
  · obtain ⟨j, h1, h2⟩ := at' hR k q hq
    have h0 := P_mem.mp hP q (List.mem_append_left _ (List.mem_of_getElem? h2))
    refine h0.kept (hk q.1 h0.lt fun h => ?_)
    obtain ⟨z, hz, hze⟩ := adr_mem.mp h
    obtain ⟨k2, hk2⟩ := List.getElem?_of_mem hz
    obtain ⟨j2, h3, h4⟩ := at' hC k2 z hk2
    have := (D_left hD).1 j j2 q z h2 h4 hze.symm
    subst this
    exact hdis j (List.mem_of_getElem? h1) (List.mem_of_getElem? h3)
  · have h0 := P_mem.mp hP q (List.mem_append_right _ hq)
    refine h0.kept (hk q.1 h0.lt fun h => ?_)
    obtain ⟨z, hz, hze⟩ := adr_mem.mp (adr_heads isC hC q.1 h)
    exact D_apart hD hz hq hze
theorem D_tl {A : Nat → Prop} {head head2 tl : va_W} (hD : va_D A (head ++ tl)) (h : head2.map Prod.fst = head.map Prod.fst) : va_D A (head2 ++ tl) := by
  refine va_D_of_adr (w := head ++ tl) ?_ (fun q h => ?_) hD
  · rw [List.map_append, List.map_append, h]
  · obtain ⟨k, e, hk⟩ := adr_of h
    exact hD.2 k _ hk
section CTROWS
variable {p : Program} {l : Launch} {e : Env} {R : Room} {s : State} {m : MethodId} {args : Array Value} {below : List Frame} {meth : Method} {c : Code} {H : Heap} {locs : List Loc} {cells slots : Nat} {Q : State → Prop}
variable {pc : Nat} {ls : Array Slot} {rest st0 : List Value} {a : Array Value} {A : Nat → Prop} {H0 : Heap} {D : va_G} {cl : List vw_C} {S : Type} {w' head2 : S → va_W} {head tl wc wr : va_W}
theorem ct_v {post : S → Prop} (hr : va_Run p l e R s m args below meth c H locs cells slots 0 0 (F0 m pc ls st0) rest (va_Qv post (fun u t => va_P D cl (w' u) t.heap) (adr wc) a) (adr wc)) (hP : va_P D cl (head ++ tl) H) (hD : va_D A (head ++ tl)) (hS : va_S A H0 H locs) (isC isR : List Nat) (hC : isC.map (fun i => head[i]?) = wc.map some) (hR : isR.map (fun i => head[i]?) = wr.map some) (hdis : ∀ i ∈ isR, i ∉ isC) (pm : List Nat) (hpm : ∀ u, pm.filterMap (fun i => (wr ++ w' u)[i]?) = head2 u) (hadr : ∀ u, (head2 u).map Prod.fst = head.map Prod.fst)
    (kk : ∀ (u : S) (H1 : Heap) (locs1 : List Loc), post u → va_P D cl (head2 u ++ tl) H1 → va_D A (head2 u ++ tl) → va_S A H0 H1 locs1 → W p l e R s m args below meth c H1 locs1 cells slots Q (F0 m (pc + 3) ls rest)) : W p l e R s m args below meth c H locs cells slots Q (F0 m pc ls st0) := by
  refine va_callv hr hS (fun q _ h => adr_free (D_left hD) isC hC q h) (adr_free (D_left hD) isC hC) (fun u t H1 locs1 ht hvm hw hB hz1 hk1 hS1 => ?_)
  rw [ht] at hB
  obtain ⟨h1, h2⟩ := head_app hP hD isC isR hC hR hdis hk1 hB
  exact kk u H1 locs1 hw (va_P.app (h1.sub pm (hpm u)) h2) (D_tl hD (hadr u)) hS1
theorem ct_i {post : Int32 → S → Prop} (hr : va_Run p l e R s m args below meth c H locs cells slots 0 0 (F0 m pc ls st0) rest (va_Qi post (fun u t => va_P D cl (w' u) t.heap) (adr wc) a) (adr wc)) (hP : va_P D cl (head ++ tl) H) (hD : va_D A (head ++ tl)) (hS : va_S A H0 H locs) (isC isR : List Nat) (hC : isC.map (fun i => head[i]?) = wc.map some) (hR : isR.map (fun i => head[i]?) = wr.map some) (hdis : ∀ i ∈ isR, i ∉ isC) (pm : List Nat) (hpm : ∀ u, pm.filterMap (fun i => (wr ++ w' u)[i]?) = head2 u) (hadr : ∀ u, (head2 u).map Prod.fst = head.map Prod.fst)
    (kk : ∀ (r : Int32) (u : S) (H1 : Heap) (locs1 : List Loc), post r u → va_P D cl (head2 u ++ tl) H1 → va_D A (head2 u ++ tl) → va_S A H0 H1 locs1 → W p l e R s m args below meth c H1 locs1 cells slots Q (F0 m (pc + 3) ls (.int r :: rest))) : W p l e R s m args below meth c H locs cells slots Q (F0 m pc ls st0) := by
  refine va_calli hr hS (fun q _ h => adr_free (D_left hD) isC hC q h) (adr_free (D_left hD) isC hC) (fun r u t H1 locs1 ht hvm hw hB hz1 hk1 hS1 => ?_)
  rw [ht] at hB
  obtain ⟨h1, h2⟩ := head_app hP hD isC isR hC hR hdis hk1 hB
  exact kk r u H1 locs1 hw (va_P.app (h1.sub pm (hpm u)) h2) (D_tl hD (hadr u)) hS1
end CTROWS
