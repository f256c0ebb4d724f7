/-! MY BASE: the tables' facts in one word, worlds by their addresses, calls of methods that only read, calls of methods that write their own cells -/
abbrev GG : Type := va_G × (Nat → ClassId)
def TYs (t : Nat → ClassId) : List (ClassId × FieldType) := [(t 0, .int), (t 1, .boolean), (t 2, .float), (t 3, .byte), (t 4, .object RX0)]
def KX (G : GG) (U : State) : Prop := va_K G.1 vwCl (TYs G.2) U ∧ va_Nw (.methodLinkNest RX0 57 yX6_cell RX6) U ∧ va_Nw (.methodLinkNest RX2 23 yX6_cell RX6) U ∧ va_Nw (.methodLinkNest RX6 25 yX4_init RX6) U
theorem KX.warm {G : GG} {s U : State} (hW : s.WarmedH U.vm) (h : KX G s) : KX G U := ⟨va_K.moved hW.alike h.1, va_Nw.warmM hW h.2.1, va_Nw.warmM hW h.2.2.1, va_Nw.warmM hW h.2.2.2⟩
theorem KX.calling {G : GG} {U : State} {g : JFrame} {mk : MethodId} {a : Array Value} (h : KX G U) : KX G (U.calling g mk a) := ⟨va_K.moved (u := U) (U := U.calling g mk a) (Vm.Alike.refl U.vm) h.1, va_Nw.same rfl (u := U) (U := U.calling g mk a) rfl h.2.1, va_Nw.same rfl (u := U) (U := U.calling g mk a) rfl h.2.2.1, va_Nw.same rfl (u := U) (U := U.calling g mk a) rfl h.2.2.2⟩
/-- the addresses of a world -/
def adr (w : va_W) : Nat → Prop := fun q => q ∈ w.map Prod.fst
theorem adr_at {w : va_W} {k : Nat} {q : Nat × va_E} (h : w[k]? = some q) : adr w q.1 := List.mem_map.mpr ⟨q, List.mem_of_getElem? h, rfl⟩
theorem adr_of {w : va_W} {q : Nat} (h : adr w q) : ∃ (k : Nat) (e : va_E), w[k]? = some (q, e) := by
  obtain ⟨⟨a, e⟩, h1, h2⟩ := List.mem_map.mp h
  obtain ⟨k, hk⟩ := List.getElem?_of_mem h1
  exact ⟨k, e, by rw [hk]; cases h2; rfl⟩
theorem va_D_of_adr {A B : Nat → Prop} {w w' : va_W} (h : w'.map Prod.fst = w.map Prod.fst) (hB : ∀ q, adr w q → B q) (hD : va_D A w) : va_D B w' := by
  have key : ∀ (k : Nat) (q : Nat × va_E), w'[k]? = some q → ∃ e, w[k]? = some (q.1, e) := by
    intro k q hk
    have h1 : (w'.map Prod.fst)[k]? = some q.1 := by rw [List.getElem?_map, hk]; rfl
    rw [h, List.getElem?_map] at h1
    cases hw : w[k]? with
    | none => rw [hw] at h1; cases h1
    | some z =>
      rw [hw] at h1
      obtain ⟨z1, z2⟩ := z
      have h2 : z1 = q.1 := Option.some.inj h1
      exact ⟨z2, by rw [h2]⟩
  refine ⟨fun i j p q hi hj hpq => ?_, fun k q hk => ?_⟩
  · obtain ⟨e1, h1⟩ := key i p hi
    obtain ⟨e2, h2⟩ := key j q hj
    exact hD.1 i j _ _ h1 h2 hpq
  · obtain ⟨e1, h1⟩ := key k q hk
    exact hB _ (adr_at (q := (q.1, e1)) h1)
theorem va_D.own {A : Nat → Prop} {w : va_W} (hD : va_D A w) : va_D (adr w) w := va_D_of_adr rfl (fun _ h => h) hD
/-- some cells of a world put anew, by their places -/
def sP : va_W → List Nat → va_W → va_W
  | ws, [], _ => ws
  | ws, _ :: _, [] => ws
  | ws, i :: is, c :: cs => sP (ws.set i c) is cs
theorem sP_get : ∀ (is : List Nat) (w1 ws : va_W), is.length = w1.length → ∀ (k : Nat) (q : Nat × va_E), (sP ws is w1)[k]? = some q → (∃ j : Nat, is[j]? = some k ∧ w1[j]? = some q) ∨ (k ∉ is ∧ ws[k]? = some q)
  | [], _, ws, _, k, q, h => Or.inr ⟨List.not_mem_nil, by simpa only [sP] using h⟩
  | i :: is, [], ws, hl, k, q, h => by simp at hl
  | i :: is, c :: cs, ws, hl, k, q, h => by
    rcases sP_get is cs (ws.set i c) (by simpa using hl) k q h with ⟨j, h1, h2⟩ | ⟨h1, h2⟩
    · exact Or.inl ⟨j + 1, h1, h2⟩
    · by_cases hik : i = k
      · subst hik
        rw [List.getElem?_set_self'] at h2
        cases hw : ws[i]? with
        | none => rw [hw] at h2; cases h2
        | some z => rw [hw] at h2; exact Or.inl ⟨0, rfl, h2⟩
      · rw [List.getElem?_set_ne hik] at h2
        refine Or.inr ⟨fun hm => ?_, h2⟩
        rcases List.mem_cons.mp hm with e | e
        · exact hik e.symm
        · exact h1 e
theorem sP_adr : ∀ (is : List Nat) (w1 ws : va_W), is.map (fun i => (ws[i]?).map Prod.fst) = w1.map (fun q => some q.1) → (sP ws is w1).map Prod.fst = ws.map Prod.fst
  | [], _, ws, _ => by simp only [sP]
  | i :: is, [], ws, h => by simp only [sP]
  | i :: is, c :: cs, ws, h => by
    rw [List.map_cons, List.map_cons] at h
    obtain ⟨h1, h2⟩ := List.cons.inj h
    have e : (ws.set i c).map Prod.fst = ws.map Prod.fst := by
      rw [List.map_set]
      apply List.ext_getElem?
      intro n
      by_cases hin : i = n
      · subst hin
        rw [List.getElem?_set_self', List.getElem?_map]
        cases hw : ws[i]? with
        | none => rfl
        | some z => rw [hw] at h1; simp only [Option.map_some, Option.some.injEq] at h1 ⊢; exact congrArg some h1.symm
      · rw [List.getElem?_set_ne hin]
    show (sP (ws.set i c) is cs).map Prod.fst = _
    rw [sP_adr is cs (ws.set i c) ?_, e]
    rw [← h2]
    apply List.map_congr_left
    intro j _
    have : ((ws.set i c).map Prod.fst)[j]? = (ws.map Prod.fst)[j]? := by rw [e]
    rw [List.getElem?_map, List.getElem?_map] at this
    exact this
theorem fr_join {A0 : Nat → Prop} {D : va_G} {cl : List vw_C} {ws wc w1 : va_W} {H H1 : Heap} (hP : va_P D cl ws H) (hD : va_D A0 ws) (isC : List Nat) (hC : isC.map (fun i => ws[i]?) = wc.map some) (hadr : w1.map Prod.fst = wc.map Prod.fst)
    (hk : ∀ q : Nat, q < H.size → ¬ adr wc q → H1[q]? = H[q]?) (hP1 : va_P D cl w1 H1) : va_P D cl (sP ws isC w1) H1 ∧ va_D A0 (sP ws isC w1) := by
  have hlen : isC.length = w1.length := by
    have h1 := congrArg List.length hC
    have h2 := congrArg List.length hadr
    simp only [List.length_map] at h1 h2
    omega
  have at' : ∀ (j : Nat) (q : Nat × va_E), wc[j]? = some q → ∃ i, isC[j]? = some i ∧ ws[i]? = some q := by
    intro j q hq
    have h1 : (isC.map (fun i => ws[i]?))[j]? = some (some q) := by rw [hC, List.getElem?_map, hq]; rfl
    rw [List.getElem?_map] at h1
    cases hi : isC[j]? with
    | none => rw [hi] at h1; cases h1
    | some i => rw [hi] at h1; exact ⟨i, rfl, Option.some.inj h1⟩
  refine ⟨fun k q hq => ?_, va_D_of_adr (sP_adr isC w1 ws ?_) (fun q h => ?_) hD⟩
  · rcases sP_get isC w1 ws hlen k q hq with ⟨j, h1, h2⟩ | ⟨h1, h2⟩
    · exact hP1 j q h2
    · refine (hP k q h2).kept (hk q.1 (hP k q h2).lt fun ha => ?_)
      obtain ⟨j, e, hj⟩ := adr_of ha
      obtain ⟨i, hi, hwi⟩ := at' j _ hj
      have hki := hD.1 k i q (q.1, e) h2 hwi rfl
      subst hki
      exact h1 (List.mem_of_getElem? hi)
  · have e1 : isC.map (fun i => (ws[i]?).map Prod.fst) = (isC.map (fun i => ws[i]?)).map (fun o => o.map Prod.fst) := by rw [List.map_map]; rfl
    rw [e1, hC, List.map_map]
    have e2 : w1.map (fun q => some q.1) = (w1.map Prod.fst).map some := by rw [List.map_map]; rfl
    rw [e2, hadr, List.map_map]
    rfl
  · obtain ⟨k, e, hk⟩ := adr_of h
    exact hD.2 k _ hk
theorem adr_free {A0 : Nat → Prop} {ws wc : va_W} (hD : va_D A0 ws) (isC : List Nat) (hC : isC.map (fun i => ws[i]?) = wc.map some) : ∀ q, adr wc q → A0 q := by
  intro q h
  obtain ⟨k, e, hk⟩ := adr_of h
  have h1 : (isC.map (fun i => ws[i]?))[k]? = some (some (q, e)) := by rw [hC, List.getElem?_map, hk]; rfl
  rw [List.getElem?_map] at h1
  cases hi : isC[k]? with
  | none => rw [hi] at h1; cases h1
  | some i => rw [hi] at h1; exact hD.2 i (q, e) (Option.some.inj h1)
/-- the starts of my contracts: a world that is read; a world that is written -/
def pR (G : GG) (w : va_W) (av : List Value) : Array Value → State → Prop := va_Pc av (fun U => KX G U ∧ va_P G.1 vwCl w U.heap)
def pM (G : GG) (w : va_W) (av : List Value) : Array Value → State → Prop := va_Pc av (fun U => KX G U ∧ va_P G.1 vwCl w U.heap ∧ va_D (fun _ => True) w)
abbrev bM (G : GG) {S : Type} (w : S → va_W) : S → State → Prop := fun u t => va_P G.1 vwCl (w u) t.heap
theorem pR_blind {G : GG} {w : va_W} {av : List Value} : FrameBlind (pR G w av) := fun a U g mk q => ⟨q.1, KX.calling (g := g) (mk := mk) (a := a) q.2.1, q.2.2⟩
theorem pM_blind {G : GG} {w : va_W} {av : List Value} : FrameBlind (pM G w av) := fun a U g mk q => ⟨q.1, KX.calling (g := g) (mk := mk) (a := a) q.2.1, q.2.2.1, q.2.2.2⟩
theorem pR_S {G : GG} {w : va_W} {s : State} {H : Heap} {As : List Value} (hK : KX G s) (hP : va_P G.1 vwCl w H) : PreS s H (pR G w As) As := ⟨pR_blind, fun _ hU hW => ⟨rfl, hK.warm hW, by rw [hU]; exact hP⟩⟩
theorem pR_V {G : GG} {w : va_W} {s : State} {H : Heap} {As : List Value} {b ci q0 : Nat} {q : vw_C} {fs : List Value} (hK : KX G s) (hP : va_P G.1 vwCl w H) (he : w[q0]? = some (b, .inr (ci, fs))) (hc : vwCl[ci]? = some q) : PreV s H q.1 b (pR G w (.ref b :: As)) As := ⟨pR_blind, va_recv hK.1 hP hc he, fun _ hU hW => ⟨rfl, hK.warm hW, by rw [hU]; exact hP⟩⟩
theorem pM_V {G : GG} {w : va_W} {s : State} {H : Heap} {As : List Value} {b ci q0 : Nat} {q : vw_C} {fs : List Value} {A : Nat → Prop} (hK : KX G s) (hP : va_P G.1 vwCl w H) (hD : va_D A w) (he : w[q0]? = some (b, .inr (ci, fs))) (hc : vwCl[ci]? = some q) : PreV s H q.1 b (pM G w (.ref b :: As)) As := ⟨pM_blind, va_recv hK.1 hP hc he, fun _ hU hW => ⟨rfl, hK.warm hW, by rw [hU]; exact hP, hD.weaken (fun _ _ _ _ => trivial)⟩⟩
section MYROWS
variable {p : Program} {l : Launch} {e : Env} {R : Room} {s : State} {m : MethodId} {args : Array Value} {below : List Frame} {meth : Method} {c : Code} {H : Heap} {locs : List Loc} {cells slots : Nat} {Q : State → Prop}
variable {pc : Nat} {ls : Array Slot} {rest st0 : List Value} {a : Array Value} {A : Nat → Prop} {H0 : Heap} {cs : List Choice} {cc : ByteArray}
/-- a call that only reads -/
theorem cr_i {post : Int32 → Prop} (hr : va_Run p l e R s m args below meth c H locs cells slots 0 0 (F0 m pc ls st0) rest (vp_Si post a) (fun _ => False)) (kk : ∀ r : Int32, post r → W p l e R s m args below meth c H locs cells slots Q (F0 m (pc + 3) ls (.int r :: rest))) : W p l e R s m args below meth c H locs cells slots Q (F0 m pc ls st0) := by
  intro T hT X
  obtain ⟨v, st₀, t, T', L, h0, X', hL, e1, e2, ⟨r, hv, hp, hh⟩, st⟩ := hr T hT X
  cases hv
  have hL0 : L = [] := List.eq_nil_iff_forall_not_mem.mpr hL
  rw [hL0, List.append_nil] at X'
  obtain ⟨t2, a1, b1⟩ := kk r hp T' (by rw [e1, hh, h0]) X'
  exact ⟨t2, st t2 a1, b1⟩
theorem cr_f {post : UInt32 → Prop} (hr : va_Run p l e R s m args below meth c H locs cells slots 0 0 (F0 m pc ls st0) rest (vp_Sf post a) (fun _ => False)) (kk : ∀ r : UInt32, post r → W p l e R s m args below meth c H locs cells slots Q (F0 m (pc + 3) ls (.float r :: rest))) : W p l e R s m args below meth c H locs cells slots Q (F0 m pc ls st0) := by
  intro T hT X
  obtain ⟨v, st₀, t, T', L, h0, X', hL, e1, e2, ⟨r, hv, hp, hh⟩, st⟩ := hr T hT X
  cases hv
  have hL0 : L = [] := List.eq_nil_iff_forall_not_mem.mpr hL
  rw [hL0, List.append_nil] at X'
  obtain ⟨t2, a1, b1⟩ := kk r hp T' (by rw [e1, hh, h0]) X'
  exact ⟨t2, st t2 a1, b1⟩
/-- the same, of a method that may draw -/
theorem crD_i {d0 : Drawn} (hd0 : s.drawn.sameBut d0 cs) {post : Int32 → Prop} (hr : va_RunD cs p l e R (s.setDrawn d0) m args below meth c H locs cells slots 0 0 (F0 m pc ls st0) rest (vp_Si post a) (fun _ => False)) (kk : ∀ r : Int32, post r → ∀ d' : Drawn, s.drawn.sameBut d' cs → W p l e R (s.setDrawn d') m args below meth c H locs cells slots Q (F0 m (pc + 3) ls (.int r :: rest))) : W p l e R (s.setDrawn d0) m args below meth c H locs cells slots Q (F0 m pc ls st0) := by
  intro T hT X
  obtain ⟨v, st₀, t, T', L, d', hd', h0, X', hL, e1, e2, ⟨r, hv, hp, hh⟩, st⟩ := hr T hT X
  cases hv
  have hL0 : L = [] := List.eq_nil_iff_forall_not_mem.mpr hL
  rw [hL0, List.append_nil] at X'
  obtain ⟨t2, a1, b1⟩ := kk r hp d' (hd0.trans hd') T' (by rw [e1, hh, h0]) X'
  exact ⟨t2, st t2 a1, b1⟩
theorem crD_f {d0 : Drawn} (hd0 : s.drawn.sameBut d0 cs) {post : UInt32 → Prop} (hr : va_RunD cs p l e R (s.setDrawn d0) m args below meth c H locs cells slots 0 0 (F0 m pc ls st0) rest (vp_Sf post a) (fun _ => False)) (kk : ∀ r : UInt32, post r → ∀ d' : Drawn, s.drawn.sameBut d' cs → W p l e R (s.setDrawn d') m args below meth c H locs cells slots Q (F0 m (pc + 3) ls (.float r :: rest))) : W p l e R (s.setDrawn d0) m args below meth c H locs cells slots Q (F0 m pc ls st0) := by
  intro T hT X
  obtain ⟨v, st₀, t, T', L, d', hd', h0, X', hL, e1, e2, ⟨r, hv, hp, hh⟩, st⟩ := hr T hT X
  cases hv
  have hL0 : L = [] := List.eq_nil_iff_forall_not_mem.mpr hL
  rw [hL0, List.append_nil] at X'
  obtain ⟨t2, a1, b1⟩ := kk r hp d' (hd0.trans hd') T' (by rw [e1, hh, h0]) X'
  exact ⟨t2, st t2 a1, b1⟩
/-- a call that writes its own cells, which stand at the places isC of the caller's -/
theorem cm_v {D : va_G} {cl : List vw_C} {S : Type} {post : S → Prop} {w' : S → va_W} {ws wc : va_W} (hr : va_Run p l e R s m args below meth c H locs cells slots 0 0 (F0 m pc ls st0) rest (va_Qv post (fun u t => va_P D cl (w' u) t.heap) (adr wc) a) (adr wc)) (hP : va_P D cl ws H) (hD : va_D A ws) (hS : va_S A H0 H locs) (isC : List Nat) (hC : isC.map (fun i => ws[i]?) = wc.map some) (hadr : ∀ u, (w' u).map Prod.fst = wc.map Prod.fst)
    (kk : ∀ (u : S) (H1 : Heap) (locs1 : List Loc), post u → va_P D cl (sP ws isC (w' u)) H1 → va_D A (sP ws isC (w' u)) → va_S A H0 H1 locs1 → W p l e R s m args below meth c H1 locs1 cells slots Q (F0 m (pc + 3) ls rest)) : W p l e R s m args below meth c H locs cells slots Q (F0 m pc ls st0) := by
  refine va_callv hr hS (fun q _ h => adr_free hD isC hC q h) (adr_free hD isC hC) (fun u t H1 locs1 ht hvm hw hB hz1 hk1 hS1 => ?_)
  rw [ht] at hB
  obtain ⟨hP1, hD1⟩ := fr_join hP hD isC hC (hadr u) hk1 hB
  exact kk u H1 locs1 hw hP1 hD1 hS1
theorem cm_i {D : va_G} {cl : List vw_C} {S : Type} {post : Int32 → S → Prop} {w' : S → va_W} {ws wc : va_W} (hr : va_Run p l e R s m args below meth c H locs cells slots 0 0 (F0 m pc ls st0) rest (va_Qi post (fun u t => va_P D cl (w' u) t.heap) (adr wc) a) (adr wc)) (hP : va_P D cl ws H) (hD : va_D A ws) (hS : va_S A H0 H locs) (isC : List Nat) (hC : isC.map (fun i => ws[i]?) = wc.map some) (hadr : ∀ u, (w' u).map Prod.fst = wc.map Prod.fst)
    (kk : ∀ (r : Int32) (u : S) (H1 : Heap) (locs1 : List Loc), post r u → va_P D cl (sP ws isC (w' u)) H1 → va_D A (sP ws isC (w' u)) → va_S A H0 H1 locs1 → W p l e R s m args below meth c H1 locs1 cells slots Q (F0 m (pc + 3) ls (.int r :: rest))) : W p l e R s m args below meth c H locs cells slots Q (F0 m pc ls st0) := by
  refine va_calli hr hS (fun q _ h => adr_free hD isC hC q h) (adr_free hD isC hC) (fun r u t H1 locs1 ht hvm hw hB hz1 hk1 hS1 => ?_)
  rw [ht] at hB
  obtain ⟨hP1, hD1⟩ := fr_join hP hD isC hC (hadr u) hk1 hB
  exact kk r u H1 locs1 hw hP1 hD1 hS1
theorem cmD_v {d0 : Drawn} (hd0 : s.drawn.sameBut d0 cs) {D : va_G} {cl : List vw_C} {S : Type} {post : S → Prop} {w' : S → va_W} {ws wc : va_W} (hr : va_RunD cs p l e R (s.setDrawn d0) m args below meth c H locs cells slots 0 0 (F0 m pc ls st0) rest (va_Qv post (fun u t => va_P D cl (w' u) t.heap) (adr wc) a) (adr wc)) (hP : va_P D cl ws H) (hD : va_D A ws) (hS : va_S A H0 H locs) (isC : List Nat) (hC : isC.map (fun i => ws[i]?) = wc.map some) (hadr : ∀ u, (w' u).map Prod.fst = wc.map Prod.fst)
    (kk : ∀ (u : S) (H1 : Heap) (locs1 : List Loc), post u → va_P D cl (sP ws isC (w' u)) H1 → va_D A (sP ws isC (w' u)) → va_S A H0 H1 locs1 → ∀ d' : Drawn, s.drawn.sameBut d' cs → W p l e R (s.setDrawn d') m args below meth c H1 locs1 cells slots Q (F0 m (pc + 3) ls rest)) : W p l e R (s.setDrawn d0) m args below meth c H locs cells slots Q (F0 m pc ls st0) := by
  refine va_callvD hd0 hr hS (fun q _ h => adr_free hD isC hC q h) (adr_free hD isC hC) (fun u t H1 locs1 ht hvm hw hB hz1 hk1 hS1 d' hd' => ?_)
  rw [ht] at hB
  obtain ⟨hP1, hD1⟩ := fr_join hP hD isC hC (hadr u) hk1 hB
  exact kk u H1 locs1 hw hP1 hD1 hS1 d' hd'
theorem cmD_i {d0 : Drawn} (hd0 : s.drawn.sameBut d0 cs) {D : va_G} {cl : List vw_C} {S : Type} {post : Int32 → S → Prop} {w' : S → va_W} {ws wc : va_W} (hr : va_RunD cs p l e R (s.setDrawn d0) m args below meth c H locs cells slots 0 0 (F0 m pc ls st0) rest (va_Qi post (fun u t => va_P D cl (w' u) t.heap) (adr wc) a) (adr wc)) (hP : va_P D cl ws H) (hD : va_D A ws) (hS : va_S A H0 H locs) (isC : List Nat) (hC : isC.map (fun i => ws[i]?) = wc.map some) (hadr : ∀ u, (w' u).map Prod.fst = wc.map Prod.fst)
    (kk : ∀ (r : Int32) (u : S) (H1 : Heap) (locs1 : List Loc), post r u → va_P D cl (sP ws isC (w' u)) H1 → va_D A (sP ws isC (w' u)) → va_S A H0 H1 locs1 → ∀ d' : Drawn, s.drawn.sameBut d' cs → W p l e R (s.setDrawn d') m args below meth c H1 locs1 cells slots Q (F0 m (pc + 3) ls (.int r :: rest))) : W p l e R (s.setDrawn d0) m args below meth c H locs cells slots Q (F0 m pc ls st0) := by
  refine va_calliD hd0 hr hS (fun q _ h => adr_free hD isC hC q h) (adr_free hD isC hC) (fun r u t H1 locs1 ht hvm hw hB hz1 hk1 hS1 d' hd' => ?_)
  rw [ht] at hB
  obtain ⟨hP1, hD1⟩ := fr_join hP hD isC hC (hadr u) hk1 hB
  exact kk r u H1 locs1 hw hP1 hD1 hS1 d' hd'
theorem cmD_f {d0 : Drawn} (hd0 : s.drawn.sameBut d0 cs) {D : va_G} {cl : List vw_C} {S : Type} {post : UInt32 → S → Prop} {w' : S → va_W} {ws wc : va_W} (hr : va_RunD cs p l e R (s.setDrawn d0) m args below meth c H locs cells slots 0 0 (F0 m pc ls st0) rest (va_Qf post (fun u t => va_P D cl (w' u) t.heap) (adr wc) a) (adr wc)) (hP : va_P D cl ws H) (hD : va_D A ws) (hS : va_S A H0 H locs) (isC : List Nat) (hC : isC.map (fun i => ws[i]?) = wc.map some) (hadr : ∀ u, (w' u).map Prod.fst = wc.map Prod.fst)
    (kk : ∀ (r : UInt32) (u : S) (H1 : Heap) (locs1 : List Loc), post r u → va_P D cl (sP ws isC (w' u)) H1 → va_D A (sP ws isC (w' u)) → va_S A H0 H1 locs1 → ∀ d' : Drawn, s.drawn.sameBut d' cs → W p l e R (s.setDrawn d') m args below meth c H1 locs1 cells slots Q (F0 m (pc + 3) ls (.float r :: rest))) : W p l e R (s.setDrawn d0) m args below meth c H locs cells slots Q (F0 m pc ls st0) := by
  refine va_callfD hd0 hr hS (fun q _ h => adr_free hD isC hC q h) (adr_free hD isC hC) (fun r u t H1 locs1 ht hvm hw hB hz1 hk1 hS1 d' hd' => ?_)
  rw [ht] at hB
  obtain ⟨hP1, hD1⟩ := fr_join hP hD isC hC (hadr u) hk1 hB
  exact kk r u H1 locs1 hw hP1 hD1 hS1 d' hd'
/-- the top of the stack by another name -/
theorem eq_i {x y : Int32} (h : x = y) (k : W p l e R s m args below meth c H locs cells slots Q (F0 m pc ls (.int y :: rest))) : W p l e R s m args below meth c H locs cells slots Q (F0 m pc ls (.int x :: rest)) := by rw [h]; exact k
theorem eq_f {x y : UInt32} (h : x = y) (k : W p l e R s m args below meth c H locs cells slots Q (F0 m pc ls (.float y :: rest))) : W p l e R s m args below meth c H locs cells slots Q (F0 m pc ls (.float x :: rest)) := by rw [h]; exact k
/-- numbers that are natural ones -/
theorem n_add {x y : Nat} (hexec : p.tables.exec = Jvm.exec) (hb : c.code = cc) (hdg : decode cc pc = .ok (.iadd, 1)) (k : W p l e R s m args below meth c H locs cells slots Q (F0 m (pc + 1) ls (.int (nI (x + y)) :: rest))) : W p l e R s m args below meth c H locs cells slots Q (F0 m pc ls (.int (nI y) :: .int (nI x) :: rest)) := lv_iadd hexec hb hdg (eq_i (nI_add x y) k)
theorem n_mul {x y : Nat} (hexec : p.tables.exec = Jvm.exec) (hb : c.code = cc) (hdg : decode cc pc = .ok (.imul, 1)) (k : W p l e R s m args below meth c H locs cells slots Q (F0 m (pc + 1) ls (.int (nI (x * y)) :: rest))) : W p l e R s m args below meth c H locs cells slots Q (F0 m pc ls (.int (nI y) :: .int (nI x) :: rest)) := lv_imul hexec hb hdg (eq_i (pk_mul x y) k)
theorem n_sub {x y : Nat} (hexec : p.tables.exec = Jvm.exec) (hb : c.code = cc) (h : y ≤ x) (hdg : decode cc pc = .ok (.isub, 1)) (k : W p l e R s m args below meth c H locs cells slots Q (F0 m (pc + 1) ls (.int (nI (x - y)) :: rest))) : W p l e R s m args below meth c H locs cells slots Q (F0 m pc ls (.int (nI y) :: .int (nI x) :: rest)) := lv_isub hexec hb hdg (eq_i (pk_sub h) k)
variable {D : va_G} {cl : List vw_C} {ws : va_W} {tys : List (ClassId × FieldType)} {b : Nat}
theorem n_iald (hexec : p.tables.exec = Jvm.exec) (hb : c.code = cc) (hK : va_K D cl tys s) (hP : va_P D cl ws H) (q0 t0 : Nat) {cA : ClassId} {n : Nat} {f : Nat → Int32} (ha : ws[q0]? = some (b, .inl (cA, n, .inl f))) (ht : tys[t0]? = some (cA, .int)) {j : Nat} (hj : j < n) (hn : n < 2 ^ 31) (hdg : decode cc pc = .ok (.iaload, 1)) (kk : W p l e R s m args below meth c H locs cells slots Q (F0 m (pc + 1) ls (.int (f j) :: rest))) : W p l e R s m args below meth c H locs cells slots Q (F0 m pc ls (.int (nI j) :: .ref b :: rest)) := by
  refine va_iald hexec hb hK hP q0 t0 ha ht (vp_in_nI hj hn) hdg ?_
  rw [nI_clamp (Nat.lt_trans hj hn)]
  exact kk
theorem n_zald (hexec : p.tables.exec = Jvm.exec) (hb : c.code = cc) (hK : va_K D cl tys s) (hP : va_P D cl ws H) (q0 t0 : Nat) {cA : ClassId} {n : Nat} {f : Nat → Int32} (ha : ws[q0]? = some (b, .inl (cA, n, .inl f))) (ht : tys[t0]? = some (cA, .boolean)) {j : Nat} (hj : j < n) (hn : n < 2 ^ 31) (hdg : decode cc pc = .ok (.baload, 1)) (kk : W p l e R s m args below meth c H locs cells slots Q (F0 m (pc + 1) ls (.int (f j) :: rest))) : W p l e R s m args below meth c H locs cells slots Q (F0 m pc ls (.int (nI j) :: .ref b :: rest)) := by
  refine va_zald hexec hb hK hP q0 t0 ha ht (vp_in_nI hj hn) hdg ?_
  rw [nI_clamp (Nat.lt_trans hj hn)]
  exact kk
theorem n_bald (hexec : p.tables.exec = Jvm.exec) (hb : c.code = cc) (hK : va_K D cl tys s) (hP : va_P D cl ws H) (q0 t0 : Nat) {cA : ClassId} {n : Nat} {f : Nat → Int32} (ha : ws[q0]? = some (b, .inl (cA, n, .inl f))) (ht : tys[t0]? = some (cA, .byte)) {j : Nat} (hj : j < n) (hn : n < 2 ^ 31) (hdg : decode cc pc = .ok (.baload, 1)) (kk : W p l e R s m args below meth c H locs cells slots Q (F0 m (pc + 1) ls (.int (f j) :: rest))) : W p l e R s m args below meth c H locs cells slots Q (F0 m pc ls (.int (nI j) :: .ref b :: rest)) := by
  refine va_bald hexec hb hK hP q0 t0 ha ht (vp_in_nI hj hn) hdg ?_
  rw [nI_clamp (Nat.lt_trans hj hn)]
  exact kk
theorem n_fald (hexec : p.tables.exec = Jvm.exec) (hb : c.code = cc) (hK : va_K D cl tys s) (hP : va_P D cl ws H) (q0 t0 : Nat) {cA : ClassId} {n : Nat} {f : Nat → UInt32} (ha : ws[q0]? = some (b, .inl (cA, n, .inr (.inr (.inl f))))) (ht : tys[t0]? = some (cA, .float)) {j : Nat} (hj : j < n) (hn : n < 2 ^ 31) (hdg : decode cc pc = .ok (.faload, 1)) (kk : W p l e R s m args below meth c H locs cells slots Q (F0 m (pc + 1) ls (.float (f j) :: rest))) : W p l e R s m args below meth c H locs cells slots Q (F0 m pc ls (.int (nI j) :: .ref b :: rest)) := by
  refine va_fald hexec hb hK hP q0 t0 ha ht (vp_in_nI hj hn) hdg ?_
  rw [nI_clamp (Nat.lt_trans hj hn)]
  exact kk
theorem n_iast (hexec : p.tables.exec = Jvm.exec) (hb : c.code = cc) (hK : va_K D cl tys s) (hP : va_P D cl ws H) (hD : va_D A ws) (hS : va_S A H0 H locs) (q0 t0 : Nat) {cA : ClassId} {n : Nat} {f : Nat → Int32} (ha : ws[q0]? = some (b, .inl (cA, n, .inl f))) (ht : tys[t0]? = some (cA, .int)) {j : Nat} {x : Int32} (hj : j < n) (hn : n < 2 ^ 31) (hdg : decode cc pc = .ok (.iastore, 1))
    (kk : ∀ (H1 : Heap) (locs1 : List Loc), va_P D cl (ws.set q0 (b, .inl (cA, n, .inl (upd f j x)))) H1 → va_D A (ws.set q0 (b, .inl (cA, n, .inl (upd f j x)))) → va_S A H0 H1 locs1 → W p l e R s m args below meth c H1 locs1 cells slots Q (F0 m (pc + 1) ls rest)) : W p l e R s m args below meth c H locs cells slots Q (F0 m pc ls (.int x :: .int (nI j) :: .ref b :: rest)) := by
  refine va_iast hexec hb hK hP hD hS q0 t0 ha ht (vp_in_nI hj hn) hdg ?_
  rw [nI_clamp (Nat.lt_trans hj hn)]
  exact kk
theorem n_zast (hexec : p.tables.exec = Jvm.exec) (hb : c.code = cc) (hK : va_K D cl tys s) (hP : va_P D cl ws H) (hD : va_D A ws) (hS : va_S A H0 H locs) (q0 t0 : Nat) {cA : ClassId} {n : Nat} {f : Nat → Int32} (ha : ws[q0]? = some (b, .inl (cA, n, .inl f))) (ht : tys[t0]? = some (cA, .boolean)) {j : Nat} {x : Int32} (hx1 : x = 0 ∨ x = 1) (hj : j < n) (hn : n < 2 ^ 31) (hdg : decode cc pc = .ok (.bastore, 1))
    (kk : ∀ (H1 : Heap) (locs1 : List Loc), va_P D cl (ws.set q0 (b, .inl (cA, n, .inl (upd f j x)))) H1 → va_D A (ws.set q0 (b, .inl (cA, n, .inl (upd f j x)))) → va_S A H0 H1 locs1 → W p l e R s m args below meth c H1 locs1 cells slots Q (F0 m (pc + 1) ls rest)) : W p l e R s m args below meth c H locs cells slots Q (F0 m pc ls (.int x :: .int (nI j) :: .ref b :: rest)) := by
  refine va_zast hexec hb hK hP hD hS q0 t0 ha ht (vp_in_nI hj hn) hdg ?_
  have e1 : vp_nar .boolean x = x := by rcases hx1 with h | h <;> subst h <;> decide +kernel
  rw [nI_clamp (Nat.lt_trans hj hn), e1]
  exact kk
theorem n_bast (hexec : p.tables.exec = Jvm.exec) (hb : c.code = cc) (hK : va_K D cl tys s) (hP : va_P D cl ws H) (hD : va_D A ws) (hS : va_S A H0 H locs) (q0 t0 : Nat) {cA : ClassId} {n : Nat} {f : Nat → Int32} (ha : ws[q0]? = some (b, .inl (cA, n, .inl f))) (ht : tys[t0]? = some (cA, .byte)) {j : Nat} {x : Int32} (hj : j < n) (hn : n < 2 ^ 31) (hdg : decode cc pc = .ok (.bastore, 1))
    (kk : ∀ (H1 : Heap) (locs1 : List Loc), va_P D cl (ws.set q0 (b, .inl (cA, n, .inl (upd f j (vp_nar .byte x))))) H1 → va_D A (ws.set q0 (b, .inl (cA, n, .inl (upd f j (vp_nar .byte x))))) → va_S A H0 H1 locs1 → W p l e R s m args below meth c H1 locs1 cells slots Q (F0 m (pc + 1) ls rest)) : W p l e R s m args below meth c H locs cells slots Q (F0 m pc ls (.int x :: .int (nI j) :: .ref b :: rest)) := by
  refine va_bast hexec hb hK hP hD hS q0 t0 ha ht (vp_in_nI hj hn) hdg ?_
  rw [nI_clamp (Nat.lt_trans hj hn)]
  exact kk
theorem n_fast (hexec : p.tables.exec = Jvm.exec) (hb : c.code = cc) (hK : va_K D cl tys s) (hP : va_P D cl ws H) (hD : va_D A ws) (hS : va_S A H0 H locs) (q0 t0 : Nat) {cA : ClassId} {n : Nat} {f : Nat → UInt32} (ha : ws[q0]? = some (b, .inl (cA, n, .inr (.inr (.inl f))))) (ht : tys[t0]? = some (cA, .float)) {j : Nat} {x : UInt32} (hj : j < n) (hn : n < 2 ^ 31) (hdg : decode cc pc = .ok (.fastore, 1))
    (kk : ∀ (H1 : Heap) (locs1 : List Loc), va_P D cl (ws.set q0 (b, .inl (cA, n, .inr (.inr (.inl (vf_upd f j x)))))) H1 → va_D A (ws.set q0 (b, .inl (cA, n, .inr (.inr (.inl (vf_upd f j x)))))) → va_S A H0 H1 locs1 → W p l e R s m args below meth c H1 locs1 cells slots Q (F0 m (pc + 1) ls rest)) : W p l e R s m args below meth c H locs cells slots Q (F0 m pc ls (.float x :: .int (nI j) :: .ref b :: rest)) := by
  refine va_fast hexec hb hK hP hD hS q0 t0 ha ht (vp_in_nI hj hn) hdg ?_
  rw [nI_clamp (Nat.lt_trans hj hn)]
  exact kk
/-- branches over natural numbers and truth values -/
theorem n_icmp_lt {x y : Nat} {off : Int} {tgt : Nat} (hexec : p.tables.exec = Jvm.exec) (hb : c.code = cc) (h1 : x < 2 ^ 31) (h2 : y < 2 ^ 31) (hdg : decode cc pc = .ok (.if_icmp .lt off, 3)) (ht : (pc : Int) + off = (tgt : Int)) (kt : x < y → W p l e R s m args below meth c H locs cells slots Q (F0 m tgt ls rest)) (kf : y ≤ x → W p l e R s m args below meth c H locs cells slots Q (F0 m (pc + 3) ls rest)) : W p l e R s m args below meth c H locs cells slots Q (F0 m pc ls (.int (nI y) :: .int (nI x) :: rest)) := lv_icmp_lt hexec hb hdg ht (fun h => kt ((nI_ltI h1 h2).mp h)) (fun h => kf (Nat.le_of_not_lt fun q => h ((nI_ltI h1 h2).mpr q)))
theorem n_icmp_ge {x y : Nat} {off : Int} {tgt : Nat} (hexec : p.tables.exec = Jvm.exec) (hb : c.code = cc) (h1 : x < 2 ^ 31) (h2 : y < 2 ^ 31) (hdg : decode cc pc = .ok (.if_icmp .ge off, 3)) (ht : (pc : Int) + off = (tgt : Int)) (kt : y ≤ x → W p l e R s m args below meth c H locs cells slots Q (F0 m tgt ls rest)) (kf : x < y → W p l e R s m args below meth c H locs cells slots Q (F0 m (pc + 3) ls rest)) : W p l e R s m args below meth c H locs cells slots Q (F0 m pc ls (.int (nI y) :: .int (nI x) :: rest)) := lv_icmp_ge hexec hb hdg ht (fun h => kt ((nI_leI h2 h1).mp h)) (fun h => kf (Nat.lt_of_not_le fun q => h ((nI_leI h2 h1).mpr q)))
theorem n_icmp_le {x y : Nat} {off : Int} {tgt : Nat} (hexec : p.tables.exec = Jvm.exec) (hb : c.code = cc) (h1 : x < 2 ^ 31) (h2 : y < 2 ^ 31) (hdg : decode cc pc = .ok (.if_icmp .le off, 3)) (ht : (pc : Int) + off = (tgt : Int)) (kt : x ≤ y → W p l e R s m args below meth c H locs cells slots Q (F0 m tgt ls rest)) (kf : y < x → W p l e R s m args below meth c H locs cells slots Q (F0 m (pc + 3) ls rest)) : W p l e R s m args below meth c H locs cells slots Q (F0 m pc ls (.int (nI y) :: .int (nI x) :: rest)) := lv_icmp_le hexec hb hdg ht (fun h => kt ((nI_leI h1 h2).mp h)) (fun h => kf (Nat.lt_of_not_le fun q => h ((nI_leI h1 h2).mpr q)))
theorem n_icmp_gt {x y : Nat} {off : Int} {tgt : Nat} (hexec : p.tables.exec = Jvm.exec) (hb : c.code = cc) (h1 : x < 2 ^ 31) (h2 : y < 2 ^ 31) (hdg : decode cc pc = .ok (.if_icmp .gt off, 3)) (ht : (pc : Int) + off = (tgt : Int)) (kt : y < x → W p l e R s m args below meth c H locs cells slots Q (F0 m tgt ls rest)) (kf : x ≤ y → W p l e R s m args below meth c H locs cells slots Q (F0 m (pc + 3) ls rest)) : W p l e R s m args below meth c H locs cells slots Q (F0 m pc ls (.int (nI y) :: .int (nI x) :: rest)) := lv_icmp_gt hexec hb hdg ht (fun h => kt ((nI_ltI h2 h1).mp h)) (fun h => kf (Nat.le_of_not_lt fun q => h ((nI_ltI h2 h1).mpr q)))
theorem n_icmp_eq {x y : Nat} {off : Int} {tgt : Nat} (hexec : p.tables.exec = Jvm.exec) (hb : c.code = cc) (h1 : x < 2 ^ 31) (h2 : y < 2 ^ 31) (hdg : decode cc pc = .ok (.if_icmp .eq off, 3)) (ht : (pc : Int) + off = (tgt : Int)) (kt : x = y → W p l e R s m args below meth c H locs cells slots Q (F0 m tgt ls rest)) (kf : x ≠ y → W p l e R s m args below meth c H locs cells slots Q (F0 m (pc + 3) ls rest)) : W p l e R s m args below meth c H locs cells slots Q (F0 m pc ls (.int (nI y) :: .int (nI x) :: rest)) := lv_icmp_eq hexec hb hdg ht (fun h => kt ((nI_eq h1 h2).mp h)) (fun h => kf (fun q => h ((nI_eq h1 h2).mpr q)))
theorem n_icmp_ne {x y : Nat} {off : Int} {tgt : Nat} (hexec : p.tables.exec = Jvm.exec) (hb : c.code = cc) (h1 : x < 2 ^ 31) (h2 : y < 2 ^ 31) (hdg : decode cc pc = .ok (.if_icmp .ne off, 3)) (ht : (pc : Int) + off = (tgt : Int)) (kt : x ≠ y → W p l e R s m args below meth c H locs cells slots Q (F0 m tgt ls rest)) (kf : x = y → W p l e R s m args below meth c H locs cells slots Q (F0 m (pc + 3) ls rest)) : W p l e R s m args below meth c H locs cells slots Q (F0 m pc ls (.int (nI y) :: .int (nI x) :: rest)) := lv_icmp_ne hexec hb hdg ht (fun h => kt (fun q => h ((nI_eq h1 h2).mpr q))) (fun h => kf ((nI_eq h1 h2).mp h))
theorem n_if_eq {x : Nat} {off : Int} {tgt : Nat} (hexec : p.tables.exec = Jvm.exec) (hb : c.code = cc) (h1 : x < 2 ^ 31) (hdg : decode cc pc = .ok (.ifCond .eq off, 3)) (ht : (pc : Int) + off = (tgt : Int)) (kt : x = 0 → W p l e R s m args below meth c H locs cells slots Q (F0 m tgt ls rest)) (kf : 0 < x → W p l e R s m args below meth c H locs cells slots Q (F0 m (pc + 3) ls rest)) : W p l e R s m args below meth c H locs cells slots Q (F0 m pc ls (.int (nI x) :: rest)) := lv_if_eq hexec hb hdg ht (fun h => kt ((nI_eq h1 (by omega)).mp (h.trans nI_0.symm))) (fun h => kf (Nat.pos_of_ne_zero fun q => h (by rw [q]; exact nI_0)))
theorem n_if_ne {x : Nat} {off : Int} {tgt : Nat} (hexec : p.tables.exec = Jvm.exec) (hb : c.code = cc) (h1 : x < 2 ^ 31) (hdg : decode cc pc = .ok (.ifCond .ne off, 3)) (ht : (pc : Int) + off = (tgt : Int)) (kt : 0 < x → W p l e R s m args below meth c H locs cells slots Q (F0 m tgt ls rest)) (kf : x = 0 → W p l e R s m args below meth c H locs cells slots Q (F0 m (pc + 3) ls rest)) : W p l e R s m args below meth c H locs cells slots Q (F0 m pc ls (.int (nI x) :: rest)) := lv_if_ne hexec hb hdg ht (fun h => kt (Nat.pos_of_ne_zero fun q => h (by rw [q]; exact nI_0))) (fun h => kf ((nI_eq h1 (by omega)).mp (h.trans nI_0.symm)))
theorem n_if_le {x : Nat} {off : Int} {tgt : Nat} (hexec : p.tables.exec = Jvm.exec) (hb : c.code = cc) (h1 : x < 2 ^ 31) (hdg : decode cc pc = .ok (.ifCond .le off, 3)) (ht : (pc : Int) + off = (tgt : Int)) (kt : x = 0 → W p l e R s m args below meth c H locs cells slots Q (F0 m tgt ls rest)) (kf : 0 < x → W p l e R s m args below meth c H locs cells slots Q (F0 m (pc + 3) ls rest)) : W p l e R s m args below meth c H locs cells slots Q (F0 m pc ls (.int (nI x) :: rest)) := lv_if_le hexec hb hdg ht (fun h => kt (Nat.le_zero.mp ((nI_leI h1 (by omega)).mp (by rw [nI_0]; exact h)))) (fun h => kf (Nat.pos_of_ne_zero fun q => h (by rw [q, nI_0]; exact Int32.le_refl 0)))
def bI (b : Bool) : Int32 := if b then 1 else 0
theorem nb_if_eq {B : Bool} {off : Int} {tgt : Nat} (hexec : p.tables.exec = Jvm.exec) (hb : c.code = cc) (hdg : decode cc pc = .ok (.ifCond .eq off, 3)) (ht : (pc : Int) + off = (tgt : Int)) (kt : B = false → W p l e R s m args below meth c H locs cells slots Q (F0 m tgt ls rest)) (kf : B = true → W p l e R s m args below meth c H locs cells slots Q (F0 m (pc + 3) ls rest)) : W p l e R s m args below meth c H locs cells slots Q (F0 m pc ls (.int (bI B) :: rest)) := lv_if_eq hexec hb hdg ht (fun h => kt (by cases B; rfl; exact absurd h (by decide))) (fun h => kf (by cases B; exact absurd rfl h; rfl))
theorem nb_if_ne {B : Bool} {off : Int} {tgt : Nat} (hexec : p.tables.exec = Jvm.exec) (hb : c.code = cc) (hdg : decode cc pc = .ok (.ifCond .ne off, 3)) (ht : (pc : Int) + off = (tgt : Int)) (kt : B = true → W p l e R s m args below meth c H locs cells slots Q (F0 m tgt ls rest)) (kf : B = false → W p l e R s m args below meth c H locs cells slots Q (F0 m (pc + 3) ls rest)) : W p l e R s m args below meth c H locs cells slots Q (F0 m pc ls (.int (bI B) :: rest)) := lv_if_ne hexec hb hdg ht (fun h => kt (by cases B; exact absurd rfl h; rfl)) (fun h => kf (by cases B; rfl; exact absurd h (by decide)))
/-- a loop that counts up to N, over a heap that stays -/
theorem lpR {S : Type} (N : Nat) (I : Nat → S → Prop) (L : Nat → S → List (Nat × Value)) {nL : Nat} {stk : List Value}
    (hexit : ∀ (u : S) (ls : Array Slot), I N u → lv_has ls nL (L N u) → W p l e R s m args below meth c H locs cells slots Q (F0 m pc ls stk))
    (hstep : ∀ (i : Nat) (u : S) (ls : Array Slot), i < N → I i u → lv_has ls nL (L i u) → (∀ (u' : S) (ls' : Array Slot), I (i + 1) u' → lv_has ls' nL (L (i + 1) u') → W p l e R s m args below meth c H locs cells slots Q (F0 m pc ls' stk)) → W p l e R s m args below meth c H locs cells slots Q (F0 m pc ls stk))
    (i0 : Nat) (u0 : S) (hi : i0 ≤ N) (h0 : I i0 u0) (hl : lv_has ls nL (L i0 u0)) : W p l e R s m args below meth c H locs cells slots Q (F0 m pc ls stk) := by
  have key : ∀ (d i : Nat) (u : S) (ls : Array Slot), i + d = N → I i u → lv_has ls nL (L i u) → W p l e R s m args below meth c H locs cells slots Q (F0 m pc ls stk) := by
    intro d
    induction d with
    | zero => intro i u ls hd hI hl; obtain rfl : i = N := hd; exact hexit u ls hI hl
    | succ d ih => intro i u ls hd hI hl; exact hstep i u ls (by omega) hI hl (fun u' ls' h1 h2 => ih (i + 1) u' ls' (by omega) h1 h2)
  exact key (N - i0) i0 u0 ls (by omega) h0 hl
/-- the same, over a heap that moves -/
theorem lpM {S : Type} (N : Nat) (I : Nat → S → Heap → List Loc → Prop) (L : Nat → S → List (Nat × Value)) {nL : Nat} {stk : List Value}
    (hexit : ∀ (u : S) (H : Heap) (locs : List Loc) (ls : Array Slot), I N u H locs → lv_has ls nL (L N u) → W p l e R s m args below meth c H locs cells slots Q (F0 m pc ls stk))
    (hstep : ∀ (i : Nat) (u : S) (H : Heap) (locs : List Loc) (ls : Array Slot), i < N → I i u H locs → lv_has ls nL (L i u) → (∀ (u' : S) (H' : Heap) (locs' : List Loc) (ls' : Array Slot), I (i + 1) u' H' locs' → lv_has ls' nL (L (i + 1) u') → W p l e R s m args below meth c H' locs' cells slots Q (F0 m pc ls' stk)) → W p l e R s m args below meth c H locs cells slots Q (F0 m pc ls stk))
    (i0 : Nat) (u0 : S) (hi : i0 ≤ N) (h0 : I i0 u0 H locs) (hl : lv_has ls nL (L i0 u0)) : W p l e R s m args below meth c H locs cells slots Q (F0 m pc ls stk) := by
  have key : ∀ (d i : Nat) (u : S) (H : Heap) (locs : List Loc) (ls : Array Slot), i + d = N → I i u H locs → lv_has ls nL (L i u) → W p l e R s m args below meth c H locs cells slots Q (F0 m pc ls stk) := by
    intro d
    induction d with
    | zero => intro i u H locs ls hd hI hl; obtain rfl : i = N := hd; exact hexit u H locs ls hI hl
    | succ d ih => intro i u H locs ls hd hI hl; exact hstep i u H locs ls (by omega) hI hl (fun u' H' locs' ls' h1 h2 => ih (i + 1) u' H' locs' ls' (by omega) h1 h2)
  exact key (N - i0) i0 u0 H locs ls (by omega) h0 hl
/-- the same, where the run may draw -/
theorem lpD {d0 : Drawn} (hd0 : s.drawn.sameBut d0 cs) {S : Type} (N : Nat) (I : Nat → S → Heap → List Loc → Prop) (L : Nat → S → List (Nat × Value)) {nL : Nat} {stk : List Value}
    (hexit : ∀ (u : S) (H : Heap) (locs : List Loc) (ls : Array Slot) (d0 : Drawn), s.drawn.sameBut d0 cs → I N u H locs → lv_has ls nL (L N u) → W p l e R (s.setDrawn d0) m args below meth c H locs cells slots Q (F0 m pc ls stk))
    (hstep : ∀ (i : Nat) (u : S) (H : Heap) (locs : List Loc) (ls : Array Slot) (d0 : Drawn), s.drawn.sameBut d0 cs → i < N → I i u H locs → lv_has ls nL (L i u) → (∀ (u' : S) (H' : Heap) (locs' : List Loc) (ls' : Array Slot) (d0 : Drawn), s.drawn.sameBut d0 cs → I (i + 1) u' H' locs' → lv_has ls' nL (L (i + 1) u') → W p l e R (s.setDrawn d0) m args below meth c H' locs' cells slots Q (F0 m pc ls' stk)) → W p l e R (s.setDrawn d0) m args below meth c H locs cells slots Q (F0 m pc ls stk))
    (i0 : Nat) (u0 : S) (hi : i0 ≤ N) (h0 : I i0 u0 H locs) (hl : lv_has ls nL (L i0 u0)) : W p l e R (s.setDrawn d0) m args below meth c H locs cells slots Q (F0 m pc ls stk) := by
  have key : ∀ (d i : Nat) (u : S) (H : Heap) (locs : List Loc) (ls : Array Slot) (d0 : Drawn), s.drawn.sameBut d0 cs → i + d = N → I i u H locs → lv_has ls nL (L i u) → W p l e R (s.setDrawn d0) m args below meth c H locs cells slots Q (F0 m pc ls stk) := by
    intro d
    induction d with
    | zero => intro i u H locs ls d0 hd0 hd hI hl; obtain rfl : i = N := hd; exact hexit u H locs ls d0 hd0 hI hl
    | succ d ih => intro i u H locs ls d0 hd0 hd hI hl; exact hstep i u H locs ls d0 hd0 (by omega) hI hl (fun u' H' locs' ls' d1 hd1 h1 h2 => ih (i + 1) u' H' locs' ls' d1 hd1 (by omega) h1 h2)
  exact key (N - i0) i0 u0 H locs ls d0 hd0 (by omega) h0 hl
/-- a place where ways meet: what holds there first, then the ways -/
theorem cutR {S : Type} (pc2 : Nat) (I : S → Prop) (L : S → List (Nat × Value)) (K : S → List Value) {nL : Nat}
    (k : ∀ (u : S) (ls : Array Slot), I u → lv_has ls nL (L u) → W p l e R s m args below meth c H locs cells slots Q (F0 m pc2 ls (K u)))
    (g : (∀ (u : S) (ls : Array Slot), I u → lv_has ls nL (L u) → W p l e R s m args below meth c H locs cells slots Q (F0 m pc2 ls (K u))) → W p l e R s m args below meth c H locs cells slots Q (F0 m pc ls rest)) : W p l e R s m args below meth c H locs cells slots Q (F0 m pc ls rest) := g k
theorem cutM {S : Type} (pc2 : Nat) (I : S → Heap → List Loc → Prop) (L : S → List (Nat × Value)) (K : S → List Value) {nL : Nat}
    (k : ∀ (u : S) (H : Heap) (locs : List Loc) (ls : Array Slot), I u H locs → lv_has ls nL (L u) → W p l e R s m args below meth c H locs cells slots Q (F0 m pc2 ls (K u)))
    (g : (∀ (u : S) (H : Heap) (locs : List Loc) (ls : Array Slot), I u H locs → lv_has ls nL (L u) → W p l e R s m args below meth c H locs cells slots Q (F0 m pc2 ls (K u))) → W p l e R s m args below meth c H locs cells slots Q (F0 m pc ls rest)) : W p l e R s m args below meth c H locs cells slots Q (F0 m pc ls rest) := g k
theorem cutD {S : Type} (pc2 : Nat) (I : S → Heap → List Loc → Prop) (L : S → List (Nat × Value)) (K : S → List Value) {nL : Nat} {d0 : Drawn}
    (k : ∀ (u : S) (H : Heap) (locs : List Loc) (ls : Array Slot) (d0 : Drawn), s.drawn.sameBut d0 cs → I u H locs → lv_has ls nL (L u) → W p l e R (s.setDrawn d0) m args below meth c H locs cells slots Q (F0 m pc2 ls (K u)))
    (g : (∀ (u : S) (H : Heap) (locs : List Loc) (ls : Array Slot) (d0 : Drawn), s.drawn.sameBut d0 cs → I u H locs → lv_has ls nL (L u) → W p l e R (s.setDrawn d0) m args below meth c H locs cells slots Q (F0 m pc2 ls (K u))) → W p l e R (s.setDrawn d0) m args below meth c H locs cells slots Q (F0 m pc ls rest)) : W p l e R (s.setDrawn d0) m args below meth c H locs cells slots Q (F0 m pc ls rest) := g k
end MYROWS
