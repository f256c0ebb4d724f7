/-! calls whose world is the caller's whole world -/
section MYROWS3
variable {p : Program} {l : Launch} {e : Env} {R : Room} {s : State} {m : MethodId} {args : Array Value} {below : List Frame} {meth : Method} {c : Code} {H : Heap} {locs : List Loc} {cells slots : Nat} {Q : State → Prop}
variable {pc : Nat} {ls : Array Slot} {rest st0 : List Value} {a : Array Value} {A : Nat → Prop} {H0 : Heap} {cs : List Choice} {D : va_G} {cl : List vw_C} {S : Type} {w' : S → va_W} {ws : va_W}
theorem adr_all {A0 : Nat → Prop} {ws : va_W} (hD : va_D A0 ws) : ∀ q, adr ws q → A0 q := fun q h => by
  obtain ⟨k, e, hk⟩ := adr_of h
  exact hD.2 k (q, e) hk
theorem cw_v {post : S → Prop} (hr : va_Run p l e R s m args below meth c H locs cells slots 0 0 (F0 m pc ls st0) rest (va_Qv post (fun u t => va_P D cl (w' u) t.heap) (adr ws) a) (adr ws)) (hD : va_D A ws) (hS : va_S A H0 H locs) (hadr : ∀ u, (w' u).map Prod.fst = ws.map Prod.fst)
    (kk : ∀ (u : S) (H1 : Heap) (locs1 : List Loc), post u → va_P D cl (w' u) H1 → va_D A (w' u) → va_S A H0 H1 locs1 → W p l e R s m args below meth c H1 locs1 cells slots Q (F0 m (pc + 3) ls rest)) : W p l e R s m args below meth c H locs cells slots Q (F0 m pc ls st0) := by
  refine va_callv hr hS (fun q _ h => adr_all hD q h) (adr_all hD) (fun u t H1 locs1 ht hvm hw hB hz1 hk1 hS1 => ?_)
  rw [ht] at hB
  exact kk u H1 locs1 hw hB (va_D_of_adr (hadr u) (adr_all hD) hD) hS1
theorem cw_i {post : Int32 → S → Prop} (hr : va_Run p l e R s m args below meth c H locs cells slots 0 0 (F0 m pc ls st0) rest (va_Qi post (fun u t => va_P D cl (w' u) t.heap) (adr ws) a) (adr ws)) (hD : va_D A ws) (hS : va_S A H0 H locs) (hadr : ∀ u, (w' u).map Prod.fst = ws.map Prod.fst)
    (kk : ∀ (r : Int32) (u : S) (H1 : Heap) (locs1 : List Loc), post r u → va_P D cl (w' u) H1 → va_D A (w' u) → va_S A H0 H1 locs1 → W p l e R s m args below meth c H1 locs1 cells slots Q (F0 m (pc + 3) ls (.int r :: rest))) : W p l e R s m args below meth c H locs cells slots Q (F0 m pc ls st0) := by
  refine va_calli hr hS (fun q _ h => adr_all hD q h) (adr_all hD) (fun r u t H1 locs1 ht hvm hw hB hz1 hk1 hS1 => ?_)
  rw [ht] at hB
  exact kk r u H1 locs1 hw hB (va_D_of_adr (hadr u) (adr_all hD) hD) hS1
theorem cwD_v {d0 : Drawn} (hd0 : s.drawn.sameBut d0 cs) {post : S → Prop} (hr : va_RunD cs p l e R (s.setDrawn d0) m args below meth c H locs cells slots 0 0 (F0 m pc ls st0) rest (va_Qv post (fun u t => va_P D cl (w' u) t.heap) (adr ws) a) (adr ws)) (hD : va_D A ws) (hS : va_S A H0 H locs) (hadr : ∀ u, (w' u).map Prod.fst = ws.map Prod.fst)
    (kk : ∀ (u : S) (H1 : Heap) (locs1 : List Loc), post u → va_P D cl (w' u) H1 → va_D A (w' u) → va_S A H0 H1 locs1 → ∀ d' : Drawn, s.drawn.sameBut d' cs → W p l e R (s.setDrawn d') m args below meth c H1 locs1 cells slots Q (F0 m (pc + 3) ls rest)) : W p l e R (s.setDrawn d0) m args below meth c H locs cells slots Q (F0 m pc ls st0) := by
  refine va_callvD hd0 hr hS (fun q _ h => adr_all hD q h) (adr_all hD) (fun u t H1 locs1 ht hvm hw hB hz1 hk1 hS1 d' hd' => ?_)
  rw [ht] at hB
  exact kk u H1 locs1 hw hB (va_D_of_adr (hadr u) (adr_all hD) hD) hS1 d' hd'
theorem cwD_i {d0 : Drawn} (hd0 : s.drawn.sameBut d0 cs) {post : Int32 → S → Prop} (hr : va_RunD cs p l e R (s.setDrawn d0) m args below meth c H locs cells slots 0 0 (F0 m pc ls st0) rest (va_Qi post (fun u t => va_P D cl (w' u) t.heap) (adr ws) a) (adr ws)) (hD : va_D A ws) (hS : va_S A H0 H locs) (hadr : ∀ u, (w' u).map Prod.fst = ws.map Prod.fst)
    (kk : ∀ (r : Int32) (u : S) (H1 : Heap) (locs1 : List Loc), post r u → va_P D cl (w' u) H1 → va_D A (w' u) → va_S A H0 H1 locs1 → ∀ d' : Drawn, s.drawn.sameBut d' cs → W p l e R (s.setDrawn d') m args below meth c H1 locs1 cells slots Q (F0 m (pc + 3) ls (.int r :: rest))) : W p l e R (s.setDrawn d0) m args below meth c H locs cells slots Q (F0 m pc ls st0) := by
  refine va_calliD hd0 hr hS (fun q _ h => adr_all hD q h) (adr_all hD) (fun r u t H1 locs1 ht hvm hw hB hz1 hk1 hS1 d' hd' => ?_)
  rw [ht] at hB
  exact kk r u H1 locs1 hw hB (va_D_of_adr (hadr u) (adr_all hD) hD) hS1 d' hd'
theorem cwD_f {d0 : Drawn} (hd0 : s.drawn.sameBut d0 cs) {post : UInt32 → S → Prop} (hr : va_RunD cs p l e R (s.setDrawn d0) m args below meth c H locs cells slots 0 0 (F0 m pc ls st0) rest (va_Qf post (fun u t => va_P D cl (w' u) t.heap) (adr ws) a) (adr ws)) (hD : va_D A ws) (hS : va_S A H0 H locs) (hadr : ∀ u, (w' u).map Prod.fst = ws.map Prod.fst)
    (kk : ∀ (r : UInt32) (u : S) (H1 : Heap) (locs1 : List Loc), post r u → va_P D cl (w' u) H1 → va_D A (w' u) → va_S A H0 H1 locs1 → ∀ d' : Drawn, s.drawn.sameBut d' cs → W p l e R (s.setDrawn d') m args below meth c H1 locs1 cells slots Q (F0 m (pc + 3) ls (.float r :: rest))) : W p l e R (s.setDrawn d0) m args below meth c H locs cells slots Q (F0 m pc ls st0) := by
  refine va_callfD hd0 hr hS (fun q _ h => adr_all hD q h) (adr_all hD) (fun r u t H1 locs1 ht hvm hw hB hz1 hk1 hS1 d' hd' => ?_)
  rw [ht] at hB
  exact kk r u H1 locs1 hw hB (va_D_of_adr (hadr u) (adr_all hD) hD) hS1 d' hd'
end MYROWS3
