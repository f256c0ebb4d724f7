/-! more rows: a row's contents by what is read of them; a whole row copied -/
theorem arrV_congr {cI : ClassId} {N : Nat} {f g : Nat → Value} (h : ∀ j, j < N → f j = g j) : arrV cI N f = arrV cI N g := by
  unfold arrV
  have e : (fun j : Fin N => f j.val) = fun j : Fin N => g j.val := funext fun j => h j.1 j.2
  rw [e]
theorem P_at {D : va_G} {cl : List vw_C} {ws : va_W} {H : Heap} (hP : va_P D cl ws H) (q : Nat) {x : Nat × va_E} (hx : va_at D cl x H) : va_P D cl (ws.set q x) H := by
  intro k r hr
  by_cases hqk : q = k
  · subst hqk
    rw [List.getElem?_set_self'] at hr
    cases hw : ws[q]? with
    | none => rw [hw] at hr; cases hr
    | some z => rw [hw] at hr; cases hr; exact hx
  · rw [List.getElem?_set_ne hqk] at hr
    exact hP k r hr
theorem D_at {A : Nat → Prop} {ws : va_W} (hD : va_D A ws) (q : Nat) {a : Nat} {e e' : va_E} (hq : ws[q]? = some (a, e)) : va_D A (ws.set q (a, e')) := by
  refine va_D_of_adr (w := ws) ?_ (fun z h => ?_) hD
  · have := sP_adr [q] [(a, e')] ws (by simp [hq])
    simpa only [sP] using this
  · obtain ⟨k, e, hk⟩ := adr_of h
    exact hD.2 k _ hk
theorem P_int {D : va_G} {cl : List vw_C} {ws : va_W} {H : Heap} (hP : va_P D cl ws H) (q : Nat) {a n : Nat} {cA : ClassId} {f g : Nat → Int32} (hq : ws[q]? = some (a, .inl (cA, n, .inl f))) (h : ∀ j, j < n → f j = g j) : va_P D cl (ws.set q (a, .inl (cA, n, .inl g))) H := by
  refine P_at hP q ?_
  have h1 := hP q _ hq
  have e : vp_cell cA (n, .inl f) = vp_cell cA (n, .inl g) := by
    rw [vp_cell_i, vp_cell_i]
    exact arrV_congr fun j hj => by rw [h j hj]
  show H[a]? = some (vp_cell cA (n, .inl g))
  rw [← e]
  exact h1
theorem P_flt {D : va_G} {cl : List vw_C} {ws : va_W} {H : Heap} (hP : va_P D cl ws H) (q : Nat) {a n : Nat} {cA : ClassId} {f g : Nat → UInt32} (hq : ws[q]? = some (a, .inl (cA, n, .inr (.inr (.inl f))))) (h : ∀ j, j < n → f j = g j) : va_P D cl (ws.set q (a, .inl (cA, n, .inr (.inr (.inl g))))) H := by
  refine P_at hP q ?_
  have h1 := hP q _ hq
  have e : vp_cell cA (n, .inr (.inr (.inl f))) = vp_cell cA (n, .inr (.inr (.inl g))) := by
    rw [vp_cell_f, vp_cell_f]
    exact arrV_congr fun j hj => by rw [h j hj]
  show H[a]? = some (vp_cell cA (n, .inr (.inr (.inl g))))
  rw [← e]
  exact h1
section MYROWS2
variable {p : Program} {l : Launch} {e : Env} {R : Room} {s : State} {m : MethodId} {args : Array Value} {below : List Frame} {meth : Method} {c : Code} {H : Heap} {locs : List Loc} {cells slots : Nat} {Q : State → Prop}
variable {pc : Nat} {ls : Array Slot} {rest st0 : List Value} {A : Nat → Prop} {H0 : Heap} {cc : ByteArray} {D : va_G} {cl : List vw_C} {ws : va_W} {tys : List (ClassId × FieldType)} {b : Nat}
theorem n_copy (hexec : p.tables.exec = Jvm.exec) (hb : c.code = cc) (hml : c.maxLocals = ls.size) {own : String} {index : Nat} (hown : s.vm.findClass own = some m.cls) (hlink : (Cond.methodLink own index arraycopyName).before args s = true) (hnat : (Cond.native arraycopyName).before args s = true) (hstat : (Cond.static arraycopyName).before args s = true) (hini : (Cond.initialized "java/lang/System").before args s = true)
    (hK : va_K D cl tys s) (hP : va_P D cl ws H) (hD : va_D A ws) (hS : va_S A H0 H locs) (q0 q1 t0 t1 : Nat) {a0 : Nat} {c0 c1 : ClassId} {N : Nat} {f g : Nat → Int32} (ha0 : ws[q0]? = some (a0, .inl (c0, N, .inl f))) (ha1 : ws[q1]? = some (b, .inl (c1, N, .inl g))) (ht0 : tys[t0]? = some (c0, .int)) (ht1 : tys[t1]? = some (c1, .int)) (hN : N < 2 ^ 31)
    (hframes : 1 ≤ R.frames) (hlocals : (rest.map fun v => v.category).sum + (nativeFrameWords "java/lang/System" "arraycopy" 5 + 11) ≤ R.locals) (hdg : decode cc pc = .ok (.invokestatic index, 3))
    (kk : ∀ (H1 : Heap) (locs1 : List Loc), va_P D cl (ws.set q1 (b, .inl (c1, N, .inl f))) H1 → va_D A (ws.set q1 (b, .inl (c1, N, .inl f))) → va_S A H0 H1 locs1 → W p l e R s m args below meth c H1 locs1 cells slots Q (F0 m (pc + 3) ls rest)) : W p l e R s m args below meth c H locs cells slots Q (F0 m pc ls (.int (nI N) :: .int (nI 0) :: .ref b :: .int (nI 0) :: .ref a0 :: rest)) := by
  have e0 : (nI 0).toNatClampNeg = 0 := nI_clamp (by omega)
  have eN : (nI N).toNatClampNeg = N := nI_clamp hN
  refine va_copyi hexec hb hml hown hlink hnat hstat hini hK hP hD hS q0 q1 t0 t1 ha0 ha1 ht0 ht1 rfl (nI_pos (by omega)) (nI_pos (by omega)) (nI_pos hN) (by rw [e0, eN]; omega) (by rw [e0, eN]; omega) (fun _ _ => rfl) hframes hlocals hdg (fun H1 locs1 hP1 hD1 hS1 => ?_)
  rw [e0, eN] at hP1 hD1
  have hq : (ws.set q1 (b, Sum.inl (c1, N, Sum.inl (va_cpy f g 0 0 N))))[q1]? = some (b, .inl (c1, N, .inl (va_cpy f g 0 0 N))) := by rw [List.getElem?_set_self', ha1]; rfl
  have hP2 := P_int hP1 q1 hq (g := f) (fun j hj => by rw [pk_cpy_in (Nat.zero_le j) (by omega)]; congr 1; omega)
  have hD2 := D_at hD1 q1 hq (e' := .inl (c1, N, .inl f))
  rw [List.set_set] at hP2 hD2
  exact kk H1 locs1 hP2 hD2 hS1
end MYROWS2
theorem bM_end {G : GG} {S : Type} {w : S → va_W} {u : S} {t : State} {H : Heap} (ht : t.heap = H) (h : va_P G.1 vwCl (w u) H) : bM G w u t := by
  show va_P G.1 vwCl (w u) t.heap
  rw [ht]
  exact h
