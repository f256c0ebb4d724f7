/-! constructors: what they start from, what they leave, and the rows of what they make -/
def pI (G : GG) (sz : Nat) (w : va_W) (av : List Value) : Array Value → State → Prop := va_Pc av (fun U => U.heap.size = sz ∧ KX G U ∧ va_AO RX0 U ∧ va_P G.1 vwCl w U.heap ∧ va_D (fun _ => True) w)
abbrev bC (G : GG) (A : Nat → Prop) {S : Type} (w : S → va_W) : S → State → Prop := fun u t => va_P G.1 vwCl (w u) t.heap ∧ va_D A (w u)
theorem pI_blind {G : GG} {sz : Nat} {w : va_W} {av : List Value} : FrameBlind (pI G sz w av) := fun a U g mk q => ⟨q.1, q.2.1, KX.calling (g := g) (mk := mk) (a := a) q.2.2.1, va_AO.moved (u := U) (U := U.calling g mk a) (Vm.Alike.refl U.vm) q.2.2.2.1, q.2.2.2.2.1, q.2.2.2.2.2⟩
theorem pI_S {G : GG} {w : va_W} {s : State} {H : Heap} {As : List Value} {A : Nat → Prop} (hK : KX G s) (hO : va_AO RX0 s) (hP : va_P G.1 vwCl w H) (hD : va_D A w) : PreS s H (pI G H.size w As) As := ⟨pI_blind, fun _ hU hW => ⟨rfl, by rw [hU], hK.warm hW, va_AO.moved hW.alike hO, by rw [hU]; exact hP, hD.weaken (fun _ _ _ _ => trivial)⟩⟩
theorem join2 {A0 : Nat → Prop} {D : va_G} {cl : List vw_C} {wr wc w1 : va_W} {H H1 : Heap} (hP : va_P D cl (wr ++ wc) H) (hD : va_D A0 (wr ++ wc)) (hk : ∀ q : Nat, q < H.size → ¬ va_A wc H.size q → H1[q]? = H[q]?) (hF : ∀ q, va_A wc H.size q → A0 q) (hP1 : va_P D cl w1 H1) (hD1 : va_D (va_A wc H.size) w1) : va_P D cl (wr ++ w1) H1 ∧ va_D A0 (wr ++ w1) := by
  have apart : ∀ q ∈ wr, q.1 < H.size ∧ ¬ va_A wc H.size q.1 := by
    intro q hq
    have hl := (P_mem.mp hP q (List.mem_append_left _ hq)).lt
    refine ⟨hl, fun h => ?_⟩
    rcases h with ⟨k2, e, h⟩ | h
    · exact D_apart hD hq (List.mem_of_getElem? h) rfl
    · omega
  refine ⟨va_P.app (fun k q hq => ?_) hP1, va_D.app (D_left hD) (hD1.weaken (fun k q _ h => hF q.1 h)) (fun i j x y hx hy hxy => ?_)⟩
  · obtain ⟨g1, g2⟩ := apart q (List.mem_of_getElem? hq)
    exact (P_mem.mp hP q (List.mem_append_left _ (List.mem_of_getElem? hq))).kept (hk q.1 g1 g2)
  · exact (apart x (List.mem_of_getElem? hx)).2 (by rw [hxy]; exact hD1.2 j y hy)
theorem free2 {A0 : Nat → Prop} {wr wc : va_W} {H0 H : Heap} {locs : List Loc} (hD : va_D A0 (wr ++ wc)) (hS : va_S A0 H0 H locs) (hA : ∀ q, H0.size ≤ q → A0 q) : ∀ q, va_A wc H.size q → A0 q := by
  intro q h
  rcases h with ⟨k, e, h⟩ | h
  · exact (D_right hD).2 k _ h
  · exact hA q (Nat.le_trans hS.1 h)
theorem D_re {A : Nat → Prop} {w w' : va_W} (hD : va_D A w) (h : w'.map Prod.fst = w.map Prod.fst) : va_D A w' := va_D_of_adr h (fun q hq => by obtain ⟨k, e, hk⟩ := adr_of hq; exact hD.2 k _ hk) hD
/-- the tail put behind what came last -/
theorem P_swap {D : va_G} {cl : List vw_C} {w1 w2 w3 : va_W} {H : Heap} (h : va_P D cl ((w1 ++ w2) ++ w3) H) : va_P D cl ((w1 ++ w3) ++ w2) H := P_mem.mpr fun q hq => P_mem.mp h q (by
  rcases List.mem_append.mp hq with h1 | h1
  · rcases List.mem_append.mp h1 with h2 | h2
    · exact List.mem_append_left _ (List.mem_append_left _ h2)
    · exact List.mem_append_right _ h2
  · exact List.mem_append_left _ (List.mem_append_right _ h1))
theorem D_swap {A : Nat → Prop} {w1 w2 w3 : va_W} (h : va_D A ((w1 ++ w2) ++ w3)) : va_D A ((w1 ++ w3) ++ w2) := by
  refine va_D.app (va_D.app (D_left (D_left h)) (D_right h) (fun i j x y hx hy e => ?_)) (D_right (D_left h)) (fun i j x y hx hy e => ?_)
  · exact D_apart h (List.mem_append_left _ (List.mem_of_getElem? hx)) (List.mem_of_getElem? hy) e
  · rcases List.mem_append.mp (List.mem_of_getElem? hx) with h1 | h1
    · exact D_apart (D_left h) h1 (List.mem_of_getElem? hy) e
    · exact D_apart h (List.mem_append_right _ (List.mem_of_getElem? hy)) h1 e.symm
/-- the head in another order -/
theorem P_head {D : va_G} {cl : List vw_C} {w1 w2 tl : va_W} {H : Heap} (h : va_P D cl (w1 ++ tl) H) (is : List Nat) (hi : is.filterMap (fun i => w1[i]?) = w2) : va_P D cl (w2 ++ tl) H := va_P.app ((P_left h).sub is hi) (P_right h)
theorem D_head {A : Nat → Prop} {w1 w2 tl : va_W} (h : va_D A (w1 ++ tl)) (is : List Nat) (hn : va_nd is = true) (hi : is.map (fun i => w1[i]?) = w2.map some) : va_D A (w2 ++ tl) := by
  refine va_D.app ((D_left h).sub is hn hi) (D_right h) (fun i j x y hx hy e => ?_)
  have hm : x ∈ w1 := by
    have h1 : some x ∈ w2.map some := List.mem_map.mpr ⟨x, List.mem_of_getElem? hx, rfl⟩
    rw [← hi] at h1
    obtain ⟨k, -, hk⟩ := List.mem_map.mp h1
    exact List.mem_of_getElem? hk
  exact D_apart h hm (List.mem_of_getElem? hy) e
section CTOR
variable {p : Program} {l : Launch} {e : Env} {R : Room} {s : State} {m : MethodId} {args : Array Value} {below : List Frame} {meth : Method} {c : Code} {H : Heap} {locs : List Loc} {cells slots : Nat} {Q : State → Prop}
variable {pc : Nat} {ls : Array Slot} {rest st0 : List Value} {a : Array Value} {A : Nat → Prop} {H0 : Heap} {cc : ByteArray} {G : GG} {D : va_G} {cl : List vw_C} {ws : va_W} {tys : List (ClassId × FieldType)}
/-- a constructor called: its object stands last -/
theorem cc_v {S : Type} {post : S → Prop} {w2 : S → va_W} {wr wc : va_W} {mc ms : Nat} (hr : va_Run p l e R s m args below meth c H locs cells slots mc ms (F0 m pc ls st0) rest (va_Qv post (bC G (va_A wc H.size) w2) (va_A wc H.size) a) (va_A wc H.size)) (hP : va_P G.1 vwCl (wr ++ wc) H) (hD : va_D A (wr ++ wc)) (hS : va_S A H0 H locs) (hA : ∀ q, H0.size ≤ q → A q)
    (kk : ∀ (u : S) (H1 : Heap) (locs1 : List Loc), post u → va_P G.1 vwCl (wr ++ w2 u) H1 → va_D A (wr ++ w2 u) → va_S A H0 H1 locs1 → W p l e R s m args below meth c H1 locs1 (cells + mc) (slots + ms) Q (F0 m (pc + 3) ls rest)) : W p l e R s m args below meth c H locs cells slots Q (F0 m pc ls st0) := by
  have hF := free2 hD hS hA
  refine va_callv hr hS (fun q _ h => hF q h) hF (fun u t H1 locs1 ht hvm hw hB hz1 hk1 hS1 => ?_)
  obtain ⟨hP1, hD1⟩ := hB
  rw [ht] at hP1
  obtain ⟨g1, g2⟩ := join2 hP hD hk1 hF hP1 hD1
  exact kk u H1 locs1 hw g1 g2 hS1
theorem RA_o {C : String} {c1 c2 : ClassId} (h1 : va_RA s c1 (.object C)) (h2 : va_RA s c2 (.object C)) : c1 = c2 := by
  obtain ⟨_, _, _, _, _, q1⟩ := h1
  obtain ⟨_, _, _, _, _, q2⟩ := h2
  exact Option.some.inj (q1.symm.trans q2)
theorem RA_i {c1 c2 : ClassId} (h1 : va_RA s c1 .int) (h2 : va_RA s c2 .int) : c1 = c2 := Option.some.inj (Eq.trans (Eq.symm (show s.vm.findClass _ = some c1 from h1)) h2)
theorem RA_z {c1 c2 : ClassId} (h1 : va_RA s c1 .boolean) (h2 : va_RA s c2 .boolean) : c1 = c2 := Option.some.inj (Eq.trans (Eq.symm (show s.vm.findClass _ = some c1 from h1)) h2)
theorem RA_f {c1 c2 : ClassId} (h1 : va_RA s c1 .float) (h2 : va_RA s c2 .float) : c1 = c2 := Option.some.inj (Eq.trans (Eq.symm (show s.vm.findClass _ = some c1 from h1)) h2)
theorem RA_b {c1 c2 : ClassId} (h1 : va_RA s c1 .byte) (h2 : va_RA s c2 .byte) : c1 = c2 := Option.some.inj (Eq.trans (Eq.symm (show s.vm.findClass _ = some c1 from h1)) h2)
/-- an array of a class that is known -/
theorem nw_a (hexec : p.tables.exec = Jvm.exec) (hb : c.code = cc) {atype : ArrayType} (harr : (Cond.arrayClass (newarray.typeOf atype)).before args s = true) {ty : FieldType} (hty : newarray.typeOf atype = ty) (hK : va_K D cl tys s) (t0 : Nat) {cA : ClassId} (ht : tys[t0]? = some (cA, ty)) (hRA : ∀ c1 c2 : ClassId, va_RA s c1 ty → va_RA s c2 ty → c1 = c2) (hP : va_P D cl ws H) (hD : va_D A ws) (hS : va_S A H0 H locs) (hA : ∀ q, H0.size ≤ q → A q)
    {n : Nat} {a0 : vp_A} (ha : ∀ cA : ClassId, vp_cell cA a0 = arrV cA n (fun _ => defaultValue ty)) (hn : n < 2 ^ 31) (hbytes : n * componentBytes ty ≤ 536870912) (hcells : cells + 1 ≤ R.cells) (hslots : slots + n ≤ R.slots) (hdg : decode cc pc = .ok (.newarray atype, 2))
    (kk : ∀ (q : Nat) (H1 : Heap), va_P D cl (ws ++ [(q, .inl (cA, a0))]) H1 → va_D A (ws ++ [(q, .inl (cA, a0))]) → va_S A H0 H1 locs → W p l e R s m args below meth c H1 locs (cells + 1) (slots + n) Q (F0 m (pc + 2) ls (.ref q :: rest))) : W p l e R s m args below meth c H locs cells slots Q (F0 m pc ls (.int (nI n) :: rest)) := by
  refine va_newa hexec hb harr hty hK hP hD hS hA ha (nI_pos hn) (nI_clamp hn) hbytes hcells hslots hdg (fun q cB H1 hK1 hP1 hD1 hS1 => ?_)
  have e : cB = cA := hRA _ _ (hK1.2 tys.length (cB, ty) (by simp)).2 (hK.2 t0 _ ht).2
  subst e
  exact kk q H1 hP1 hD1 hS1
theorem nw_q (hexec : p.tables.exec = Jvm.exec) (hb : c.code = cc) {own C : String} {index : Nat} (hown : s.vm.findClass own = some m.cls) (hclink : (Cond.classLink own index C).before args s = true) (hover : va_AO C s) (hK : va_K D cl tys s) (t0 : Nat) {cA : ClassId} (ht : tys[t0]? = some (cA, .object C)) (hP : va_P D cl ws H) (hD : va_D A ws) (hS : va_S A H0 H locs) (hA : ∀ q, H0.size ≤ q → A q)
    {n : Nat} (hn : n < 2 ^ 31) (hbytes : n * 4 ≤ 536870912) (hcells : cells + 1 ≤ R.cells) (hslots : slots + n ≤ R.slots) (hdg : decode cc pc = .ok (.anewarray index, 3))
    (kk : ∀ (q : Nat) (H1 : Heap), va_P D cl (ws ++ [(q, .inl (cA, n, .inr (.inr (.inr (.inr (fun _ => none))))))]) H1 → va_D A (ws ++ [(q, .inl (cA, n, .inr (.inr (.inr (.inr (fun _ => none))))))]) → va_S A H0 H1 locs → W p l e R s m args below meth c H1 locs (cells + 1) (slots + n) Q (F0 m (pc + 3) ls (.ref q :: rest))) : W p l e R s m args below meth c H locs cells slots Q (F0 m pc ls (.int (nI n) :: rest)) := by
  refine va_newq hexec hb hown hclink hover hK hP hD hS hA (nI_pos hn) (nI_clamp hn) hbytes hcells hslots hdg (fun q cB H1 hK1 hP1 hD1 hS1 => ?_)
  have e : cB = cA := RA_o (hK1.2 tys.length (cB, .object C) (by simp)).2 (hK.2 t0 _ ht).2
  subst e
  exact kk q H1 hP1 hD1 hS1
/-- a reference put into an array of references -/
theorem n_aast (hexec : p.tables.exec = Jvm.exec) (hb : c.code = cc) (hK : va_K D cl tys s) (hP : va_P D cl ws H) (hD : va_D A ws) (hS : va_S A H0 H locs) (q0 t0 qk ci : Nat) {b : Nat} {cA : ClassId} {r : vw_C} {n v : Nat} {vs : List Value} {f : Nat → Option Nat} (ha : ws[q0]? = some (b, .inl (cA, n, .inr (.inr (.inr (.inr f)))))) (ht : tys[t0]? = some (cA, .object r.1)) (hv : ws[qk]? = some (v, .inr (ci, vs))) (hc : cl[ci]? = some r) {j : Nat} (hj : j < n) (hn : n < 2 ^ 31) (hdg : decode cc pc = .ok (.aastore, 1))
    (kk : ∀ (H1 : Heap) (locs1 : List Loc), va_P D cl (ws.set q0 (b, .inl (cA, n, .inr (.inr (.inr (.inr (va_up f j (some v)))))))) H1 → va_D A (ws.set q0 (b, .inl (cA, n, .inr (.inr (.inr (.inr (va_up f j (some v)))))))) → va_S A H0 H1 locs1 → W p l e R s m args below meth c H1 locs1 cells slots Q (F0 m (pc + 1) ls rest)) : W p l e R s m args below meth c H locs cells slots Q (F0 m pc ls (.ref v :: .int (nI j) :: .ref b :: rest)) := by
  refine va_astq hexec hb hK hP hD hS q0 t0 qk ci ha ht hv hc (vp_in_nI hj hn) hdg (fun H1 locs1 hP1 hD1 hS1 => ?_)
  rw [nI_clamp (Nat.lt_trans hj hn)] at hP1 hD1
  exact kk H1 locs1 hP1 hD1 hS1
/-- a loop whose body makes cells -/
theorem lpC {S : Type} (N cw sw : Nat) (I : Nat → S → Heap → List Loc → Prop) (L : Nat → S → List (Nat × Value)) {nL : Nat} {stk : List Value} {c0 s0 : Nat}
    (hexit : ∀ (u : S) (H : Heap) (locs : List Loc) (ls : Array Slot), I N u H locs → lv_has ls nL (L N u) → W p l e R s m args below meth c H locs (c0 + cw * N) (s0 + sw * N) Q (F0 m pc ls stk))
    (hstep : ∀ (i : Nat) (u : S) (H : Heap) (locs : List Loc) (ls : Array Slot), i < N → I i u H locs → lv_has ls nL (L i u) → (∀ (u' : S) (H1 : Heap) (locs1 : List Loc) (ls' : Array Slot), I (i + 1) u' H1 locs1 → lv_has ls' nL (L (i + 1) u') → W p l e R s m args below meth c H1 locs1 (c0 + cw * (i + 1)) (s0 + sw * (i + 1)) Q (F0 m pc ls' stk)) → W p l e R s m args below meth c H locs (c0 + cw * i) (s0 + sw * i) Q (F0 m pc ls stk))
    (u0 : S) (h0 : I 0 u0 H locs) (hl : lv_has ls nL (L 0 u0)) : W p l e R s m args below meth c H locs c0 s0 Q (F0 m pc ls stk) := by
  have key : ∀ (d i : Nat) (u : S) (H : Heap) (locs : List Loc) (ls : Array Slot), i + d = N → I i u H locs → lv_has ls nL (L i u) → W p l e R s m args below meth c H locs (c0 + cw * i) (s0 + sw * i) Q (F0 m pc ls stk) := by
    intro d
    induction d with
    | zero => intro i u H locs ls hd hI hl; obtain rfl : i = N := hd; exact hexit u H locs ls hI hl
    | succ d ih => intro i u H locs ls hd hI hl; exact hstep i u H locs ls (by omega) hI hl (fun u' H1 locs1 ls' h1 h2 => ih (i + 1) u' H1 locs1 ls' (by omega) h1 h2)
  have := key N 0 u0 H locs ls (by omega) h0 hl
  rwa [Nat.mul_zero, Nat.mul_zero, Nat.add_zero, Nat.add_zero] at this
end CTOR
/-! what new objects hold -/
def r25 (n : Nat) : Nat → Int32 := fun j => if j < n then nI 25 else 0
def rM1 (n : Nat) : Nat → Int32 := fun j => if j < n then -1 else 0
theorem r25_s (n : Nat) : upd (r25 n) n (nI 25) = r25 (n + 1) := by
  funext j
  unfold upd r25
  by_cases h : j = n
  · rw [if_pos h, if_pos (by omega)]
  · rw [if_neg h]
    by_cases h2 : j < n
    · rw [if_pos h2, if_pos (by omega)]
    · rw [if_neg h2, if_neg (by omega)]
theorem rM1_s (n : Nat) : upd (rM1 n) n (-1) = rM1 (n + 1) := by
  funext j
  unfold upd rM1
  by_cases h : j = n
  · rw [if_pos h, if_pos (by omega)]
  · rw [if_neg h]
    by_cases h2 : j < n
    · rw [if_pos h2, if_pos (by omega)]
    · rw [if_neg h2, if_neg (by omega)]
def bZ : Nat → Nat → Int32 := fun r => match r with
  | 1 => r25 4
  | 5 => rM1 12
  | 6 => rM1 12
  | _ => fun _ => 0
/-- the reference's row as it is made -/
def aZ (i j : Nat) : Nat → Int32 := fun k => if k < i then nI 25 else if 42 ≤ k ∧ k < 42 + j then -9 else 0
theorem aZ_0 : (fun _ => 0 : Nat → Int32) = aZ 0 0 := by
  funext k
  unfold aZ
  rw [if_neg (by omega), if_neg (by omega)]
theorem aZ_i {i : Nat} (hi : i < 4) : upd (aZ i 0) (0 + i) (nI 25) = aZ (i + 1) 0 := by
  funext k
  unfold upd aZ
  by_cases h : k = 0 + i
  · rw [if_pos h, if_pos (by omega)]
  · rw [if_neg h]
    by_cases h2 : k < i
    · rw [if_pos h2, if_pos (by omega)]
    · rw [if_neg h2, if_neg (show ¬ (42 ≤ k ∧ k < 42 + 0) by omega), if_neg (show ¬ k < i + 1 by omega)]
theorem aZ_j {j : Nat} (hj : j < 12) : upd (aZ 4 j) (42 + j) (-9) = aZ 4 (j + 1) := by
  funext k
  unfold upd aZ
  by_cases h : k = 42 + j
  · rw [if_pos h, if_neg (by omega), if_pos (by omega)]
  · rw [if_neg h]
    by_cases h2 : k < 4
    · rw [if_pos h2, if_pos h2]
    · rw [if_neg h2, if_neg h2]
      by_cases h3 : 42 ≤ k ∧ k < 42 + j
      · rw [if_pos h3, if_pos (by omega)]
      · rw [if_neg h3, if_neg (by omega)]
theorem bWF_Z : bWF bZ := by
  have i0 : itN bZ = 0 := by unfold itN bZ; decide
  refine ⟨⟨by rw [i0]; rfl, by rw [i0]; omega⟩, fun j _ => by show 0 ≤ (0 : Int32).toInt; decide, fun k _ => by show 0 ≤ (0 : Int32).toInt; decide, fun k hk h => absurd (show rM1 12 k = -1 from if_pos hk) h, fun k hk h => absurd (show rM1 12 k = -1 from if_pos hk) h, fun k hk => ?_, fun k hk => by rw [i0] at hk; omega⟩
  have e : bZ 1 k = nI 25 := if_pos hk
  unfold wtN
  rw [e, nI_clamp (by omega)]
  exact ⟨rfl, by omega⟩
theorem Rel_Z : Rel (aZ 4 12) bZ := by
  have i0 : itN bZ = 0 := by unfold itN bZ; decide
  refine ⟨bWF_Z, ⟨⟨rfl, rfl⟩, fun k hk => ?_, fun k hk => ?_, fun k hk => ?_, fun k hk => ?_, fun j hj => ?_, fun k hk => Or.inl ⟨?_, if_pos hk⟩⟩, ⟨fun k hk h => absurd (show rM1 12 k = -1 from if_pos hk) h, fun k hk h => absurd (show rM1 12 k = -1 from if_pos hk) h, fun k hk h => absurd (show rM1 12 k = -1 from if_pos hk) h⟩, ⟨fun k hk => by rw [i0] at hk; omega, fun j _ => by show (0 : Int32).toInt ≤ 99999; decide⟩⟩
  · show aZ 4 12 k = r25 4 k
    unfold aZ r25
    rw [if_pos hk, if_pos hk]
  · unfold aZ
    rw [if_neg (by omega), if_neg (by omega)]; rfl
  · unfold aZ
    rw [if_neg (by omega), if_neg (by omega)]; rfl
  · unfold aZ
    rw [if_neg (by omega), if_neg (by omega)]; rfl
  · unfold aZ
    rw [if_neg (by omega), if_neg (by omega)]; rfl
  · unfold aZ
    rw [if_neg (by omega), if_pos (by omega)]
theorem ringsN_ext {G : GG} {sa sb : Nat → Nat → Nat} {g : Nat → Nat → Nat → Int32} : ∀ {n : Nat}, (∀ j, j < n → sa j = sb j) → ringsN G sa g n = ringsN G sb g n
  | 0, _ => rfl
  | n + 1, h => by
    rw [ringsN, ringsN, ringsN_ext (n := n) (fun j hj => h j (by omega)), h n (by omega)]
def rfN (sa : Nat → Nat → Nat) (n : Nat) : Nat → Option Nat := fun j => if j < n then some (sa j 0) else none
theorem rfN_s {sa : Nat → Nat → Nat} {n q : Nat} {ad : Nat → Nat} (h : ad 0 = q) : va_up (rfN sa n) n (some q) = rfN (va_up sa n ad) (n + 1) := by
  funext j
  unfold va_up rfN
  by_cases e : j = n
  · rw [if_pos e, if_pos (by omega)]
    show some q = some ((if j = n then ad else sa j) 0)
    rw [if_pos e, h]
  · rw [if_neg e]
    show _ = if j < n + 1 then some ((if j = n then ad else sa j) 0) else none
    rw [if_neg e]
    by_cases e2 : j < n
    · rw [if_pos e2, if_pos (by omega)]
    · rw [if_neg e2, if_neg (by omega)]
theorem ring_cell {cA : ClassId} {sa : Nat → Nat → Nat} : vp_cell cA (8, .inr (.inr (.inr (.inr (rfN sa 8))))) = vp_cell cA (8, .inr (.inr (.inr (.inr (fun j => some (sa j 0)))))) := by
  have h : (fun j : Fin 8 => va_rf (rfN sa 8 j.val)) = (fun j : Fin 8 => va_rf (some (sa j.val 0))) := by
    funext j
    unfold rfN
    rw [if_pos j.isLt]
  exact congrArg (fun f : Fin 8 → Value => ({ cls := cA, slots := Array.ofFn f, vm := .none } : Cell)) h
theorem P_ring {D : va_G} {cl : List vw_C} {cA : ClassId} {sa : Nat → Nat → Nat} {rg : Nat} {x : Nat × va_E} {T : va_W} {H : Heap} (h : va_P D cl (x :: (rg, .inl (cA, 8, .inr (.inr (.inr (.inr (rfN sa 8)))))) :: T) H) : va_P D cl (x :: (rg, .inl (cA, 8, .inr (.inr (.inr (.inr (fun j => some (sa j 0))))))) :: T) H := by
  intro k q hq
  match k, hq with
  | 0, hq => exact h 0 q hq
  | 1, hq =>
    cases hq
    have h1 : H[rg]? = some (vp_cell cA (8, .inr (.inr (.inr (.inr (rfN sa 8)))))) := h 1 _ rfl
    rw [ring_cell] at h1
    exact h1
  | k + 2, hq => exact h (k + 2) q hq
theorem rings_push {G : GG} {sa : Nat → Nat → Nat} {ad : Nat → Nat} {n : Nat} : ringsN G (va_up sa n ad) (fun _ => bZ) (n + 1) = ringsN G sa (fun _ => bZ) n ++ bcells G ad bZ := by
  have e1 : va_up sa n ad n = ad := if_pos rfl
  rw [ringsN, e1, ringsN_ext (sa := va_up sa n ad) (sb := sa) (fun j hj => if_neg (by omega))]
