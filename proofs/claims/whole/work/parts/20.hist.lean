/-! the ring of baskets, and the whole object -/
def nx8 (i : Nat) : Nat := if i + 1 < 8 then i + 1 else 0
def pv8 (i : Nat) : Nat := if 0 < i then i - 1 else 7
def kp8 (n : Nat) : Nat := if n < 8 then n + 1 else 8
theorem nx8_lt {i : Nat} : nx8 i < 8 := by unfold nx8; split <;> omega
theorem pv8_lt {i : Nat} (h : i < 8) : pv8 i < 8 := by unfold pv8; split <;> omega
theorem kp8_le {n : Nat} : kp8 n ≤ 8 := by unfold kp8; split <;> omega
/-- history, ring, the basket, one slot of the ring -/
def hcells (G : GG) (ha rg : Nat) (rf : Nat → Option Nat) (i n : Nat) (ad : Nat → Nat) (b : Nat → Nat → Int32) (ad2 : Nat → Nat) (b2 : Nat → Nat → Int32) : va_W := ((ha, .inr (1, [.ref rg, .int (nI i), .int (nI n)])) :: (rg, .inl (G.2 4, 8, .inr (.inr (.inr (.inr rf))))) :: bcells G ad b) ++ bcells G ad2 b2
section RINGROW
variable {p : Program} {l : Launch} {e : Env} {R : Room} {s : State} {m : MethodId} {args : Array Value} {below : List Frame} {meth : Method} {c : Code} {H : Heap} {locs : List Loc} {cells slots : Nat} {Q : State → Prop}
variable {pc : Nat} {ls : Array Slot} {rest st0 : List Value} {A : Nat → Prop} {H0 : Heap} {cc : ByteArray} {D : va_G} {cl : List vw_C} {ws : va_W} {tys : List (ClassId × FieldType)} {b : Nat} {a : Array Value}
theorem n_aald (hexec : p.tables.exec = Jvm.exec) (hb : c.code = cc) (hK : va_K D cl tys s) (hP : va_P D cl ws H) (q0 t0 : Nat) {cA : ClassId} {C : String} {n : Nat} {f : Nat → Option Nat} (ha : ws[q0]? = some (b, .inl (cA, n, .inr (.inr (.inr (.inr f)))))) (ht : tys[t0]? = some (cA, .object C)) {j y : Nat} (hf : f j = some y) (hj : j < n) (hn : n < 2 ^ 31) (hdg : decode cc pc = .ok (.aaload, 1)) (kk : W p l e R s m args below meth c H locs cells slots Q (F0 m (pc + 1) ls (.ref y :: rest))) : W p l e R s m args below meth c H locs cells slots Q (F0 m pc ls (.int (nI j) :: .ref b :: rest)) := by
  refine va_aldq hexec hb hK hP q0 t0 ha ht (vp_in_nI hj hn) hdg ?_
  rw [nI_clamp (Nat.lt_trans hj hn), hf]
  exact kk
end RINGROW
