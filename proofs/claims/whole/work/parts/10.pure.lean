/-! what the component's float numbers are: a number that is not negative, or -1 in place of a NaN -/
def NEG1 : UInt32 := 3212836864
def cNeg (x : UInt32) : Bool := decide (FP.fcmp x FP.fconst0 = some .lt)
def cInf (x : UInt32) : Bool := decide (FP.fcmp x 2139095039 = some .gt)
def cZer (x : UInt32) : Bool := decide (FP.fcmp x FP.fconst0 = some .eq)
def cPlus (a b : UInt32) : UInt32 := if cNeg a || cNeg b then NEG1 else FP.fadd a b
def cTimes (a b : UInt32) : UInt32 := if cNeg a || cNeg b || (cZer a && cInf b) || (cInf a && cZer b) then NEG1 else FP.fmul a b
def cOver (a b : UInt32) : UInt32 := if cNeg a || cNeg b || (cZer a && cZer b) || (cInf a && cInf b) then NEG1 else FP.fdiv a b
section FCMP
variable {p : Program} {l : Launch} {e : Env} {R : Room} {s : State} {m : MethodId} {args : Array Value} {below : List Frame} {meth : Method} {c : Code} {H : Heap} {locs : List Loc} {cells slots : Nat} {Q : State → Prop}
variable {pc : Nat} {ls : Array Slot} {rest : List Value} {cc : ByteArray} {off : Int} {tgt : Nat} {x y : UInt32}
theorem nf_g_ge (hexec : p.tables.exec = Jvm.exec) (hb : c.code = cc) (hdg : decode cc pc = .ok (.ifCond .ge off, 3)) (ht : (pc : Int) + off = (tgt : Int)) (kt : FP.fcmp x y ≠ some .lt → W p l e R s m args below meth c H locs cells slots Q (F0 m tgt ls rest)) (kf : FP.fcmp x y = some .lt → W p l e R s m args below meth c H locs cells slots Q (F0 m (pc + 3) ls rest)) : W p l e R s m args below meth c H locs cells slots Q (F0 m pc ls (.int (Op.cmpValue (FP.fcmp x y) CmpOp.g) :: rest)) := by
  generalize FP.fcmp x y = o at kt kf ⊢
  refine lv_if_ge hexec hb hdg ht (fun h => kt fun q => ?_) (fun h => kf ?_)
  · subst q; revert h; decide
  · revert h; rcases o with _ | _ | _ | _ <;> decide
theorem nf_l_le (hexec : p.tables.exec = Jvm.exec) (hb : c.code = cc) (hdg : decode cc pc = .ok (.ifCond .le off, 3)) (ht : (pc : Int) + off = (tgt : Int)) (kt : FP.fcmp x y ≠ some .gt → W p l e R s m args below meth c H locs cells slots Q (F0 m tgt ls rest)) (kf : FP.fcmp x y = some .gt → W p l e R s m args below meth c H locs cells slots Q (F0 m (pc + 3) ls rest)) : W p l e R s m args below meth c H locs cells slots Q (F0 m pc ls (.int (Op.cmpValue (FP.fcmp x y) CmpOp.l) :: rest)) := by
  generalize FP.fcmp x y = o at kt kf ⊢
  refine lv_if_le hexec hb hdg ht (fun h => kt fun q => ?_) (fun h => kf ?_)
  · subst q; revert h; decide
  · revert h; rcases o with _ | _ | _ | _ <;> decide
theorem nf_l_ne (hexec : p.tables.exec = Jvm.exec) (hb : c.code = cc) (hdg : decode cc pc = .ok (.ifCond .ne off, 3)) (ht : (pc : Int) + off = (tgt : Int)) (kt : FP.fcmp x y ≠ some .eq → W p l e R s m args below meth c H locs cells slots Q (F0 m tgt ls rest)) (kf : FP.fcmp x y = some .eq → W p l e R s m args below meth c H locs cells slots Q (F0 m (pc + 3) ls rest)) : W p l e R s m args below meth c H locs cells slots Q (F0 m pc ls (.int (Op.cmpValue (FP.fcmp x y) CmpOp.l) :: rest)) := by
  generalize FP.fcmp x y = o at kt kf ⊢
  refine lv_if_ne hexec hb hdg ht (fun h => kt fun q => ?_) (fun h => kf ?_)
  · subst q; revert h; decide
  · revert h; rcases o with _ | _ | _ | _ <;> decide
theorem nf_l_eq (hexec : p.tables.exec = Jvm.exec) (hb : c.code = cc) (hdg : decode cc pc = .ok (.ifCond .eq off, 3)) (ht : (pc : Int) + off = (tgt : Int)) (kt : FP.fcmp x y = some .eq → W p l e R s m args below meth c H locs cells slots Q (F0 m tgt ls rest)) (kf : FP.fcmp x y ≠ some .eq → W p l e R s m args below meth c H locs cells slots Q (F0 m (pc + 3) ls rest)) : W p l e R s m args below meth c H locs cells slots Q (F0 m pc ls (.int (Op.cmpValue (FP.fcmp x y) CmpOp.l) :: rest)) := by
  generalize FP.fcmp x y = o at kt kf ⊢
  refine lv_if_eq hexec hb hdg ht (fun h => kt ?_) (fun h => kf fun q => ?_)
  · revert h; rcases o with _ | _ | _ | _ <;> decide
  · subst q; revert h; decide
theorem nf_l_lt (hexec : p.tables.exec = Jvm.exec) (hb : c.code = cc) (hdg : decode cc pc = .ok (.ifCond .lt off, 3)) (ht : (pc : Int) + off = (tgt : Int)) (kt : FP.fcmp x y = some .lt ∨ FP.fcmp x y = none → W p l e R s m args below meth c H locs cells slots Q (F0 m tgt ls rest)) (kf : FP.fcmp x y = some .gt ∨ FP.fcmp x y = some .eq → W p l e R s m args below meth c H locs cells slots Q (F0 m (pc + 3) ls rest)) : W p l e R s m args below meth c H locs cells slots Q (F0 m pc ls (.int (Op.cmpValue (FP.fcmp x y) CmpOp.l) :: rest)) := by
  generalize FP.fcmp x y = o at kt kf ⊢
  refine lv_if_lt hexec hb hdg ht (fun h => kt ?_) (fun h => kf ?_)
  · revert h; rcases o with _ | _ | _ | _ <;> decide
  · revert h; rcases o with _ | _ | _ | _ <;> decide
end FCMP
theorem va_P_nil (D : va_G) (cl : List vw_C) (H : Heap) : va_P D cl [] H := fun _ _ h => by simp at h
theorem nar_bI (b : Bool) : narrow .boolean (.int (bI b)) = .int (bI b) := by cases b <;> rfl
def isStr (x : Int32) : Bool := !decide (x < 0) && !decide (nI 4 ≤ x)
def isMon (x : Int32) : Bool := !decide (x < 0) && !decide (nI 24 ≤ x)
def inR (x y z : Int32) : Bool := !decide (x < y) && !decide (z < x)
