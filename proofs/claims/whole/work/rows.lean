section
-- ===== PART A: goes FIRST, ahead of the names: the tables' words, and 'selects' of the private methods out of them =====
/-- a private method of a class that the tables say can be made, by its rows of tables_1 -/
def lw_okq (q : MethodName × Nat) : Prop := (q.1.cls ≠ "java/lang/invoke/MethodHandle" ∧ q.1.cls ≠ "java/lang/invoke/VarHandle") ∧ Cond.instantiable q.1.cls q.2 ∈ tables_1 ∧ Cond.privateMethod q.1 ∈ tables_1 ∧ Cond.instanceMethod q.1 ∈ tables_1
theorem lw_p0 : lw_okq (⟨"PriceIndexCalculator", "beginEdit", "()V"⟩, 4) := ⟨⟨by decide +kernel, by decide +kernel⟩, List.mem_of_getElem? (i := 12) (by decide +kernel), List.mem_of_getElem? (i := 180) (by decide +kernel), List.mem_of_getElem? (i := 181) (by decide +kernel)⟩
theorem lw_p1 : lw_okq (⟨"PriceIndexCalculator", "isItem", "(I)Z"⟩, 4) := ⟨⟨by decide +kernel, by decide +kernel⟩, List.mem_of_getElem? (i := 12) (by decide +kernel), List.mem_of_getElem? (i := 211) (by decide +kernel), List.mem_of_getElem? (i := 212) (by decide +kernel)⟩
theorem lw_p2 : lw_okq (⟨"PriceIndexCalculator$QuotationText", "readQuotation", "(II)Z"⟩, 6) := ⟨⟨by decide +kernel, by decide +kernel⟩, List.mem_of_getElem? (i := 89) (by decide +kernel), List.mem_of_getElem? (i := 250) (by decide +kernel), List.mem_of_getElem? (i := 251) (by decide +kernel)⟩
theorem lw_p3 : lw_okq (⟨"PriceIndexCalculator$QuotationText", "readNumber", "(I)I"⟩, 6) := ⟨⟨by decide +kernel, by decide +kernel⟩, List.mem_of_getElem? (i := 89) (by decide +kernel), List.mem_of_getElem? (i := 254) (by decide +kernel), List.mem_of_getElem? (i := 255) (by decide +kernel)⟩
theorem lw_p4 : lw_okq (⟨"PriceIndexCalculator$QuotationText", "hasNumberForm", "(II)Z"⟩, 6) := ⟨⟨by decide +kernel, by decide +kernel⟩, List.mem_of_getElem? (i := 89) (by decide +kernel), List.mem_of_getElem? (i := 261) (by decide +kernel), List.mem_of_getElem? (i := 262) (by decide +kernel)⟩
theorem lw_p5 : lw_okq (⟨"PriceIndexCalculator$QuotationText", "skip", "(C)Z"⟩, 6) := ⟨⟨by decide +kernel, by decide +kernel⟩, List.mem_of_getElem? (i := 89) (by decide +kernel), List.mem_of_getElem? (i := 265) (by decide +kernel), List.mem_of_getElem? (i := 266) (by decide +kernel)⟩
theorem lw_p6 : lw_okq (⟨"PriceIndexCalculator$PriceTable", "fillEffective", "(I)V"⟩, 4) := ⟨⟨by decide +kernel, by decide +kernel⟩, List.mem_of_getElem? (i := 118) (by decide +kernel), List.mem_of_getElem? (i := 324) (by decide +kernel), List.mem_of_getElem? (i := 325) (by decide +kernel)⟩
theorem lw_p7 : lw_okq (⟨"PriceIndexCalculator$PriceTable", "fillKnown", "(I)V"⟩, 4) := ⟨⟨by decide +kernel, by decide +kernel⟩, List.mem_of_getElem? (i := 118) (by decide +kernel), List.mem_of_getElem? (i := 370) (by decide +kernel), List.mem_of_getElem? (i := 371) (by decide +kernel)⟩
theorem lw_p8 : lw_okq (⟨"PriceIndexCalculator$PriceRows", "sumOfPrices", "(IIII)F"⟩, 3) := ⟨⟨by decide +kernel, by decide +kernel⟩, List.mem_of_getElem? (i := 124) (by decide +kernel), List.mem_of_getElem? (i := 386) (by decide +kernel), List.mem_of_getElem? (i := 387) (by decide +kernel)⟩
theorem lw_p9 : lw_okq (⟨"PriceIndexCalculator$PriceRows", "sumOfRatios", "(III)F"⟩, 3) := ⟨⟨by decide +kernel, by decide +kernel⟩, List.mem_of_getElem? (i := 124) (by decide +kernel), List.mem_of_getElem? (i := 398) (by decide +kernel), List.mem_of_getElem? (i := 399) (by decide +kernel)⟩
theorem lw_p10 : lw_okq (⟨"PriceIndexCalculator$PriceTable", "fillKnownCell", "(IIF)V"⟩, 4) := ⟨⟨by decide +kernel, by decide +kernel⟩, List.mem_of_getElem? (i := 118) (by decide +kernel), List.mem_of_getElem? (i := 402) (by decide +kernel), List.mem_of_getElem? (i := 403) (by decide +kernel)⟩
theorem lw_p11 : lw_okq (⟨"PriceIndexCalculatorModel", "edit", "()V"⟩, 15) := ⟨⟨by decide +kernel, by decide +kernel⟩, List.mem_of_getElem? (i := 511) (by decide +kernel), List.mem_of_getElem? (i := 578) (by decide +kernel), List.mem_of_getElem? (i := 579) (by decide +kernel)⟩
theorem lw_p12 : lw_okq (⟨"PriceIndexCalculatorModel", "isItem", "(I)Z"⟩, 15) := ⟨⟨by decide +kernel, by decide +kernel⟩, List.mem_of_getElem? (i := 511) (by decide +kernel), List.mem_of_getElem? (i := 590) (by decide +kernel), List.mem_of_getElem? (i := 591) (by decide +kernel)⟩
theorem lw_p13 : lw_okq (⟨"PriceIndexCalculatorModel", "read", "()I"⟩, 15) := ⟨⟨by decide +kernel, by decide +kernel⟩, List.mem_of_getElem? (i := 511) (by decide +kernel), List.mem_of_getElem? (i := 614) (by decide +kernel), List.mem_of_getElem? (i := 615) (by decide +kernel)⟩
theorem lw_p14 : lw_okq (⟨"PriceIndexCalculatorModel", "number", "(I)I"⟩, 15) := ⟨⟨by decide +kernel, by decide +kernel⟩, List.mem_of_getElem? (i := 511) (by decide +kernel), List.mem_of_getElem? (i := 618) (by decide +kernel), List.mem_of_getElem? (i := 619) (by decide +kernel)⟩
theorem lw_p15 : lw_okq (⟨"PriceIndexCalculatorModel", "isDigit", "(I)Z"⟩, 15) := ⟨⟨by decide +kernel, by decide +kernel⟩, List.mem_of_getElem? (i := 511) (by decide +kernel), List.mem_of_getElem? (i := 622) (by decide +kernel), List.mem_of_getElem? (i := 623) (by decide +kernel)⟩
def lw_privs_1 : List (MethodName × Nat) := [(⟨"PriceIndexCalculator", "beginEdit", "()V"⟩, 4), (⟨"PriceIndexCalculator", "isItem", "(I)Z"⟩, 4), (⟨"PriceIndexCalculator$QuotationText", "readQuotation", "(II)Z"⟩, 6), (⟨"PriceIndexCalculator$QuotationText", "readNumber", "(I)I"⟩, 6), (⟨"PriceIndexCalculator$QuotationText", "hasNumberForm", "(II)Z"⟩, 6), (⟨"PriceIndexCalculator$QuotationText", "skip", "(C)Z"⟩, 6), (⟨"PriceIndexCalculator$PriceTable", "fillEffective", "(I)V"⟩, 4), (⟨"PriceIndexCalculator$PriceTable", "fillKnown", "(I)V"⟩, 4), (⟨"PriceIndexCalculator$PriceRows", "sumOfPrices", "(IIII)F"⟩, 3), (⟨"PriceIndexCalculator$PriceRows", "sumOfRatios", "(III)F"⟩, 3), (⟨"PriceIndexCalculator$PriceTable", "fillKnownCell", "(IIF)V"⟩, 4), (⟨"PriceIndexCalculatorModel", "edit", "()V"⟩, 15), (⟨"PriceIndexCalculatorModel", "isItem", "(I)Z"⟩, 15), (⟨"PriceIndexCalculatorModel", "read", "()I"⟩, 15), (⟨"PriceIndexCalculatorModel", "number", "(I)I"⟩, 15), (⟨"PriceIndexCalculatorModel", "isDigit", "(I)Z"⟩, 15)]
theorem lw_r1 : ∀ q ∈ lw_privs_1, lw_okq q := List.forall_mem_cons.mpr ⟨lw_p0, List.forall_mem_cons.mpr ⟨lw_p1, List.forall_mem_cons.mpr ⟨lw_p2, List.forall_mem_cons.mpr ⟨lw_p3, List.forall_mem_cons.mpr ⟨lw_p4, List.forall_mem_cons.mpr ⟨lw_p5, List.forall_mem_cons.mpr ⟨lw_p6, List.forall_mem_cons.mpr ⟨lw_p7, List.forall_mem_cons.mpr ⟨lw_p8, List.forall_mem_cons.mpr ⟨lw_p9, List.forall_mem_cons.mpr ⟨lw_p10, List.forall_mem_cons.mpr ⟨lw_p11, List.forall_mem_cons.mpr ⟨lw_p12, List.forall_mem_cons.mpr ⟨lw_p13, List.forall_mem_cons.mpr ⟨lw_p14, List.forall_mem_cons.mpr ⟨lw_p15, fun _ h => absurd h List.not_mem_nil⟩⟩⟩⟩⟩⟩⟩⟩⟩⟩⟩⟩⟩⟩⟩⟩
theorem lw_p16 : lw_okq (⟨"PriceIndexCalculatorModel", "pass", "(I)V"⟩, 15) := ⟨⟨by decide +kernel, by decide +kernel⟩, List.mem_of_getElem? (i := 511) (by decide +kernel), List.mem_of_getElem? (i := 626) (by decide +kernel), List.mem_of_getElem? (i := 627) (by decide +kernel)⟩
theorem lw_p17 : lw_okq (⟨"PriceIndexCalculatorModel", "takesPart", "(I)Z"⟩, 15) := ⟨⟨by decide +kernel, by decide +kernel⟩, List.mem_of_getElem? (i := 511) (by decide +kernel), List.mem_of_getElem? (i := 634) (by decide +kernel), List.mem_of_getElem? (i := 635) (by decide +kernel)⟩
theorem lw_p18 : lw_okq (⟨"PriceIndexCalculatorModel", "oldOf", "(I)I"⟩, 15) := ⟨⟨by decide +kernel, by decide +kernel⟩, List.mem_of_getElem? (i := 511) (by decide +kernel), List.mem_of_getElem? (i := 638) (by decide +kernel), List.mem_of_getElem? (i := 639) (by decide +kernel)⟩
theorem lw_p19 : lw_okq (⟨"PriceIndexCalculatorModel", "isObserved", "(II)Z"⟩, 15) := ⟨⟨by decide +kernel, by decide +kernel⟩, List.mem_of_getElem? (i := 511) (by decide +kernel), List.mem_of_getElem? (i := 642) (by decide +kernel), List.mem_of_getElem? (i := 643) (by decide +kernel)⟩
theorem lw_p20 : lw_okq (⟨"PriceIndexCalculatorModel", "replacements", "()I"⟩, 15) := ⟨⟨by decide +kernel, by decide +kernel⟩, List.mem_of_getElem? (i := 511) (by decide +kernel), List.mem_of_getElem? (i := 646) (by decide +kernel), List.mem_of_getElem? (i := 647) (by decide +kernel)⟩
theorem lw_p21 : lw_okq (⟨"PriceIndexCalculatorModel", "find", "()V"⟩, 15) := ⟨⟨by decide +kernel, by decide +kernel⟩, List.mem_of_getElem? (i := 511) (by decide +kernel), List.mem_of_getElem? (i := 670) (by decide +kernel), List.mem_of_getElem? (i := 671) (by decide +kernel)⟩
theorem lw_p22 : lw_okq (⟨"PriceIndexCalculatorModel", "isEffective", "(II)Z"⟩, 15) := ⟨⟨by decide +kernel, by decide +kernel⟩, List.mem_of_getElem? (i := 511) (by decide +kernel), List.mem_of_getElem? (i := 674) (by decide +kernel), List.mem_of_getElem? (i := 675) (by decide +kernel)⟩
theorem lw_p23 : lw_okq (⟨"PriceIndexCalculatorModel", "effective", "(II)F"⟩, 15) := ⟨⟨by decide +kernel, by decide +kernel⟩, List.mem_of_getElem? (i := 511) (by decide +kernel), List.mem_of_getElem? (i := 678) (by decide +kernel), List.mem_of_getElem? (i := 679) (by decide +kernel)⟩
theorem lw_p24 : lw_okq (⟨"PriceIndexCalculatorModel", "observed", "(II)F"⟩, 15) := ⟨⟨by decide +kernel, by decide +kernel⟩, List.mem_of_getElem? (i := 511) (by decide +kernel), List.mem_of_getElem? (i := 682) (by decide +kernel), List.mem_of_getElem? (i := 683) (by decide +kernel)⟩
theorem lw_p25 : lw_okq (⟨"PriceIndexCalculatorModel", "movement", "(III)F"⟩, 15) := ⟨⟨by decide +kernel, by decide +kernel⟩, List.mem_of_getElem? (i := 511) (by decide +kernel), List.mem_of_getElem? (i := 686) (by decide +kernel), List.mem_of_getElem? (i := 687) (by decide +kernel)⟩
theorem lw_p26 : lw_okq (⟨"PriceIndexCalculatorModel", "begin", "()V"⟩, 15) := ⟨⟨by decide +kernel, by decide +kernel⟩, List.mem_of_getElem? (i := 511) (by decide +kernel), List.mem_of_getElem? (i := 690) (by decide +kernel), List.mem_of_getElem? (i := 691) (by decide +kernel)⟩
theorem lw_p27 : lw_okq (⟨"PriceIndexCalculatorModel", "isMatched", "(IIII)Z"⟩, 15) := ⟨⟨by decide +kernel, by decide +kernel⟩, List.mem_of_getElem? (i := 511) (by decide +kernel), List.mem_of_getElem? (i := 694) (by decide +kernel), List.mem_of_getElem? (i := 695) (by decide +kernel)⟩
theorem lw_p28 : lw_okq (⟨"PriceIndexCalculatorModel", "take", "(FF)V"⟩, 15) := ⟨⟨by decide +kernel, by decide +kernel⟩, List.mem_of_getElem? (i := 511) (by decide +kernel), List.mem_of_getElem? (i := 698) (by decide +kernel), List.mem_of_getElem? (i := 699) (by decide +kernel)⟩
theorem lw_p29 : lw_okq (⟨"PriceIndexCalculatorModel", "result", "()F"⟩, 15) := ⟨⟨by decide +kernel, by decide +kernel⟩, List.mem_of_getElem? (i := 511) (by decide +kernel), List.mem_of_getElem? (i := 702) (by decide +kernel), List.mem_of_getElem? (i := 703) (by decide +kernel)⟩
theorem lw_p30 : lw_okq (⟨"PriceIndexCalculatorModel", "hasDirect", "(III)Z"⟩, 15) := ⟨⟨by decide +kernel, by decide +kernel⟩, List.mem_of_getElem? (i := 511) (by decide +kernel), List.mem_of_getElem? (i := 743) (by decide +kernel), List.mem_of_getElem? (i := 744) (by decide +kernel)⟩
theorem lw_p31 : lw_okq (⟨"PriceIndexCalculatorModel", "chained", "(III)F"⟩, 15) := ⟨⟨by decide +kernel, by decide +kernel⟩, List.mem_of_getElem? (i := 511) (by decide +kernel), List.mem_of_getElem? (i := 756) (by decide +kernel), List.mem_of_getElem? (i := 757) (by decide +kernel)⟩
def lw_privs_2 : List (MethodName × Nat) := [(⟨"PriceIndexCalculatorModel", "pass", "(I)V"⟩, 15), (⟨"PriceIndexCalculatorModel", "takesPart", "(I)Z"⟩, 15), (⟨"PriceIndexCalculatorModel", "oldOf", "(I)I"⟩, 15), (⟨"PriceIndexCalculatorModel", "isObserved", "(II)Z"⟩, 15), (⟨"PriceIndexCalculatorModel", "replacements", "()I"⟩, 15), (⟨"PriceIndexCalculatorModel", "find", "()V"⟩, 15), (⟨"PriceIndexCalculatorModel", "isEffective", "(II)Z"⟩, 15), (⟨"PriceIndexCalculatorModel", "effective", "(II)F"⟩, 15), (⟨"PriceIndexCalculatorModel", "observed", "(II)F"⟩, 15), (⟨"PriceIndexCalculatorModel", "movement", "(III)F"⟩, 15), (⟨"PriceIndexCalculatorModel", "begin", "()V"⟩, 15), (⟨"PriceIndexCalculatorModel", "isMatched", "(IIII)Z"⟩, 15), (⟨"PriceIndexCalculatorModel", "take", "(FF)V"⟩, 15), (⟨"PriceIndexCalculatorModel", "result", "()F"⟩, 15), (⟨"PriceIndexCalculatorModel", "hasDirect", "(III)Z"⟩, 15), (⟨"PriceIndexCalculatorModel", "chained", "(III)F"⟩, 15)]
theorem lw_r2 : ∀ q ∈ lw_privs_2, lw_okq q := List.forall_mem_cons.mpr ⟨lw_p16, List.forall_mem_cons.mpr ⟨lw_p17, List.forall_mem_cons.mpr ⟨lw_p18, List.forall_mem_cons.mpr ⟨lw_p19, List.forall_mem_cons.mpr ⟨lw_p20, List.forall_mem_cons.mpr ⟨lw_p21, List.forall_mem_cons.mpr ⟨lw_p22, List.forall_mem_cons.mpr ⟨lw_p23, List.forall_mem_cons.mpr ⟨lw_p24, List.forall_mem_cons.mpr ⟨lw_p25, List.forall_mem_cons.mpr ⟨lw_p26, List.forall_mem_cons.mpr ⟨lw_p27, List.forall_mem_cons.mpr ⟨lw_p28, List.forall_mem_cons.mpr ⟨lw_p29, List.forall_mem_cons.mpr ⟨lw_p30, List.forall_mem_cons.mpr ⟨lw_p31, fun _ h => absurd h List.not_mem_nil⟩⟩⟩⟩⟩⟩⟩⟩⟩⟩⟩⟩⟩⟩⟩⟩
theorem lw_p32 : lw_okq (⟨"PriceIndexCalculatorModel", "hasAggregate", "(II)Z"⟩, 15) := ⟨⟨by decide +kernel, by decide +kernel⟩, List.mem_of_getElem? (i := 511) (by decide +kernel), List.mem_of_getElem? (i := 769) (by decide +kernel), List.mem_of_getElem? (i := 770) (by decide +kernel)⟩
def lw_privs_3 : List (MethodName × Nat) := [(⟨"PriceIndexCalculatorModel", "hasAggregate", "(II)Z"⟩, 15)]
theorem lw_r3 : ∀ q ∈ lw_privs_3, lw_okq q := List.forall_mem_cons.mpr ⟨lw_p32, fun _ h => absurd h List.not_mem_nil⟩
def lw_privs : List (MethodName × Nat) := lw_privs_1 ++ (lw_privs_2 ++ (lw_privs_3))
def lw_tbl : List Cond := k2_sels lw_privs ++ tables_1
theorem lw_privs_ok : ∀ q ∈ lw_privs, lw_okq q := by
  show ∀ q ∈ lw_privs_1 ++ (lw_privs_2 ++ (lw_privs_3)), lw_okq q
  exact List.forall_mem_append.mpr ⟨lw_r1, List.forall_mem_append.mpr ⟨lw_r2, lw_r3⟩⟩
/-- the streams that the claim lets the run draw from -/
abbrev lw_cs : List Choice := [Jvm.Choice.named "NaN.bits"]
theorem lw_bits : nanBits ∈ lw_cs := by first | decide | exact List.mem_cons_self | simp [lw_cs, nanBits]
-- ===== end of PART A; then your names; then what follows =====
end
section
/-! ===== BEGIN words of one list among another's, by their places ===== -/
theorem goodIn_r {big : List Cond} (ws : List Cond) (ps : List Nat) (hp : ws = ps.filterMap (fun i => big[i]?)) (h : ws.all goodWord = true) : GoodIn big ws := by
  intro w hw
  have h1 := List.all_eq_true.mp h w hw
  rw [hp] at hw
  obtain ⟨i, -, hi⟩ := List.mem_filterMap.mp hw
  have hm : w ∈ big := by first | exact List.mem_of_getElem? hi | exact List.getElem?_mem hi
  exact ⟨hm, good_of_word h1⟩
theorem goodIn_app {big a b : List Cond} (ha : GoodIn big a) (hb : GoodIn big b) : GoodIn big (a ++ b) := fun w h => (List.mem_append.mp h).elim (ha w) (hb w)
theorem goodIn_ca {big a b : List Cond} {c : Cond} (ha : GoodIn big (c :: a)) (hb : GoodIn big b) : GoodIn big (c :: (a ++ b)) := fun w h => (List.mem_cons.mp h).elim (fun e => ha w (List.mem_cons.mpr (Or.inl e))) (fun h => (List.mem_append.mp h).elim (fun h => ha w (List.mem_cons.mpr (Or.inr h))) (hb w))
theorem goodIn_sub {big ws : List Cond} (hm : ∀ w ∈ ws, w ∈ big) (h : ws.all goodWord = true) : GoodIn big ws := fun w hw => ⟨hm w hw, good_of_word (List.all_eq_true.mp h w hw)⟩
/-! ===== END ===== -/

/-! ===== BEGIN printed: names, fields, word lists, decode rows ===== -/
def RX0 : String := "PriceIndexCalculator$Basket"
def TX0 : u_T := fun k => match k with
  | 0 => ("PriceIndexCalculator$Basket", "items", "I", false)
  | 1 => ("PriceIndexCalculator$Basket", "formula", "I", false)
  | 2 => ("PriceIndexCalculator$Basket", "weight", "[I", true)
  | 3 => ("PriceIndexCalculator$Basket", "stratum", "[I", true)
  | 4 => ("PriceIndexCalculator$Basket", "size", "[I", true)
  | 5 => ("PriceIndexCalculator$Basket", "seasons", "[I", true)
  | 6 => ("PriceIndexCalculator$Basket", "newItemOf", "[I", true)
  | 7 => ("PriceIndexCalculator$Basket", "oldItemOf", "[I", true)
  | 8 => ("PriceIndexCalculator$Basket", "overlap", "[I", true)
  | _ => ("PriceIndexCalculator$Basket", "quoted", "[I", true)
def tyX0 : Nat → FieldType := fun k => match k with
  | 0 => .int
  | 1 => .int
  | 2 => .array .int
  | 3 => .array .int
  | 4 => .array .int
  | 5 => .array .int
  | 6 => .array .int
  | 7 => .array .int
  | 8 => .array .int
  | _ => .array .int
abbrev wsX00 : List Cond := u_ws RX0 TX0 10
theorem nmX0 : ∀ a, a < 10 → ∀ b, b < 10 → a ≠ b → (TX0 a).2.1 ≠ (TX0 b).2.1 := by decide +kernel
theorem tyX0_ok : ∀ k, k < 10 → parseFieldDescriptor (TX0 k).2.2.1 = some (tyX0 k) := by decide +kernel
abbrev cX0_init : ByteArray := prog_2_method_1_code
def yX0_init : MethodName := ⟨RX0, "<init>", "()V"⟩
abbrev cX0_copyFrom : ByteArray := prog_2_method_2_code
def yX0_copyFrom : MethodName := ⟨RX0, "copyFrom", "(LPriceIndexCalculator$Basket;)V"⟩
abbrev cX0_append : ByteArray := prog_2_method_3_code
def yX0_append : MethodName := ⟨RX0, "append", "(III)I"⟩
abbrev cX0_isLinked : ByteArray := prog_2_method_4_code
def yX0_isLinked : MethodName := ⟨RX0, "isLinked", "(I)Z"⟩
abbrev cX0_canLink : ByteArray := prog_2_method_5_code
def yX0_canLink : MethodName := ⟨RX0, "canLink", "(III)Z"⟩
abbrev cX0_link : ByteArray := prog_2_method_6_code
def yX0_link : MethodName := ⟨RX0, "link", "(III)V"⟩
abbrev cX0_unlink : ByteArray := prog_2_method_7_code
def yX0_unlink : MethodName := ⟨RX0, "unlink", "(I)V"⟩
abbrev cX0_linkCount : ByteArray := prog_2_method_8_code
def yX0_linkCount : MethodName := ⟨RX0, "linkCount", "()I"⟩
abbrev cX0_hasObserved : ByteArray := prog_2_method_9_code
def yX0_hasObserved : MethodName := ⟨RX0, "hasObserved", "(II)Z"⟩
abbrev cX0_observed : ByteArray := prog_2_method_10_code
def yX0_observed : MethodName := ⟨RX0, "observed", "(II)F"⟩
abbrev cX0_isPricedByNewItem : ByteArray := prog_2_method_11_code
def yX0_isPricedByNewItem : MethodName := ⟨RX0, "isPricedByNewItem", "(II)Z"⟩
abbrev cX0_hasEffective : ByteArray := prog_2_method_12_code
def yX0_hasEffective : MethodName := ⟨RX0, "hasEffective", "(II)Z"⟩
abbrev cX0_effective : ByteArray := prog_2_method_13_code
def yX0_effective : MethodName := ⟨RX0, "effective", "(II)F"⟩
def RX1 : String := "PriceIndexCalculator$History"
def TX1 : u_T := fun k => match k with
  | 0 => ("PriceIndexCalculator$History", "ring", "[LPriceIndexCalculator$Basket;", true)
  | 1 => ("PriceIndexCalculator$History", "next", "I", false)
  | _ => ("PriceIndexCalculator$History", "kept", "I", false)
def tyX1 : Nat → FieldType := fun k => match k with
  | 0 => .array (.object "PriceIndexCalculator$Basket")
  | 1 => .int
  | _ => .int
abbrev wsX10 : List Cond := u_ws RX1 TX1 3
theorem nmX1 : ∀ a, a < 3 → ∀ b, b < 3 → a ≠ b → (TX1 a).2.1 ≠ (TX1 b).2.1 := by decide +kernel
theorem tyX1_ok : ∀ k, k < 3 → parseFieldDescriptor (TX1 k).2.2.1 = some (tyX1 k) := by decide +kernel
abbrev cX1_init : ByteArray := prog_3_method_1_code
def yX1_init : MethodName := ⟨RX1, "<init>", "()V"⟩
abbrev cX1_keep : ByteArray := prog_3_method_2_code
def yX1_keep : MethodName := ⟨RX1, "keep", "(LPriceIndexCalculator$Basket;)V"⟩
abbrev cX1_takeBack : ByteArray := prog_3_method_3_code
def yX1_takeBack : MethodName := ⟨RX1, "takeBack", "(LPriceIndexCalculator$Basket;)I"⟩
def RX2 : String := "PriceIndexCalculator$PriceRows"
def TX2 : u_T := fun k => match k with
  | 0 => ("PriceIndexCalculator$PriceRows", "basket", "LPriceIndexCalculator$Basket;", true)
  | 1 => ("PriceIndexCalculator$PriceRows", "exists", "[Z", true)
  | _ => ("PriceIndexCalculator$PriceRows", "price", "[F", true)
def tyX2 : Nat → FieldType := fun k => match k with
  | 0 => .object "PriceIndexCalculator$Basket"
  | 1 => .array .boolean
  | _ => .array .float
abbrev wsX20 : List Cond := u_ws RX2 TX2 3
theorem nmX2 : ∀ a, a < 3 → ∀ b, b < 3 → a ≠ b → (TX2 a).2.1 ≠ (TX2 b).2.1 := by decide +kernel
theorem tyX2_ok : ∀ k, k < 3 → parseFieldDescriptor (TX2 k).2.2.1 = some (tyX2 k) := by decide +kernel
abbrev cX2_init : ByteArray := prog_4_method_1_code
def yX2_init : MethodName := ⟨RX2, "<init>", "(LPriceIndexCalculator$Basket;)V"⟩
abbrev cX2_has : ByteArray := prog_4_method_2_code
def yX2_has : MethodName := ⟨RX2, "has", "(II)Z"⟩
abbrev cX2_get : ByteArray := prog_4_method_3_code
def yX2_get : MethodName := ⟨RX2, "get", "(II)F"⟩
abbrev cX2_put : ByteArray := prog_4_method_4_code
def yX2_put : MethodName := ⟨RX2, "put", "(IIF)V"⟩
abbrev cX2_remove : ByteArray := prog_4_method_5_code
def yX2_remove : MethodName := ⟨RX2, "remove", "(II)V"⟩
abbrev cX2_isMatched : ByteArray := prog_4_method_6_code
def yX2_isMatched : MethodName := ⟨RX2, "isMatched", "(IIII)Z"⟩
abbrev cX2_countMatched : ByteArray := prog_4_method_7_code
def yX2_countMatched : MethodName := ⟨RX2, "countMatched", "(III)I"⟩
abbrev cX2_movement : ByteArray := prog_4_method_8_code
def yX2_movement : MethodName := ⟨RX2, "movement", "(III)F"⟩
abbrev cX2_sumOfPrices : ByteArray := prog_4_method_9_code
def yX2_sumOfPrices : MethodName := ⟨RX2, "sumOfPrices", "(IIII)F"⟩
abbrev cX2_sumOfRatios : ByteArray := prog_4_method_10_code
def yX2_sumOfRatios : MethodName := ⟨RX2, "sumOfRatios", "(III)F"⟩
abbrev cX2_steepest : ByteArray := prog_4_method_11_code
def yX2_steepest : MethodName := ⟨RX2, "steepest", "(III)I"⟩
def RX3 : String := "PriceIndexCalculator$PriceTable"
def TX3 : u_T := fun k => match k with
  | 0 => ("PriceIndexCalculator$PriceTable", "effective", "LPriceIndexCalculator$PriceRows;", true)
  | 1 => ("PriceIndexCalculator$PriceTable", "known", "LPriceIndexCalculator$PriceRows;", true)
  | 2 => ("PriceIndexCalculator$PriceTable", "basket", "LPriceIndexCalculator$Basket;", true)
  | _ => ("PriceIndexCalculator$PriceTable", "fresh", "Z", false)
def tyX3 : Nat → FieldType := fun k => match k with
  | 0 => .object "PriceIndexCalculator$PriceRows"
  | 1 => .object "PriceIndexCalculator$PriceRows"
  | 2 => .object "PriceIndexCalculator$Basket"
  | _ => .boolean
abbrev wsX30 : List Cond := u_ws RX3 TX3 4
theorem nmX3 : ∀ a, a < 4 → ∀ b, b < 4 → a ≠ b → (TX3 a).2.1 ≠ (TX3 b).2.1 := by decide +kernel
theorem tyX3_ok : ∀ k, k < 4 → parseFieldDescriptor (TX3 k).2.2.1 = some (tyX3 k) := by decide +kernel
abbrev cX3_init : ByteArray := prog_5_method_1_code
def yX3_init : MethodName := ⟨RX3, "<init>", "(LPriceIndexCalculator$Basket;)V"⟩
abbrev cX3_outdate : ByteArray := prog_5_method_2_code
def yX3_outdate : MethodName := ⟨RX3, "outdate", "()V"⟩
abbrev cX3_refresh : ByteArray := prog_5_method_3_code
def yX3_refresh : MethodName := ⟨RX3, "refresh", "()V"⟩
abbrev cX3_fillEffective : ByteArray := prog_5_method_4_code
def yX3_fillEffective : MethodName := ⟨RX3, "fillEffective", "(I)V"⟩
abbrev cX3_fillKnown : ByteArray := prog_5_method_5_code
def yX3_fillKnown : MethodName := ⟨RX3, "fillKnown", "(I)V"⟩
abbrev cX3_fillKnownCell : ByteArray := prog_5_method_6_code
def yX3_fillKnownCell : MethodName := ⟨RX3, "fillKnownCell", "(IIF)V"⟩
abbrev cX3_hasImputed : ByteArray := prog_5_method_7_code
def yX3_hasImputed : MethodName := ⟨RX3, "hasImputed", "(II)Z"⟩
abbrev cX3_hasDirect : ByteArray := prog_5_method_8_code
def yX3_hasDirect : MethodName := ⟨RX3, "hasDirect", "(III)Z"⟩
abbrev cX3_direct : ByteArray := prog_5_method_9_code
def yX3_direct : MethodName := ⟨RX3, "direct", "(III)F"⟩
abbrev cX3_chained : ByteArray := prog_5_method_10_code
def yX3_chained : MethodName := ⟨RX3, "chained", "(III)F"⟩
abbrev cX3_weightOfDirect : ByteArray := prog_5_method_11_code
def yX3_weightOfDirect : MethodName := ⟨RX3, "weightOfDirect", "(II)I"⟩
abbrev cX3_aggregate : ByteArray := prog_5_method_12_code
def yX3_aggregate : MethodName := ⟨RX3, "aggregate", "(II)F"⟩
def RX4 : String := "PriceIndexCalculator$QuotationText"
def TX4 : u_T := fun k => match k with
  | 0 => ("PriceIndexCalculator$QuotationText", "item", "[I", true)
  | 1 => ("PriceIndexCalculator$QuotationText", "month", "[I", true)
  | 2 => ("PriceIndexCalculator$QuotationText", "price", "[I", true)
  | 3 => ("PriceIndexCalculator$QuotationText", "length", "I", false)
  | 4 => ("PriceIndexCalculator$QuotationText", "characters", "[I", true)
  | _ => ("PriceIndexCalculator$QuotationText", "position", "I", false)
def tyX4 : Nat → FieldType := fun k => match k with
  | 0 => .array .int
  | 1 => .array .int
  | 2 => .array .int
  | 3 => .int
  | 4 => .array .int
  | _ => .int
abbrev wsX40 : List Cond := u_ws RX4 TX4 6
theorem nmX4 : ∀ a, a < 6 → ∀ b, b < 6 → a ≠ b → (TX4 a).2.1 ≠ (TX4 b).2.1 := by decide +kernel
theorem tyX4_ok : ∀ k, k < 6 → parseFieldDescriptor (TX4 k).2.2.1 = some (tyX4 k) := by decide +kernel
abbrev cX4_init : ByteArray := prog_6_method_1_code
def yX4_init : MethodName := ⟨RX4, "<init>", "()V"⟩
abbrev cX4_append : ByteArray := prog_6_method_2_code
def yX4_append : MethodName := ⟨RX4, "append", "(I)I"⟩
abbrev cX4_clear : ByteArray := prog_6_method_3_code
def yX4_clear : MethodName := ⟨RX4, "clear", "()I"⟩
abbrev cX4_read : ByteArray := prog_6_method_4_code
def yX4_read : MethodName := ⟨RX4, "read", "(I)I"⟩
abbrev cX4_readQuotation : ByteArray := prog_6_method_5_code
def yX4_readQuotation : MethodName := ⟨RX4, "readQuotation", "(II)Z"⟩
abbrev cX4_readNumber : ByteArray := prog_6_method_6_code
def yX4_readNumber : MethodName := ⟨RX4, "readNumber", "(I)I"⟩
abbrev cX4_hasNumberForm : ByteArray := prog_6_method_7_code
def yX4_hasNumberForm : MethodName := ⟨RX4, "hasNumberForm", "(II)Z"⟩
abbrev cX4_skip : ByteArray := prog_6_method_8_code
def yX4_skip : MethodName := ⟨RX4, "skip", "(C)Z"⟩
abbrev cX4_isDigit : ByteArray := prog_6_method_9_code
def yX4_isDigit : MethodName := ⟨RX4, "isDigit", "(I)Z"⟩
def RX5 : String := "PriceIndexCalculator$Real"
def TX5 : u_T := fun k => match k with
  | _ => ("", "", "", false)
def tyX5 : Nat → FieldType := fun k => match k with
  | _ => .int
abbrev wsX50 : List Cond := u_ws RX5 TX5 0
theorem nmX5 : ∀ a, a < 0 → ∀ b, b < 0 → a ≠ b → (TX5 a).2.1 ≠ (TX5 b).2.1 := by decide +kernel
theorem tyX5_ok : ∀ k, k < 0 → parseFieldDescriptor (TX5 k).2.2.1 = some (tyX5 k) := by decide +kernel
abbrev cX5_nan : ByteArray := prog_7_method_2_code
def yX5_nan : MethodName := ⟨RX5, "nan", "()F"⟩
abbrev cX5_isNan : ByteArray := prog_7_method_3_code
def yX5_isNan : MethodName := ⟨RX5, "isNan", "(F)Z"⟩
abbrev cX5_isInfinite : ByteArray := prog_7_method_4_code
def yX5_isInfinite : MethodName := ⟨RX5, "isInfinite", "(F)Z"⟩
abbrev cX5_plus : ByteArray := prog_7_method_5_code
def yX5_plus : MethodName := ⟨RX5, "plus", "(FF)F"⟩
abbrev cX5_times : ByteArray := prog_7_method_6_code
def yX5_times : MethodName := ⟨RX5, "times", "(FF)F"⟩
abbrev cX5_over : ByteArray := prog_7_method_7_code
def yX5_over : MethodName := ⟨RX5, "over", "(FF)F"⟩
abbrev cX5_hundredths : ByteArray := prog_7_method_8_code
def yX5_hundredths : MethodName := ⟨RX5, "hundredths", "(F)I"⟩
abbrev cX5_bits : ByteArray := prog_7_method_9_code
def yX5_bits : MethodName := ⟨RX5, "bits", "(F)I"⟩
def RX6 : String := "PriceIndexCalculator"
def TX6 : u_T := fun k => match k with
  | 0 => ("PriceIndexCalculator", "basket", "LPriceIndexCalculator$Basket;", true)
  | 1 => ("PriceIndexCalculator", "history", "LPriceIndexCalculator$History;", true)
  | 2 => ("PriceIndexCalculator", "text", "LPriceIndexCalculator$QuotationText;", true)
  | _ => ("PriceIndexCalculator", "table", "LPriceIndexCalculator$PriceTable;", true)
def tyX6 : Nat → FieldType := fun k => match k with
  | 0 => .object "PriceIndexCalculator$Basket"
  | 1 => .object "PriceIndexCalculator$History"
  | 2 => .object "PriceIndexCalculator$QuotationText"
  | _ => .object "PriceIndexCalculator$PriceTable"
abbrev wsX60 : List Cond := u_ws RX6 TX6 4
theorem nmX6 : ∀ a, a < 4 → ∀ b, b < 4 → a ≠ b → (TX6 a).2.1 ≠ (TX6 b).2.1 := by decide +kernel
theorem tyX6_ok : ∀ k, k < 4 → parseFieldDescriptor (TX6 k).2.2.1 = some (tyX6 k) := by decide +kernel
abbrev cX6_init : ByteArray := prog_1_method_1_code
def yX6_init : MethodName := ⟨RX6, "<init>", "()V"⟩
abbrev cX6_addItem : ByteArray := prog_1_method_2_code
def yX6_addItem : MethodName := ⟨RX6, "addItem", "(III)I"⟩
abbrev cX6_itemCount : ByteArray := prog_1_method_3_code
def yX6_itemCount : MethodName := ⟨RX6, "itemCount", "()I"⟩
abbrev cX6_setPrice : ByteArray := prog_1_method_4_code
def yX6_setPrice : MethodName := ⟨RX6, "setPrice", "(III)I"⟩
abbrev cX6_quotedPrice : ByteArray := prog_1_method_5_code
def yX6_quotedPrice : MethodName := ⟨RX6, "quotedPrice", "(II)I"⟩
abbrev cX6_appendCharacter : ByteArray := prog_1_method_6_code
def yX6_appendCharacter : MethodName := ⟨RX6, "appendCharacter", "(I)I"⟩
abbrev cX6_clearText : ByteArray := prog_1_method_7_code
def yX6_clearText : MethodName := ⟨RX6, "clearText", "()I"⟩
abbrev cX6_importPrices : ByteArray := prog_1_method_8_code
def yX6_importPrices : MethodName := ⟨RX6, "importPrices", "()I"⟩
abbrev cX6_replaceItem : ByteArray := prog_1_method_9_code
def yX6_replaceItem : MethodName := ⟨RX6, "replaceItem", "(III)I"⟩
abbrev cX6_endReplacement : ByteArray := prog_1_method_10_code
def yX6_endReplacement : MethodName := ⟨RX6, "endReplacement", "(I)I"⟩
abbrev cX6_replacementOf : ByteArray := prog_1_method_11_code
def yX6_replacementOf : MethodName := ⟨RX6, "replacementOf", "(I)I"⟩
abbrev cX6_setWeight : ByteArray := prog_1_method_12_code
def yX6_setWeight : MethodName := ⟨RX6, "setWeight", "(II)I"⟩
abbrev cX6_setFormula : ByteArray := prog_1_method_13_code
def yX6_setFormula : MethodName := ⟨RX6, "setFormula", "(I)I"⟩
abbrev cX6_knownPriceBits : ByteArray := prog_1_method_14_code
def yX6_knownPriceBits : MethodName := ⟨RX6, "knownPriceBits", "(II)I"⟩
abbrev cX6_isImputed : ByteArray := prog_1_method_15_code
def yX6_isImputed : MethodName := ⟨RX6, "isImputed", "(II)I"⟩
abbrev cX6_imputedCount : ByteArray := prog_1_method_16_code
def yX6_imputedCount : MethodName := ⟨RX6, "imputedCount", "(I)I"⟩
abbrev cX6_matchedCount : ByteArray := prog_1_method_17_code
def yX6_matchedCount : MethodName := ⟨RX6, "matchedCount", "(III)I"⟩
abbrev cX6_movementBits : ByteArray := prog_1_method_18_code
def yX6_movementBits : MethodName := ⟨RX6, "movementBits", "(III)I"⟩
abbrev cX6_greatestRise : ByteArray := prog_1_method_19_code
def yX6_greatestRise : MethodName := ⟨RX6, "greatestRise", "(III)I"⟩
abbrev cX6_directIndex : ByteArray := prog_1_method_20_code
def yX6_directIndex : MethodName := ⟨RX6, "directIndex", "(III)I"⟩
abbrev cX6_chainedIndex : ByteArray := prog_1_method_21_code
def yX6_chainedIndex : MethodName := ⟨RX6, "chainedIndex", "(III)I"⟩
abbrev cX6_drift : ByteArray := prog_1_method_22_code
def yX6_drift : MethodName := ⟨RX6, "drift", "(III)I"⟩
abbrev cX6_aggregateIndex : ByteArray := prog_1_method_23_code
def yX6_aggregateIndex : MethodName := ⟨RX6, "aggregateIndex", "(II)I"⟩
abbrev cX6_aggregateBits : ByteArray := prog_1_method_24_code
def yX6_aggregateBits : MethodName := ⟨RX6, "aggregateBits", "(II)I"⟩
abbrev cX6_undo : ByteArray := prog_1_method_25_code
def yX6_undo : MethodName := ⟨RX6, "undo", "()I"⟩
abbrev cX6_beginEdit : ByteArray := prog_1_method_26_code
def yX6_beginEdit : MethodName := ⟨RX6, "beginEdit", "()V"⟩
abbrev cX6_isItem : ByteArray := prog_1_method_27_code
def yX6_isItem : MethodName := ⟨RX6, "isItem", "(I)Z"⟩
abbrev cX6_isStratum : ByteArray := prog_1_method_28_code
def yX6_isStratum : MethodName := ⟨RX6, "isStratum", "(I)Z"⟩
abbrev cX6_isMonth : ByteArray := prog_1_method_29_code
def yX6_isMonth : MethodName := ⟨RX6, "isMonth", "(I)Z"⟩
abbrev cX6_isWithin : ByteArray := prog_1_method_30_code
def yX6_isWithin : MethodName := ⟨RX6, "isWithin", "(III)Z"⟩
abbrev cX6_cell : ByteArray := prog_1_method_31_code
def yX6_cell : MethodName := ⟨RX6, "cell", "(II)I"⟩
def RX7 : String := "PriceIndexCalculatorModel"
def TX7 : u_T := fun k => match k with
  | 0 => ("PriceIndexCalculatorModel", "s", "[I", true)
  | 1 => ("PriceIndexCalculatorModel", "past", "[I", true)
  | 2 => ("PriceIndexCalculatorModel", "pasts", "I", false)
  | 3 => ("PriceIndexCalculatorModel", "text", "[B", true)
  | 4 => ("PriceIndexCalculatorModel", "typed", "I", false)
  | 5 => ("PriceIndexCalculatorModel", "at", "I", false)
  | 6 => ("PriceIndexCalculatorModel", "isWrong", "Z", false)
  | 7 => ("PriceIndexCalculatorModel", "quotation", "[I", true)
  | 8 => ("PriceIndexCalculatorModel", "upper", "F", false)
  | 9 => ("PriceIndexCalculatorModel", "lower", "F", false)
  | 10 => ("PriceIndexCalculatorModel", "summed", "I", false)
  | 11 => ("PriceIndexCalculatorModel", "known", "[F", true)
  | 12 => ("PriceIndexCalculatorModel", "isKnown", "[Z", true)
  | 13 => ("PriceIndexCalculatorModel", "isMade", "[Z", true)
  | _ => ("PriceIndexCalculatorModel", "found", "F", false)
def tyX7 : Nat → FieldType := fun k => match k with
  | 0 => .array .int
  | 1 => .array .int
  | 2 => .int
  | 3 => .array .byte
  | 4 => .int
  | 5 => .int
  | 6 => .boolean
  | 7 => .array .int
  | 8 => .float
  | 9 => .float
  | 10 => .int
  | 11 => .array .float
  | 12 => .array .boolean
  | 13 => .array .boolean
  | _ => .float
abbrev wsX70 : List Cond := u_ws RX7 TX7 15
theorem nmX7 : ∀ a, a < 15 → ∀ b, b < 15 → a ≠ b → (TX7 a).2.1 ≠ (TX7 b).2.1 := by decide +kernel
theorem tyX7_ok : ∀ k, k < 15 → parseFieldDescriptor (TX7 k).2.2.1 = some (tyX7 k) := by decide +kernel
abbrev cX7_init : ByteArray := prog_9_method_1_code
def yX7_init : MethodName := ⟨RX7, "<init>", "()V"⟩
abbrev cX7_in : ByteArray := prog_9_method_3_code
def yX7_in : MethodName := ⟨RX7, "in", "(III)Z"⟩
abbrev cX7_edit : ByteArray := prog_9_method_4_code
def yX7_edit : MethodName := ⟨RX7, "edit", "()V"⟩
abbrev cX7_undo : ByteArray := prog_9_method_5_code
def yX7_undo : MethodName := ⟨RX7, "undo", "()I"⟩
abbrev cX7_isItem : ByteArray := prog_9_method_6_code
def yX7_isItem : MethodName := ⟨RX7, "isItem", "(I)Z"⟩
abbrev cX7_isMonth : ByteArray := prog_9_method_7_code
def yX7_isMonth : MethodName := ⟨RX7, "isMonth", "(I)Z"⟩
abbrev cX7_isStratum : ByteArray := prog_9_method_8_code
def yX7_isStratum : MethodName := ⟨RX7, "isStratum", "(I)Z"⟩
abbrev cX7_addItem : ByteArray := prog_9_method_9_code
def yX7_addItem : MethodName := ⟨RX7, "addItem", "(III)I"⟩
abbrev cX7_itemCount : ByteArray := prog_9_method_10_code
def yX7_itemCount : MethodName := ⟨RX7, "itemCount", "()I"⟩
abbrev cX7_setPrice : ByteArray := prog_9_method_11_code
def yX7_setPrice : MethodName := ⟨RX7, "setPrice", "(III)I"⟩
abbrev cX7_quotedPrice : ByteArray := prog_9_method_12_code
def yX7_quotedPrice : MethodName := ⟨RX7, "quotedPrice", "(II)I"⟩
abbrev cX7_appendCharacter : ByteArray := prog_9_method_13_code
def yX7_appendCharacter : MethodName := ⟨RX7, "appendCharacter", "(I)I"⟩
abbrev cX7_clearText : ByteArray := prog_9_method_14_code
def yX7_clearText : MethodName := ⟨RX7, "clearText", "()I"⟩
abbrev cX7_isDigit : ByteArray := prog_9_method_15_code
def yX7_isDigit : MethodName := ⟨RX7, "isDigit", "(I)Z"⟩
abbrev cX7_number : ByteArray := prog_9_method_16_code
def yX7_number : MethodName := ⟨RX7, "number", "(I)I"⟩
abbrev cX7_pass : ByteArray := prog_9_method_17_code
def yX7_pass : MethodName := ⟨RX7, "pass", "(I)V"⟩
abbrev cX7_read : ByteArray := prog_9_method_18_code
def yX7_read : MethodName := ⟨RX7, "read", "()I"⟩
abbrev cX7_importPrices : ByteArray := prog_9_method_19_code
def yX7_importPrices : MethodName := ⟨RX7, "importPrices", "()I"⟩
abbrev cX7_oldOf : ByteArray := prog_9_method_20_code
def yX7_oldOf : MethodName := ⟨RX7, "oldOf", "(I)I"⟩
abbrev cX7_takesPart : ByteArray := prog_9_method_21_code
def yX7_takesPart : MethodName := ⟨RX7, "takesPart", "(I)Z"⟩
abbrev cX7_replacements : ByteArray := prog_9_method_22_code
def yX7_replacements : MethodName := ⟨RX7, "replacements", "()I"⟩
abbrev cX7_isObserved : ByteArray := prog_9_method_23_code
def yX7_isObserved : MethodName := ⟨RX7, "isObserved", "(II)Z"⟩
abbrev cX7_observed : ByteArray := prog_9_method_24_code
def yX7_observed : MethodName := ⟨RX7, "observed", "(II)F"⟩
abbrev cX7_replaceItem : ByteArray := prog_9_method_25_code
def yX7_replaceItem : MethodName := ⟨RX7, "replaceItem", "(III)I"⟩
abbrev cX7_endReplacement : ByteArray := prog_9_method_26_code
def yX7_endReplacement : MethodName := ⟨RX7, "endReplacement", "(I)I"⟩
abbrev cX7_replacementOf : ByteArray := prog_9_method_27_code
def yX7_replacementOf : MethodName := ⟨RX7, "replacementOf", "(I)I"⟩
abbrev cX7_setWeight : ByteArray := prog_9_method_28_code
def yX7_setWeight : MethodName := ⟨RX7, "setWeight", "(II)I"⟩
abbrev cX7_setFormula : ByteArray := prog_9_method_29_code
def yX7_setFormula : MethodName := ⟨RX7, "setFormula", "(I)I"⟩
abbrev cX7_isEffective : ByteArray := prog_9_method_30_code
def yX7_isEffective : MethodName := ⟨RX7, "isEffective", "(II)Z"⟩
abbrev cX7_effective : ByteArray := prog_9_method_31_code
def yX7_effective : MethodName := ⟨RX7, "effective", "(II)F"⟩
abbrev cX7_begin : ByteArray := prog_9_method_32_code
def yX7_begin : MethodName := ⟨RX7, "begin", "()V"⟩
abbrev cX7_take : ByteArray := prog_9_method_33_code
def yX7_take : MethodName := ⟨RX7, "take", "(FF)V"⟩
abbrev cX7_result : ByteArray := prog_9_method_34_code
def yX7_result : MethodName := ⟨RX7, "result", "()F"⟩
abbrev cX7_isMatched : ByteArray := prog_9_method_35_code
def yX7_isMatched : MethodName := ⟨RX7, "isMatched", "(IIII)Z"⟩
abbrev cX7_movement : ByteArray := prog_9_method_36_code
def yX7_movement : MethodName := ⟨RX7, "movement", "(III)F"⟩
abbrev cX7_find : ByteArray := prog_9_method_37_code
def yX7_find : MethodName := ⟨RX7, "find", "()V"⟩
abbrev cX7_knownPriceBits : ByteArray := prog_9_method_38_code
def yX7_knownPriceBits : MethodName := ⟨RX7, "knownPriceBits", "(II)I"⟩
abbrev cX7_isImputed : ByteArray := prog_9_method_39_code
def yX7_isImputed : MethodName := ⟨RX7, "isImputed", "(II)I"⟩
abbrev cX7_imputedCount : ByteArray := prog_9_method_40_code
def yX7_imputedCount : MethodName := ⟨RX7, "imputedCount", "(I)I"⟩
abbrev cX7_areThere : ByteArray := prog_9_method_41_code
def yX7_areThere : MethodName := ⟨RX7, "areThere", "(III)Z"⟩
abbrev cX7_matchedCount : ByteArray := prog_9_method_42_code
def yX7_matchedCount : MethodName := ⟨RX7, "matchedCount", "(III)I"⟩
abbrev cX7_movementBits : ByteArray := prog_9_method_43_code
def yX7_movementBits : MethodName := ⟨RX7, "movementBits", "(III)I"⟩
abbrev cX7_greatestRise : ByteArray := prog_9_method_44_code
def yX7_greatestRise : MethodName := ⟨RX7, "greatestRise", "(III)I"⟩
abbrev cX7_hundredths : ByteArray := prog_9_method_45_code
def yX7_hundredths : MethodName := ⟨RX7, "hundredths", "(F)I"⟩
abbrev cX7_hasDirect : ByteArray := prog_9_method_46_code
def yX7_hasDirect : MethodName := ⟨RX7, "hasDirect", "(III)Z"⟩
abbrev cX7_directIndex : ByteArray := prog_9_method_47_code
def yX7_directIndex : MethodName := ⟨RX7, "directIndex", "(III)I"⟩
abbrev cX7_chained : ByteArray := prog_9_method_48_code
def yX7_chained : MethodName := ⟨RX7, "chained", "(III)F"⟩
abbrev cX7_chainedIndex : ByteArray := prog_9_method_49_code
def yX7_chainedIndex : MethodName := ⟨RX7, "chainedIndex", "(III)I"⟩
abbrev cX7_drift : ByteArray := prog_9_method_50_code
def yX7_drift : MethodName := ⟨RX7, "drift", "(III)I"⟩
abbrev cX7_hasAggregate : ByteArray := prog_9_method_51_code
def yX7_hasAggregate : MethodName := ⟨RX7, "hasAggregate", "(II)Z"⟩
abbrev cX7_aggregateIndex : ByteArray := prog_9_method_52_code
def yX7_aggregateIndex : MethodName := ⟨RX7, "aggregateIndex", "(II)I"⟩
abbrev cX7_aggregateBits : ByteArray := prog_9_method_53_code
def yX7_aggregateBits : MethodName := ⟨RX7, "aggregateBits", "(II)I"⟩
def RJxf58ca : String := "java/lang/Float"
def TJxf58ca : u_T := fun k => match k with
  | _ => ("", "", "", false)
def tyJxf58ca : Nat → FieldType := fun k => match k with
  | _ => .int
abbrev wsJxf58ca0 : List Cond := u_ws RJxf58ca TJxf58ca 0
theorem nmJxf58ca : ∀ a, a < 0 → ∀ b, b < 0 → a ≠ b → (TJxf58ca a).2.1 ≠ (TJxf58ca b).2.1 := by decide +kernel
theorem tyJxf58ca_ok : ∀ k, k < 0 → parseFieldDescriptor (TJxf58ca k).2.2.1 = some (tyJxf58ca k) := by decide +kernel
abbrev cJxf58ca_isNaN_12338 : ByteArray := prog_10_method_6_code
def yJxf58ca_isNaN_12338 : MethodName := ⟨RJxf58ca, "isNaN", "(F)Z"⟩
abbrev cJxf58ca_floatToIntBits_5c35a : ByteArray := prog_10_method_24_code
def yJxf58ca_floatToIntBits_5c35a : MethodName := ⟨RJxf58ca, "floatToIntBits", "(F)I"⟩
def RJ10 : String := "java/lang/System"
def TJ10 : u_T := fun k => match k with
  | _ => ("", "", "", false)
def tyJ10 : Nat → FieldType := fun k => match k with
  | _ => .int
abbrev wsJ100 : List Cond := u_ws RJ10 TJ10 0
theorem nmJ10 : ∀ a, a < 0 → ∀ b, b < 0 → a ≠ b → (TJ10 a).2.1 ≠ (TJ10 b).2.1 := by decide +kernel
theorem tyJ10_ok : ∀ k, k < 0 → parseFieldDescriptor (TJ10 k).2.2.1 = some (tyJ10 k) := by decide +kernel
def RL : String := "PriceIndexCalculatorLaw"
abbrev cL_law : ByteArray := code
def yL_law : MethodName := ⟨RL, "law", "([I)Z"⟩
def wsX0_init : List Cond := .code yX0_init cX0_init 2 none :: ([.methodLink RX0 3 objectInit, .instanceMethod objectInit, .code objectInit ⟨#[0xb1]⟩ 1 none, .arrayClass .int, .fieldLink RX0 9 "PriceIndexCalculator$Basket" "weight" "[I", .fieldLink RX0 15 "PriceIndexCalculator$Basket" "stratum" "[I", .fieldLink RX0 18 "PriceIndexCalculator$Basket" "size" "[I", .fieldLink RX0 21 "PriceIndexCalculator$Basket" "seasons" "[I", .fieldLink RX0 24 "PriceIndexCalculator$Basket" "newItemOf" "[I", .fieldLink RX0 27 "PriceIndexCalculator$Basket" "oldItemOf" "[I", .fieldLink RX0 30 "PriceIndexCalculator$Basket" "overlap" "[I", .fieldLink RX0 33 "PriceIndexCalculator$Basket" "quoted" "[I"] ++ wsX00)
def wsX0_copyFrom : List Cond := .code yX0_copyFrom cX0_copyFrom 2 none :: ([.fieldLink RX0 36 "PriceIndexCalculator$Basket" "items" "I", .fieldLink RX0 40 "PriceIndexCalculator$Basket" "formula" "I", .fieldLink RX0 9 "PriceIndexCalculator$Basket" "weight" "[I", .methodLink RX0 43 arraycopyName, .native arraycopyName, .static arraycopyName, .initialized "java/lang/System", .fieldLink RX0 15 "PriceIndexCalculator$Basket" "stratum" "[I", .fieldLink RX0 18 "PriceIndexCalculator$Basket" "size" "[I", .fieldLink RX0 21 "PriceIndexCalculator$Basket" "seasons" "[I", .fieldLink RX0 24 "PriceIndexCalculator$Basket" "newItemOf" "[I", .fieldLink RX0 27 "PriceIndexCalculator$Basket" "oldItemOf" "[I", .fieldLink RX0 30 "PriceIndexCalculator$Basket" "overlap" "[I", .fieldLink RX0 33 "PriceIndexCalculator$Basket" "quoted" "[I"] ++ wsX00)
def wsX0_append : List Cond := .code yX0_append cX0_append 5 (some .int) :: ([.fieldLink RX0 36 "PriceIndexCalculator$Basket" "items" "I", .fieldLink RX0 15 "PriceIndexCalculator$Basket" "stratum" "[I", .fieldLink RX0 18 "PriceIndexCalculator$Basket" "size" "[I", .fieldLink RX0 21 "PriceIndexCalculator$Basket" "seasons" "[I"] ++ wsX00)
def wsX0_isLinked : List Cond := .code yX0_isLinked cX0_isLinked 2 (some .boolean) :: ([.fieldLink RX0 24 "PriceIndexCalculator$Basket" "newItemOf" "[I", .fieldLink RX0 27 "PriceIndexCalculator$Basket" "oldItemOf" "[I"] ++ wsX00)
def wsX6_cell : List Cond := .code yX6_cell cX6_cell 2 (some .int) :: ([])
def wsX0_hasObserved : List Cond := .code yX0_hasObserved cX0_hasObserved 4 (some .boolean) :: ([.fieldLink RX0 21 "PriceIndexCalculator$Basket" "seasons" "[I", .fieldLink RX0 33 "PriceIndexCalculator$Basket" "quoted" "[I", .static yX6_cell, .initialized RX6, .code yX6_cell cX6_cell 2 (some .int)] ++ wsX00)
def wsX0_canLink : List Cond := .code yX0_canLink cX0_canLink 4 (some .boolean) :: ([.fieldLink RX0 15 "PriceIndexCalculator$Basket" "stratum" "[I", .methodLink RX0 49 yX0_isLinked, .instanceMethod yX0_isLinked, .selects RX0 yX0_isLinked yX0_isLinked, .initialized RX0, .code yX0_isLinked cX0_isLinked 2 (some .boolean), .fieldLink RX0 24 "PriceIndexCalculator$Basket" "newItemOf" "[I", .fieldLink RX0 27 "PriceIndexCalculator$Basket" "oldItemOf" "[I", .methodLink RX0 53 yX0_hasObserved, .instanceMethod yX0_hasObserved, .selects RX0 yX0_hasObserved yX0_hasObserved, .code yX0_hasObserved cX0_hasObserved 4 (some .boolean), .fieldLink RX0 21 "PriceIndexCalculator$Basket" "seasons" "[I", .fieldLink RX0 33 "PriceIndexCalculator$Basket" "quoted" "[I", .static yX6_cell, .initialized RX6, .code yX6_cell cX6_cell 2 (some .int)] ++ wsX00)
def wsX0_link : List Cond := .code yX0_link cX0_link 4 none :: ([.fieldLink RX0 24 "PriceIndexCalculator$Basket" "newItemOf" "[I", .fieldLink RX0 27 "PriceIndexCalculator$Basket" "oldItemOf" "[I", .fieldLink RX0 30 "PriceIndexCalculator$Basket" "overlap" "[I"] ++ wsX00)
def wsX0_unlink : List Cond := .code yX0_unlink cX0_unlink 4 none :: ([.fieldLink RX0 27 "PriceIndexCalculator$Basket" "oldItemOf" "[I", .fieldLink RX0 24 "PriceIndexCalculator$Basket" "newItemOf" "[I"] ++ wsX00)
def wsX0_linkCount : List Cond := .code yX0_linkCount cX0_linkCount 3 (some .int) :: ([.fieldLink RX0 36 "PriceIndexCalculator$Basket" "items" "I", .fieldLink RX0 24 "PriceIndexCalculator$Basket" "newItemOf" "[I"] ++ wsX00)
def wsX5_isNan : List Cond := .code yX5_isNan cX5_isNan 1 (some .boolean) :: ([])
def wsX5_isInfinite : List Cond := .code yX5_isInfinite cX5_isInfinite 1 (some .boolean) :: ([.constantFloat RX5 8 (2139095039)])
def wsX5_nan : List Cond := .code yX5_nan cX5_nan 0 (some .float) :: ([.constantFloat RX5 7 (3212836864)])
def wsX5_over : List Cond := .code yX5_over cX5_over 2 (some .float) :: ([.methodLink RX5 9 yX5_isNan, .static yX5_isNan, .initialized RX5, .code yX5_isNan cX5_isNan 1 (some .boolean), .methodLink RX5 19 yX5_isInfinite, .static yX5_isInfinite, .code yX5_isInfinite cX5_isInfinite 1 (some .boolean), .constantFloat RX5 8 (2139095039), .methodLink RX5 15 yX5_nan, .static yX5_nan, .code yX5_nan cX5_nan 0 (some .float), .constantFloat RX5 7 (3212836864)])
def wsX0_observed : List Cond := .code yX0_observed cX0_observed 3 (some .float) :: ([.fieldLink RX0 33 "PriceIndexCalculator$Basket" "quoted" "[I", .fieldLink RX0 18 "PriceIndexCalculator$Basket" "size" "[I", .static yX6_cell, .initialized RX6, .code yX6_cell cX6_cell 2 (some .int), .methodLink RX0 61 yX5_over, .static yX5_over, .initialized RX5, .code yX5_over cX5_over 2 (some .float), .methodLink RX5 9 yX5_isNan, .static yX5_isNan, .code yX5_isNan cX5_isNan 1 (some .boolean), .methodLink RX5 19 yX5_isInfinite, .static yX5_isInfinite, .code yX5_isInfinite cX5_isInfinite 1 (some .boolean), .constantFloat RX5 8 (2139095039), .methodLink RX5 15 yX5_nan, .static yX5_nan, .code yX5_nan cX5_nan 0 (some .float), .constantFloat RX5 7 (3212836864)] ++ wsX00)
def wsX0_isPricedByNewItem : List Cond := .code yX0_isPricedByNewItem cX0_isPricedByNewItem 3 (some .boolean) :: ([.fieldLink RX0 24 "PriceIndexCalculator$Basket" "newItemOf" "[I", .fieldLink RX0 30 "PriceIndexCalculator$Basket" "overlap" "[I"] ++ wsX00)
def wsX0_hasEffective : List Cond := .code yX0_hasEffective cX0_hasEffective 4 (some .boolean) :: ([.fieldLink RX0 27 "PriceIndexCalculator$Basket" "oldItemOf" "[I", .fieldLink RX0 24 "PriceIndexCalculator$Basket" "newItemOf" "[I", .fieldLink RX0 30 "PriceIndexCalculator$Basket" "overlap" "[I", .methodLink RX0 67 yX0_isPricedByNewItem, .instanceMethod yX0_isPricedByNewItem, .selects RX0 yX0_isPricedByNewItem yX0_isPricedByNewItem, .initialized RX0, .code yX0_isPricedByNewItem cX0_isPricedByNewItem 3 (some .boolean), .methodLink RX0 53 yX0_hasObserved, .instanceMethod yX0_hasObserved, .selects RX0 yX0_hasObserved yX0_hasObserved, .code yX0_hasObserved cX0_hasObserved 4 (some .boolean), .fieldLink RX0 21 "PriceIndexCalculator$Basket" "seasons" "[I", .fieldLink RX0 33 "PriceIndexCalculator$Basket" "quoted" "[I", .static yX6_cell, .initialized RX6, .code yX6_cell cX6_cell 2 (some .int)] ++ wsX00)
def wsX5_times : List Cond := .code yX5_times cX5_times 2 (some .float) :: ([.methodLink RX5 9 yX5_isNan, .static yX5_isNan, .initialized RX5, .code yX5_isNan cX5_isNan 1 (some .boolean), .methodLink RX5 19 yX5_isInfinite, .static yX5_isInfinite, .code yX5_isInfinite cX5_isInfinite 1 (some .boolean), .constantFloat RX5 8 (2139095039), .methodLink RX5 15 yX5_nan, .static yX5_nan, .code yX5_nan cX5_nan 0 (some .float), .constantFloat RX5 7 (3212836864)])
def wsX0_effective_r1 : List Cond := [Cond.fieldLink RX0 24 "PriceIndexCalculator$Basket" "newItemOf" "[I", Cond.fieldLink RX0 30 "PriceIndexCalculator$Basket" "overlap" "[I", Cond.methodLink RX0 67 yX0_isPricedByNewItem, Cond.instanceMethod yX0_isPricedByNewItem, Cond.selects RX0 yX0_isPricedByNewItem yX0_isPricedByNewItem, Cond.initialized RX0, Cond.code yX0_isPricedByNewItem cX0_isPricedByNewItem 3 (some .boolean), Cond.methodLink RX0 70 yX0_observed, Cond.instanceMethod yX0_observed, Cond.selects RX0 yX0_observed yX0_observed, Cond.code yX0_observed cX0_observed 3 (some .float), Cond.fieldLink RX0 33 "PriceIndexCalculator$Basket" "quoted" "[I", Cond.fieldLink RX0 18 "PriceIndexCalculator$Basket" "size" "[I", Cond.static yX6_cell, Cond.initialized RX6, Cond.code yX6_cell cX6_cell 2 (some .int), Cond.methodLink RX0 61 yX5_over, Cond.static yX5_over, Cond.initialized RX5, Cond.code yX5_over cX5_over 2 (some .float), Cond.methodLink RX5 9 yX5_isNan, Cond.static yX5_isNan, Cond.code yX5_isNan cX5_isNan 1 (some .boolean), Cond.methodLink RX5 19 yX5_isInfinite]
def wsX0_effective_r2 : List Cond := [Cond.static yX5_isInfinite, Cond.code yX5_isInfinite cX5_isInfinite 1 (some .boolean), Cond.constantFloat RX5 8 (2139095039), Cond.methodLink RX5 15 yX5_nan, Cond.static yX5_nan, Cond.code yX5_nan cX5_nan 0 (some .float), Cond.constantFloat RX5 7 (3212836864), Cond.methodLink RX0 74 yX5_times, Cond.static yX5_times, Cond.code yX5_times cX5_times 2 (some .float)]
def wsX0_effective : List Cond := .code yX0_effective cX0_effective 5 (some .float) :: ((wsX0_effective_r1 ++ wsX0_effective_r2) ++ wsX00)
def wsX1_init : List Cond := .code yX1_init cX1_init 2 none :: ([.methodLink RX1 3 objectInit, .instanceMethod objectInit, .code objectInit ⟨#[0xb1]⟩ 1 none, .classLink RX1 9 RX0, .fieldLink RX1 11 "PriceIndexCalculator$History" "ring" "[LPriceIndexCalculator$Basket;", .instantiable RX0 10, .initialized RX0, .methodLink RX1 17 yX0_init, .instanceMethod yX0_init, .code yX0_init cX0_init 2 none, .methodLink RX0 3 objectInit, .arrayClass .int, .fieldLink RX0 9 "PriceIndexCalculator$Basket" "weight" "[I", .fieldLink RX0 15 "PriceIndexCalculator$Basket" "stratum" "[I", .fieldLink RX0 18 "PriceIndexCalculator$Basket" "size" "[I", .fieldLink RX0 21 "PriceIndexCalculator$Basket" "seasons" "[I", .fieldLink RX0 24 "PriceIndexCalculator$Basket" "newItemOf" "[I", .fieldLink RX0 27 "PriceIndexCalculator$Basket" "oldItemOf" "[I", .fieldLink RX0 30 "PriceIndexCalculator$Basket" "overlap" "[I", .fieldLink RX0 33 "PriceIndexCalculator$Basket" "quoted" "[I"] ++ wsX10 ++ wsX00)
def wsX1_keep : List Cond := .code yX1_keep cX1_keep 3 none :: ([.fieldLink RX1 11 "PriceIndexCalculator$History" "ring" "[LPriceIndexCalculator$Basket;", .fieldLink RX1 18 "PriceIndexCalculator$History" "next" "I", .fieldLink RX1 26 "PriceIndexCalculator$History" "kept" "I", .methodLink RX1 22 yX0_copyFrom, .instanceMethod yX0_copyFrom, .selects RX0 yX0_copyFrom yX0_copyFrom, .initialized RX0, .code yX0_copyFrom cX0_copyFrom 2 none, .fieldLink RX0 36 "PriceIndexCalculator$Basket" "items" "I", .fieldLink RX0 40 "PriceIndexCalculator$Basket" "formula" "I", .fieldLink RX0 9 "PriceIndexCalculator$Basket" "weight" "[I", .methodLink RX0 43 arraycopyName, .native arraycopyName, .static arraycopyName, .initialized "java/lang/System", .fieldLink RX0 15 "PriceIndexCalculator$Basket" "stratum" "[I", .fieldLink RX0 18 "PriceIndexCalculator$Basket" "size" "[I", .fieldLink RX0 21 "PriceIndexCalculator$Basket" "seasons" "[I", .fieldLink RX0 24 "PriceIndexCalculator$Basket" "newItemOf" "[I", .fieldLink RX0 27 "PriceIndexCalculator$Basket" "oldItemOf" "[I", .fieldLink RX0 30 "PriceIndexCalculator$Basket" "overlap" "[I", .fieldLink RX0 33 "PriceIndexCalculator$Basket" "quoted" "[I"] ++ wsX10 ++ wsX00)
def wsX1_takeBack : List Cond := .code yX1_takeBack cX1_takeBack 3 (some .int) :: ([.fieldLink RX1 18 "PriceIndexCalculator$History" "next" "I", .fieldLink RX1 26 "PriceIndexCalculator$History" "kept" "I", .fieldLink RX1 11 "PriceIndexCalculator$History" "ring" "[LPriceIndexCalculator$Basket;", .methodLink RX1 22 yX0_copyFrom, .instanceMethod yX0_copyFrom, .selects RX0 yX0_copyFrom yX0_copyFrom, .initialized RX0, .code yX0_copyFrom cX0_copyFrom 2 none, .fieldLink RX0 36 "PriceIndexCalculator$Basket" "items" "I", .fieldLink RX0 40 "PriceIndexCalculator$Basket" "formula" "I", .fieldLink RX0 9 "PriceIndexCalculator$Basket" "weight" "[I", .methodLink RX0 43 arraycopyName, .native arraycopyName, .static arraycopyName, .initialized "java/lang/System", .fieldLink RX0 15 "PriceIndexCalculator$Basket" "stratum" "[I", .fieldLink RX0 18 "PriceIndexCalculator$Basket" "size" "[I", .fieldLink RX0 21 "PriceIndexCalculator$Basket" "seasons" "[I", .fieldLink RX0 24 "PriceIndexCalculator$Basket" "newItemOf" "[I", .fieldLink RX0 27 "PriceIndexCalculator$Basket" "oldItemOf" "[I", .fieldLink RX0 30 "PriceIndexCalculator$Basket" "overlap" "[I", .fieldLink RX0 33 "PriceIndexCalculator$Basket" "quoted" "[I"] ++ wsX10 ++ wsX00)
def wsX2_init : List Cond := .code yX2_init cX2_init 2 none :: ([.methodLink RX2 3 objectInit, .instanceMethod objectInit, .code objectInit ⟨#[0xb1]⟩ 1 none, .arrayClass .boolean, .fieldLink RX2 9 "PriceIndexCalculator$PriceRows" "exists" "[Z", .arrayClass .float, .fieldLink RX2 15 "PriceIndexCalculator$PriceRows" "price" "[F", .fieldLink RX2 19 "PriceIndexCalculator$PriceRows" "basket" "LPriceIndexCalculator$Basket;"] ++ wsX20)
def wsX2_has : List Cond := .code yX2_has cX2_has 3 (some .boolean) :: ([.fieldLink RX2 9 "PriceIndexCalculator$PriceRows" "exists" "[Z", .static yX6_cell, .initialized RX6, .code yX6_cell cX6_cell 2 (some .int)] ++ wsX20)
def wsX2_get : List Cond := .code yX2_get cX2_get 3 (some .float) :: ([.fieldLink RX2 15 "PriceIndexCalculator$PriceRows" "price" "[F", .static yX6_cell, .initialized RX6, .code yX6_cell cX6_cell 2 (some .int)] ++ wsX20)
def wsX2_put : List Cond := .code yX2_put cX2_put 4 none :: ([.fieldLink RX2 9 "PriceIndexCalculator$PriceRows" "exists" "[Z", .fieldLink RX2 15 "PriceIndexCalculator$PriceRows" "price" "[F", .static yX6_cell, .initialized RX6, .code yX6_cell cX6_cell 2 (some .int)] ++ wsX20)
def wsX2_remove : List Cond := .code yX2_remove cX2_remove 3 none :: ([.fieldLink RX2 9 "PriceIndexCalculator$PriceRows" "exists" "[Z", .static yX6_cell, .initialized RX6, .code yX6_cell cX6_cell 2 (some .int)] ++ wsX20)
def wsX2_isMatched : List Cond := .code yX2_isMatched cX2_isMatched 5 (some .boolean) :: ([.fieldLink RX2 19 "PriceIndexCalculator$PriceRows" "basket" "LPriceIndexCalculator$Basket;", .fieldLink RX2 27 "PriceIndexCalculator$Basket" "stratum" "[I", .fieldLink RX2 9 "PriceIndexCalculator$PriceRows" "exists" "[Z", .static yX6_cell, .initialized RX6, .code yX6_cell cX6_cell 2 (some .int)] ++ wsX20 ++ wsX00)
def wsX2_countMatched : List Cond := .code yX2_countMatched cX2_countMatched 6 (some .int) :: ([.fieldLink RX2 19 "PriceIndexCalculator$PriceRows" "basket" "LPriceIndexCalculator$Basket;", .fieldLink RX2 33 "PriceIndexCalculator$Basket" "items" "I", .methodLink RX2 37 yX2_isMatched, .instanceMethod yX2_isMatched, .selects RX2 yX2_isMatched yX2_isMatched, .initialized RX2, .code yX2_isMatched cX2_isMatched 5 (some .boolean), .fieldLink RX2 27 "PriceIndexCalculator$Basket" "stratum" "[I", .fieldLink RX2 9 "PriceIndexCalculator$PriceRows" "exists" "[Z", .static yX6_cell, .initialized RX6, .code yX6_cell cX6_cell 2 (some .int)] ++ wsX20 ++ wsX00)
def wsX5_plus : List Cond := .code yX5_plus cX5_plus 2 (some .float) :: ([.methodLink RX5 9 yX5_isNan, .static yX5_isNan, .initialized RX5, .code yX5_isNan cX5_isNan 1 (some .boolean), .methodLink RX5 15 yX5_nan, .static yX5_nan, .code yX5_nan cX5_nan 0 (some .float), .constantFloat RX5 7 (3212836864)])
def wsX2_sumOfPrices_r1 : List Cond := [Cond.fieldLink RX2 19 "PriceIndexCalculator$PriceRows" "basket" "LPriceIndexCalculator$Basket;", Cond.fieldLink RX2 33 "PriceIndexCalculator$Basket" "items" "I", Cond.methodLink RX2 37 yX2_isMatched, Cond.instanceMethod yX2_isMatched, Cond.selects RX2 yX2_isMatched yX2_isMatched, Cond.initialized RX2, Cond.code yX2_isMatched cX2_isMatched 5 (some .boolean), Cond.fieldLink RX2 27 "PriceIndexCalculator$Basket" "stratum" "[I", Cond.fieldLink RX2 9 "PriceIndexCalculator$PriceRows" "exists" "[Z", Cond.static yX6_cell, Cond.initialized RX6, Cond.code yX6_cell cX6_cell 2 (some .int), Cond.methodLink RX2 62 yX2_get, Cond.instanceMethod yX2_get, Cond.selects RX2 yX2_get yX2_get, Cond.code yX2_get cX2_get 3 (some .float), Cond.fieldLink RX2 15 "PriceIndexCalculator$PriceRows" "price" "[F", Cond.methodLink RX2 66 yX5_plus, Cond.static yX5_plus, Cond.initialized RX5, Cond.code yX5_plus cX5_plus 2 (some .float), Cond.methodLink RX5 9 yX5_isNan, Cond.static yX5_isNan, Cond.code yX5_isNan cX5_isNan 1 (some .boolean)]
def wsX2_sumOfPrices_r2 : List Cond := [Cond.methodLink RX5 15 yX5_nan, Cond.static yX5_nan, Cond.code yX5_nan cX5_nan 0 (some .float), Cond.constantFloat RX5 7 (3212836864)]
def wsX2_sumOfPrices : List Cond := .code yX2_sumOfPrices cX2_sumOfPrices 7 (some .float) :: ((wsX2_sumOfPrices_r1 ++ wsX2_sumOfPrices_r2) ++ wsX20 ++ wsX00)
def wsX2_sumOfRatios_r1 : List Cond := [Cond.fieldLink RX2 19 "PriceIndexCalculator$PriceRows" "basket" "LPriceIndexCalculator$Basket;", Cond.fieldLink RX2 33 "PriceIndexCalculator$Basket" "items" "I", Cond.methodLink RX2 37 yX2_isMatched, Cond.instanceMethod yX2_isMatched, Cond.selects RX2 yX2_isMatched yX2_isMatched, Cond.initialized RX2, Cond.code yX2_isMatched cX2_isMatched 5 (some .boolean), Cond.fieldLink RX2 27 "PriceIndexCalculator$Basket" "stratum" "[I", Cond.fieldLink RX2 9 "PriceIndexCalculator$PriceRows" "exists" "[Z", Cond.static yX6_cell, Cond.initialized RX6, Cond.code yX6_cell cX6_cell 2 (some .int), Cond.methodLink RX2 62 yX2_get, Cond.instanceMethod yX2_get, Cond.selects RX2 yX2_get yX2_get, Cond.code yX2_get cX2_get 3 (some .float), Cond.fieldLink RX2 15 "PriceIndexCalculator$PriceRows" "price" "[F", Cond.methodLink RX2 52 yX5_over, Cond.static yX5_over, Cond.initialized RX5, Cond.code yX5_over cX5_over 2 (some .float), Cond.methodLink RX5 9 yX5_isNan, Cond.static yX5_isNan, Cond.code yX5_isNan cX5_isNan 1 (some .boolean)]
def wsX2_sumOfRatios_r2 : List Cond := [Cond.methodLink RX5 19 yX5_isInfinite, Cond.static yX5_isInfinite, Cond.code yX5_isInfinite cX5_isInfinite 1 (some .boolean), Cond.constantFloat RX5 8 (2139095039), Cond.methodLink RX5 15 yX5_nan, Cond.static yX5_nan, Cond.code yX5_nan cX5_nan 0 (some .float), Cond.constantFloat RX5 7 (3212836864), Cond.methodLink RX2 66 yX5_plus, Cond.static yX5_plus, Cond.code yX5_plus cX5_plus 2 (some .float)]
def wsX2_sumOfRatios : List Cond := .code yX2_sumOfRatios cX2_sumOfRatios 6 (some .float) :: ((wsX2_sumOfRatios_r1 ++ wsX2_sumOfRatios_r2) ++ wsX20 ++ wsX00)
def wsX2_movement_r1 : List Cond := [Cond.fieldLink RX2 19 "PriceIndexCalculator$PriceRows" "basket" "LPriceIndexCalculator$Basket;", Cond.fieldLink RX2 45 "PriceIndexCalculator$Basket" "formula" "I", Cond.methodLink RX2 41 yX2_countMatched, Cond.instanceMethod yX2_countMatched, Cond.selects RX2 yX2_countMatched yX2_countMatched, Cond.initialized RX2, Cond.code yX2_countMatched cX2_countMatched 6 (some .int), Cond.fieldLink RX2 33 "PriceIndexCalculator$Basket" "items" "I", Cond.methodLink RX2 37 yX2_isMatched, Cond.instanceMethod yX2_isMatched, Cond.selects RX2 yX2_isMatched yX2_isMatched, Cond.code yX2_isMatched cX2_isMatched 5 (some .boolean), Cond.fieldLink RX2 27 "PriceIndexCalculator$Basket" "stratum" "[I", Cond.fieldLink RX2 9 "PriceIndexCalculator$PriceRows" "exists" "[Z", Cond.static yX6_cell, Cond.initialized RX6, Cond.code yX6_cell cX6_cell 2 (some .int), Cond.methodLink RX2 48 yX2_sumOfPrices, Cond.instanceMethod yX2_sumOfPrices, Cond.selects RX2 yX2_sumOfPrices yX2_sumOfPrices, Cond.code yX2_sumOfPrices cX2_sumOfPrices 7 (some .float), Cond.methodLink RX2 62 yX2_get, Cond.instanceMethod yX2_get, Cond.selects RX2 yX2_get yX2_get]
def wsX2_movement_r2 : List Cond := [Cond.code yX2_get cX2_get 3 (some .float), Cond.fieldLink RX2 15 "PriceIndexCalculator$PriceRows" "price" "[F", Cond.methodLink RX2 66 yX5_plus, Cond.static yX5_plus, Cond.initialized RX5, Cond.code yX5_plus cX5_plus 2 (some .float), Cond.methodLink RX5 9 yX5_isNan, Cond.static yX5_isNan, Cond.code yX5_isNan cX5_isNan 1 (some .boolean), Cond.methodLink RX5 15 yX5_nan, Cond.static yX5_nan, Cond.code yX5_nan cX5_nan 0 (some .float), Cond.constantFloat RX5 7 (3212836864), Cond.methodLink RX2 52 yX5_over, Cond.static yX5_over, Cond.code yX5_over cX5_over 2 (some .float), Cond.methodLink RX5 19 yX5_isInfinite, Cond.static yX5_isInfinite, Cond.code yX5_isInfinite cX5_isInfinite 1 (some .boolean), Cond.constantFloat RX5 8 (2139095039), Cond.methodLink RX2 58 yX2_sumOfRatios, Cond.instanceMethod yX2_sumOfRatios, Cond.selects RX2 yX2_sumOfRatios yX2_sumOfRatios, Cond.code yX2_sumOfRatios cX2_sumOfRatios 6 (some .float)]
def wsX2_movement : List Cond := .code yX2_movement cX2_movement 5 (some .float) :: ((wsX2_movement_r1 ++ wsX2_movement_r2) ++ wsX20 ++ wsX00)
def wsX2_steepest_r1 : List Cond := [Cond.fieldLink RX2 19 "PriceIndexCalculator$PriceRows" "basket" "LPriceIndexCalculator$Basket;", Cond.fieldLink RX2 33 "PriceIndexCalculator$Basket" "items" "I", Cond.methodLink RX2 37 yX2_isMatched, Cond.instanceMethod yX2_isMatched, Cond.selects RX2 yX2_isMatched yX2_isMatched, Cond.initialized RX2, Cond.code yX2_isMatched cX2_isMatched 5 (some .boolean), Cond.fieldLink RX2 27 "PriceIndexCalculator$Basket" "stratum" "[I", Cond.fieldLink RX2 9 "PriceIndexCalculator$PriceRows" "exists" "[Z", Cond.static yX6_cell, Cond.initialized RX6, Cond.code yX6_cell cX6_cell 2 (some .int), Cond.methodLink RX2 62 yX2_get, Cond.instanceMethod yX2_get, Cond.selects RX2 yX2_get yX2_get, Cond.code yX2_get cX2_get 3 (some .float), Cond.fieldLink RX2 15 "PriceIndexCalculator$PriceRows" "price" "[F", Cond.methodLink RX2 52 yX5_over, Cond.static yX5_over, Cond.initialized RX5, Cond.code yX5_over cX5_over 2 (some .float), Cond.methodLink RX5 9 yX5_isNan, Cond.static yX5_isNan, Cond.code yX5_isNan cX5_isNan 1 (some .boolean)]
def wsX2_steepest_r2 : List Cond := [Cond.methodLink RX5 19 yX5_isInfinite, Cond.static yX5_isInfinite, Cond.code yX5_isInfinite cX5_isInfinite 1 (some .boolean), Cond.constantFloat RX5 8 (2139095039), Cond.methodLink RX5 15 yX5_nan, Cond.static yX5_nan, Cond.code yX5_nan cX5_nan 0 (some .float), Cond.constantFloat RX5 7 (3212836864)]
def wsX2_steepest : List Cond := .code yX2_steepest cX2_steepest 8 (some .int) :: ((wsX2_steepest_r1 ++ wsX2_steepest_r2) ++ wsX20 ++ wsX00)
def wsX3_init : List Cond := .code yX3_init cX3_init 2 none :: ([.methodLink RX3 3 objectInit, .instanceMethod objectInit, .code objectInit ⟨#[0xb1]⟩ 1 none, .fieldLink RX3 9 "PriceIndexCalculator$PriceTable" "basket" "LPriceIndexCalculator$Basket;", .classLink RX3 15 RX2, .instantiable RX2 3, .initialized RX2, .fieldLink RX3 20 "PriceIndexCalculator$PriceTable" "effective" "LPriceIndexCalculator$PriceRows;", .fieldLink RX3 24 "PriceIndexCalculator$PriceTable" "known" "LPriceIndexCalculator$PriceRows;", .methodLink RX3 17 yX2_init, .instanceMethod yX2_init, .code yX2_init cX2_init 2 none, .methodLink RX2 3 objectInit, .arrayClass .boolean, .fieldLink RX2 9 "PriceIndexCalculator$PriceRows" "exists" "[Z", .arrayClass .float, .fieldLink RX2 15 "PriceIndexCalculator$PriceRows" "price" "[F", .fieldLink RX2 19 "PriceIndexCalculator$PriceRows" "basket" "LPriceIndexCalculator$Basket;"] ++ wsX30 ++ wsX20)
def wsX3_outdate : List Cond := .code yX3_outdate cX3_outdate 1 none :: ([.fieldLink RX3 27 "PriceIndexCalculator$PriceTable" "fresh" "Z"] ++ wsX30)
def wsX3_fillEffective_r1 : List Cond := [Cond.fieldLink RX3 9 "PriceIndexCalculator$PriceTable" "basket" "LPriceIndexCalculator$Basket;", Cond.fieldLink RX3 20 "PriceIndexCalculator$PriceTable" "effective" "LPriceIndexCalculator$PriceRows;", Cond.methodLink RX3 44 yX0_hasEffective, Cond.instanceMethod yX0_hasEffective, Cond.selects RX0 yX0_hasEffective yX0_hasEffective, Cond.initialized RX0, Cond.code yX0_hasEffective cX0_hasEffective 4 (some .boolean), Cond.fieldLink RX0 27 "PriceIndexCalculator$Basket" "oldItemOf" "[I", Cond.fieldLink RX0 24 "PriceIndexCalculator$Basket" "newItemOf" "[I", Cond.fieldLink RX0 30 "PriceIndexCalculator$Basket" "overlap" "[I", Cond.methodLink RX0 67 yX0_isPricedByNewItem, Cond.instanceMethod yX0_isPricedByNewItem, Cond.selects RX0 yX0_isPricedByNewItem yX0_isPricedByNewItem, Cond.code yX0_isPricedByNewItem cX0_isPricedByNewItem 3 (some .boolean), Cond.methodLink RX0 53 yX0_hasObserved, Cond.instanceMethod yX0_hasObserved, Cond.selects RX0 yX0_hasObserved yX0_hasObserved, Cond.code yX0_hasObserved cX0_hasObserved 4 (some .boolean), Cond.fieldLink RX0 21 "PriceIndexCalculator$Basket" "seasons" "[I", Cond.fieldLink RX0 33 "PriceIndexCalculator$Basket" "quoted" "[I", Cond.static yX6_cell, Cond.initialized RX6, Cond.code yX6_cell cX6_cell 2 (some .int), Cond.methodLink RX3 48 yX0_effective]
def wsX3_fillEffective_r2 : List Cond := [Cond.instanceMethod yX0_effective, Cond.selects RX0 yX0_effective yX0_effective, Cond.code yX0_effective cX0_effective 5 (some .float), Cond.methodLink RX0 70 yX0_observed, Cond.instanceMethod yX0_observed, Cond.selects RX0 yX0_observed yX0_observed, Cond.code yX0_observed cX0_observed 3 (some .float), Cond.fieldLink RX0 18 "PriceIndexCalculator$Basket" "size" "[I", Cond.methodLink RX0 61 yX5_over, Cond.static yX5_over, Cond.initialized RX5, Cond.code yX5_over cX5_over 2 (some .float), Cond.methodLink RX5 9 yX5_isNan, Cond.static yX5_isNan, Cond.code yX5_isNan cX5_isNan 1 (some .boolean), Cond.methodLink RX5 19 yX5_isInfinite, Cond.static yX5_isInfinite, Cond.code yX5_isInfinite cX5_isInfinite 1 (some .boolean), Cond.constantFloat RX5 8 (2139095039), Cond.methodLink RX5 15 yX5_nan, Cond.static yX5_nan, Cond.code yX5_nan cX5_nan 0 (some .float), Cond.constantFloat RX5 7 (3212836864), Cond.methodLink RX0 74 yX5_times]
def wsX3_fillEffective_r3 : List Cond := [Cond.static yX5_times, Cond.code yX5_times cX5_times 2 (some .float), Cond.methodLink RX3 51 yX2_put, Cond.instanceMethod yX2_put, Cond.selects RX2 yX2_put yX2_put, Cond.initialized RX2, Cond.code yX2_put cX2_put 4 none, Cond.fieldLink RX2 9 "PriceIndexCalculator$PriceRows" "exists" "[Z", Cond.fieldLink RX2 15 "PriceIndexCalculator$PriceRows" "price" "[F", Cond.methodLink RX3 55 yX2_remove, Cond.instanceMethod yX2_remove, Cond.selects RX2 yX2_remove yX2_remove, Cond.code yX2_remove cX2_remove 3 none]
def wsX3_fillEffective : List Cond := .code yX3_fillEffective cX3_fillEffective 3 none :: ((wsX3_fillEffective_r1 ++ (wsX3_fillEffective_r2 ++ wsX3_fillEffective_r3)) ++ wsX30 ++ wsX00 ++ wsX20)
def wsX3_fillKnownCell_r1 : List Cond := [Cond.fieldLink RX3 20 "PriceIndexCalculator$PriceTable" "effective" "LPriceIndexCalculator$PriceRows;", Cond.fieldLink RX3 24 "PriceIndexCalculator$PriceTable" "known" "LPriceIndexCalculator$PriceRows;", Cond.methodLink RX3 70 yX2_has, Cond.instanceMethod yX2_has, Cond.selects RX2 yX2_has yX2_has, Cond.initialized RX2, Cond.code yX2_has cX2_has 3 (some .boolean), Cond.fieldLink RX2 9 "PriceIndexCalculator$PriceRows" "exists" "[Z", Cond.static yX6_cell, Cond.initialized RX6, Cond.code yX6_cell cX6_cell 2 (some .int), Cond.methodLink RX3 73 yX2_get, Cond.instanceMethod yX2_get, Cond.selects RX2 yX2_get yX2_get, Cond.code yX2_get cX2_get 3 (some .float), Cond.fieldLink RX2 15 "PriceIndexCalculator$PriceRows" "price" "[F", Cond.methodLink RX3 51 yX2_put, Cond.instanceMethod yX2_put, Cond.selects RX2 yX2_put yX2_put, Cond.code yX2_put cX2_put 4 none, Cond.methodLink RX3 76 yX5_times, Cond.static yX5_times, Cond.initialized RX5, Cond.code yX5_times cX5_times 2 (some .float)]
def wsX3_fillKnownCell_r2 : List Cond := [Cond.methodLink RX5 9 yX5_isNan, Cond.static yX5_isNan, Cond.code yX5_isNan cX5_isNan 1 (some .boolean), Cond.methodLink RX5 19 yX5_isInfinite, Cond.static yX5_isInfinite, Cond.code yX5_isInfinite cX5_isInfinite 1 (some .boolean), Cond.constantFloat RX5 8 (2139095039), Cond.methodLink RX5 15 yX5_nan, Cond.static yX5_nan, Cond.code yX5_nan cX5_nan 0 (some .float), Cond.constantFloat RX5 7 (3212836864), Cond.methodLink RX3 55 yX2_remove, Cond.instanceMethod yX2_remove, Cond.selects RX2 yX2_remove yX2_remove, Cond.code yX2_remove cX2_remove 3 none]
def wsX3_fillKnownCell : List Cond := .code yX3_fillKnownCell cX3_fillKnownCell 4 none :: ((wsX3_fillKnownCell_r1 ++ wsX3_fillKnownCell_r2) ++ wsX30 ++ wsX20)
def wsX3_fillKnown_r1 : List Cond := [Cond.fieldLink RX3 20 "PriceIndexCalculator$PriceTable" "effective" "LPriceIndexCalculator$PriceRows;", Cond.fieldLink RX3 9 "PriceIndexCalculator$PriceTable" "basket" "LPriceIndexCalculator$Basket;", Cond.fieldLink RX3 31 "PriceIndexCalculator$Basket" "items" "I", Cond.fieldLink RX3 63 "PriceIndexCalculator$Basket" "stratum" "[I", Cond.methodLink RX3 59 yX2_movement, Cond.instanceMethod yX2_movement, Cond.selects RX2 yX2_movement yX2_movement, Cond.initialized RX2, Cond.code yX2_movement cX2_movement 5 (some .float), Cond.fieldLink RX2 19 "PriceIndexCalculator$PriceRows" "basket" "LPriceIndexCalculator$Basket;", Cond.fieldLink RX2 45 "PriceIndexCalculator$Basket" "formula" "I", Cond.methodLink RX2 41 yX2_countMatched, Cond.instanceMethod yX2_countMatched, Cond.selects RX2 yX2_countMatched yX2_countMatched, Cond.code yX2_countMatched cX2_countMatched 6 (some .int), Cond.fieldLink RX2 33 "PriceIndexCalculator$Basket" "items" "I", Cond.methodLink RX2 37 yX2_isMatched, Cond.instanceMethod yX2_isMatched, Cond.selects RX2 yX2_isMatched yX2_isMatched, Cond.code yX2_isMatched cX2_isMatched 5 (some .boolean), Cond.fieldLink RX2 27 "PriceIndexCalculator$Basket" "stratum" "[I", Cond.fieldLink RX2 9 "PriceIndexCalculator$PriceRows" "exists" "[Z", Cond.static yX6_cell, Cond.initialized RX6]
def wsX3_fillKnown_r2 : List Cond := [Cond.code yX6_cell cX6_cell 2 (some .int), Cond.methodLink RX2 48 yX2_sumOfPrices, Cond.instanceMethod yX2_sumOfPrices, Cond.selects RX2 yX2_sumOfPrices yX2_sumOfPrices, Cond.code yX2_sumOfPrices cX2_sumOfPrices 7 (some .float), Cond.methodLink RX2 62 yX2_get, Cond.instanceMethod yX2_get, Cond.selects RX2 yX2_get yX2_get, Cond.code yX2_get cX2_get 3 (some .float), Cond.fieldLink RX2 15 "PriceIndexCalculator$PriceRows" "price" "[F", Cond.methodLink RX2 66 yX5_plus, Cond.static yX5_plus, Cond.initialized RX5, Cond.code yX5_plus cX5_plus 2 (some .float), Cond.methodLink RX5 9 yX5_isNan, Cond.static yX5_isNan, Cond.code yX5_isNan cX5_isNan 1 (some .boolean), Cond.methodLink RX5 15 yX5_nan, Cond.static yX5_nan, Cond.code yX5_nan cX5_nan 0 (some .float), Cond.constantFloat RX5 7 (3212836864), Cond.methodLink RX2 52 yX5_over, Cond.static yX5_over, Cond.code yX5_over cX5_over 2 (some .float)]
def wsX3_fillKnown_r3 : List Cond := [Cond.methodLink RX5 19 yX5_isInfinite, Cond.static yX5_isInfinite, Cond.code yX5_isInfinite cX5_isInfinite 1 (some .boolean), Cond.constantFloat RX5 8 (2139095039), Cond.methodLink RX2 58 yX2_sumOfRatios, Cond.instanceMethod yX2_sumOfRatios, Cond.selects RX2 yX2_sumOfRatios yX2_sumOfRatios, Cond.code yX2_sumOfRatios cX2_sumOfRatios 6 (some .float), Cond.methodLink RX3 67 yX3_fillKnownCell, Cond.instanceMethod yX3_fillKnownCell, Cond.selects RX3 yX3_fillKnownCell yX3_fillKnownCell, Cond.initialized RX3, Cond.code yX3_fillKnownCell cX3_fillKnownCell 4 none, Cond.fieldLink RX3 24 "PriceIndexCalculator$PriceTable" "known" "LPriceIndexCalculator$PriceRows;", Cond.methodLink RX3 70 yX2_has, Cond.instanceMethod yX2_has, Cond.selects RX2 yX2_has yX2_has, Cond.code yX2_has cX2_has 3 (some .boolean), Cond.methodLink RX3 73 yX2_get, Cond.methodLink RX3 51 yX2_put, Cond.instanceMethod yX2_put, Cond.selects RX2 yX2_put yX2_put, Cond.code yX2_put cX2_put 4 none, Cond.methodLink RX3 76 yX5_times]
def wsX3_fillKnown_r4 : List Cond := [Cond.static yX5_times, Cond.code yX5_times cX5_times 2 (some .float), Cond.methodLink RX3 55 yX2_remove, Cond.instanceMethod yX2_remove, Cond.selects RX2 yX2_remove yX2_remove, Cond.code yX2_remove cX2_remove 3 none]
def wsX3_fillKnown : List Cond := .code yX3_fillKnown cX3_fillKnown 5 none :: ((wsX3_fillKnown_r1 ++ (wsX3_fillKnown_r2 ++ (wsX3_fillKnown_r3 ++ wsX3_fillKnown_r4))) ++ wsX30 ++ wsX00 ++ wsX20)
def wsX3_refresh_r1 : List Cond := [Cond.fieldLink RX3 27 "PriceIndexCalculator$PriceTable" "fresh" "Z", Cond.fieldLink RX3 9 "PriceIndexCalculator$PriceTable" "basket" "LPriceIndexCalculator$Basket;", Cond.fieldLink RX3 31 "PriceIndexCalculator$Basket" "items" "I", Cond.methodLink RX3 37 yX3_fillEffective, Cond.instanceMethod yX3_fillEffective, Cond.selects RX3 yX3_fillEffective yX3_fillEffective, Cond.initialized RX3, Cond.code yX3_fillEffective cX3_fillEffective 3 none, Cond.fieldLink RX3 20 "PriceIndexCalculator$PriceTable" "effective" "LPriceIndexCalculator$PriceRows;", Cond.methodLink RX3 44 yX0_hasEffective, Cond.instanceMethod yX0_hasEffective, Cond.selects RX0 yX0_hasEffective yX0_hasEffective, Cond.initialized RX0, Cond.code yX0_hasEffective cX0_hasEffective 4 (some .boolean), Cond.fieldLink RX0 27 "PriceIndexCalculator$Basket" "oldItemOf" "[I", Cond.fieldLink RX0 24 "PriceIndexCalculator$Basket" "newItemOf" "[I", Cond.fieldLink RX0 30 "PriceIndexCalculator$Basket" "overlap" "[I", Cond.methodLink RX0 67 yX0_isPricedByNewItem, Cond.instanceMethod yX0_isPricedByNewItem, Cond.selects RX0 yX0_isPricedByNewItem yX0_isPricedByNewItem, Cond.code yX0_isPricedByNewItem cX0_isPricedByNewItem 3 (some .boolean), Cond.methodLink RX0 53 yX0_hasObserved, Cond.instanceMethod yX0_hasObserved, Cond.selects RX0 yX0_hasObserved yX0_hasObserved]
def wsX3_refresh_r2 : List Cond := [Cond.code yX0_hasObserved cX0_hasObserved 4 (some .boolean), Cond.fieldLink RX0 21 "PriceIndexCalculator$Basket" "seasons" "[I", Cond.fieldLink RX0 33 "PriceIndexCalculator$Basket" "quoted" "[I", Cond.static yX6_cell, Cond.initialized RX6, Cond.code yX6_cell cX6_cell 2 (some .int), Cond.methodLink RX3 48 yX0_effective, Cond.instanceMethod yX0_effective, Cond.selects RX0 yX0_effective yX0_effective, Cond.code yX0_effective cX0_effective 5 (some .float), Cond.methodLink RX0 70 yX0_observed, Cond.instanceMethod yX0_observed, Cond.selects RX0 yX0_observed yX0_observed, Cond.code yX0_observed cX0_observed 3 (some .float), Cond.fieldLink RX0 18 "PriceIndexCalculator$Basket" "size" "[I", Cond.methodLink RX0 61 yX5_over, Cond.static yX5_over, Cond.initialized RX5, Cond.code yX5_over cX5_over 2 (some .float), Cond.methodLink RX5 9 yX5_isNan, Cond.static yX5_isNan, Cond.code yX5_isNan cX5_isNan 1 (some .boolean), Cond.methodLink RX5 19 yX5_isInfinite, Cond.static yX5_isInfinite]
def wsX3_refresh_r3 : List Cond := [Cond.code yX5_isInfinite cX5_isInfinite 1 (some .boolean), Cond.constantFloat RX5 8 (2139095039), Cond.methodLink RX5 15 yX5_nan, Cond.static yX5_nan, Cond.code yX5_nan cX5_nan 0 (some .float), Cond.constantFloat RX5 7 (3212836864), Cond.methodLink RX0 74 yX5_times, Cond.static yX5_times, Cond.code yX5_times cX5_times 2 (some .float), Cond.methodLink RX3 51 yX2_put, Cond.instanceMethod yX2_put, Cond.selects RX2 yX2_put yX2_put, Cond.initialized RX2, Cond.code yX2_put cX2_put 4 none, Cond.fieldLink RX2 9 "PriceIndexCalculator$PriceRows" "exists" "[Z", Cond.fieldLink RX2 15 "PriceIndexCalculator$PriceRows" "price" "[F", Cond.methodLink RX3 55 yX2_remove, Cond.instanceMethod yX2_remove, Cond.selects RX2 yX2_remove yX2_remove, Cond.code yX2_remove cX2_remove 3 none, Cond.methodLink RX3 41 yX3_fillKnown, Cond.instanceMethod yX3_fillKnown, Cond.selects RX3 yX3_fillKnown yX3_fillKnown, Cond.code yX3_fillKnown cX3_fillKnown 5 none]
def wsX3_refresh_r4 : List Cond := [Cond.fieldLink RX3 63 "PriceIndexCalculator$Basket" "stratum" "[I", Cond.methodLink RX3 59 yX2_movement, Cond.instanceMethod yX2_movement, Cond.selects RX2 yX2_movement yX2_movement, Cond.code yX2_movement cX2_movement 5 (some .float), Cond.fieldLink RX2 19 "PriceIndexCalculator$PriceRows" "basket" "LPriceIndexCalculator$Basket;", Cond.fieldLink RX2 45 "PriceIndexCalculator$Basket" "formula" "I", Cond.methodLink RX2 41 yX2_countMatched, Cond.instanceMethod yX2_countMatched, Cond.selects RX2 yX2_countMatched yX2_countMatched, Cond.code yX2_countMatched cX2_countMatched 6 (some .int), Cond.fieldLink RX2 33 "PriceIndexCalculator$Basket" "items" "I", Cond.methodLink RX2 37 yX2_isMatched, Cond.instanceMethod yX2_isMatched, Cond.selects RX2 yX2_isMatched yX2_isMatched, Cond.code yX2_isMatched cX2_isMatched 5 (some .boolean), Cond.fieldLink RX2 27 "PriceIndexCalculator$Basket" "stratum" "[I", Cond.methodLink RX2 48 yX2_sumOfPrices, Cond.instanceMethod yX2_sumOfPrices, Cond.selects RX2 yX2_sumOfPrices yX2_sumOfPrices, Cond.code yX2_sumOfPrices cX2_sumOfPrices 7 (some .float), Cond.methodLink RX2 62 yX2_get, Cond.instanceMethod yX2_get, Cond.selects RX2 yX2_get yX2_get]
def wsX3_refresh_r5 : List Cond := [Cond.code yX2_get cX2_get 3 (some .float), Cond.methodLink RX2 66 yX5_plus, Cond.static yX5_plus, Cond.code yX5_plus cX5_plus 2 (some .float), Cond.methodLink RX2 52 yX5_over, Cond.methodLink RX2 58 yX2_sumOfRatios, Cond.instanceMethod yX2_sumOfRatios, Cond.selects RX2 yX2_sumOfRatios yX2_sumOfRatios, Cond.code yX2_sumOfRatios cX2_sumOfRatios 6 (some .float), Cond.methodLink RX3 67 yX3_fillKnownCell, Cond.instanceMethod yX3_fillKnownCell, Cond.selects RX3 yX3_fillKnownCell yX3_fillKnownCell, Cond.code yX3_fillKnownCell cX3_fillKnownCell 4 none, Cond.fieldLink RX3 24 "PriceIndexCalculator$PriceTable" "known" "LPriceIndexCalculator$PriceRows;", Cond.methodLink RX3 70 yX2_has, Cond.instanceMethod yX2_has, Cond.selects RX2 yX2_has yX2_has, Cond.code yX2_has cX2_has 3 (some .boolean), Cond.methodLink RX3 73 yX2_get, Cond.methodLink RX3 76 yX5_times]
def wsX3_refresh : List Cond := .code yX3_refresh cX3_refresh 2 none :: ((wsX3_refresh_r1 ++ (wsX3_refresh_r2 ++ (wsX3_refresh_r3 ++ (wsX3_refresh_r4 ++ wsX3_refresh_r5)))) ++ wsX30 ++ wsX00 ++ wsX20)
def wsX3_hasImputed : List Cond := .code yX3_hasImputed cX3_hasImputed 3 (some .boolean) :: ([.fieldLink RX3 24 "PriceIndexCalculator$PriceTable" "known" "LPriceIndexCalculator$PriceRows;", .fieldLink RX3 20 "PriceIndexCalculator$PriceTable" "effective" "LPriceIndexCalculator$PriceRows;", .methodLink RX3 70 yX2_has, .instanceMethod yX2_has, .selects RX2 yX2_has yX2_has, .initialized RX2, .code yX2_has cX2_has 3 (some .boolean), .fieldLink RX2 9 "PriceIndexCalculator$PriceRows" "exists" "[Z", .static yX6_cell, .initialized RX6, .code yX6_cell cX6_cell 2 (some .int)] ++ wsX30 ++ wsX20)
def wsX3_hasDirect : List Cond := .code yX3_hasDirect cX3_hasDirect 4 (some .boolean) :: ([.fieldLink RX3 24 "PriceIndexCalculator$PriceTable" "known" "LPriceIndexCalculator$PriceRows;", .methodLink RX3 82 yX2_countMatched, .instanceMethod yX2_countMatched, .selects RX2 yX2_countMatched yX2_countMatched, .initialized RX2, .code yX2_countMatched cX2_countMatched 6 (some .int), .fieldLink RX2 19 "PriceIndexCalculator$PriceRows" "basket" "LPriceIndexCalculator$Basket;", .fieldLink RX2 33 "PriceIndexCalculator$Basket" "items" "I", .methodLink RX2 37 yX2_isMatched, .instanceMethod yX2_isMatched, .selects RX2 yX2_isMatched yX2_isMatched, .code yX2_isMatched cX2_isMatched 5 (some .boolean), .fieldLink RX2 27 "PriceIndexCalculator$Basket" "stratum" "[I", .fieldLink RX2 9 "PriceIndexCalculator$PriceRows" "exists" "[Z", .static yX6_cell, .initialized RX6, .code yX6_cell cX6_cell 2 (some .int)] ++ wsX30 ++ wsX20 ++ wsX00)
def wsX3_direct_r1 : List Cond := [Cond.fieldLink RX3 24 "PriceIndexCalculator$PriceTable" "known" "LPriceIndexCalculator$PriceRows;", Cond.constantFloat RX3 86 (1120403456), Cond.methodLink RX3 59 yX2_movement, Cond.instanceMethod yX2_movement, Cond.selects RX2 yX2_movement yX2_movement, Cond.initialized RX2, Cond.code yX2_movement cX2_movement 5 (some .float), Cond.fieldLink RX2 19 "PriceIndexCalculator$PriceRows" "basket" "LPriceIndexCalculator$Basket;", Cond.fieldLink RX2 45 "PriceIndexCalculator$Basket" "formula" "I", Cond.methodLink RX2 41 yX2_countMatched, Cond.instanceMethod yX2_countMatched, Cond.selects RX2 yX2_countMatched yX2_countMatched, Cond.code yX2_countMatched cX2_countMatched 6 (some .int), Cond.fieldLink RX2 33 "PriceIndexCalculator$Basket" "items" "I", Cond.methodLink RX2 37 yX2_isMatched, Cond.instanceMethod yX2_isMatched, Cond.selects RX2 yX2_isMatched yX2_isMatched, Cond.code yX2_isMatched cX2_isMatched 5 (some .boolean), Cond.fieldLink RX2 27 "PriceIndexCalculator$Basket" "stratum" "[I", Cond.fieldLink RX2 9 "PriceIndexCalculator$PriceRows" "exists" "[Z", Cond.static yX6_cell, Cond.initialized RX6, Cond.code yX6_cell cX6_cell 2 (some .int), Cond.methodLink RX2 48 yX2_sumOfPrices]
def wsX3_direct_r2 : List Cond := [Cond.instanceMethod yX2_sumOfPrices, Cond.selects RX2 yX2_sumOfPrices yX2_sumOfPrices, Cond.code yX2_sumOfPrices cX2_sumOfPrices 7 (some .float), Cond.methodLink RX2 62 yX2_get, Cond.instanceMethod yX2_get, Cond.selects RX2 yX2_get yX2_get, Cond.code yX2_get cX2_get 3 (some .float), Cond.fieldLink RX2 15 "PriceIndexCalculator$PriceRows" "price" "[F", Cond.methodLink RX2 66 yX5_plus, Cond.static yX5_plus, Cond.initialized RX5, Cond.code yX5_plus cX5_plus 2 (some .float), Cond.methodLink RX5 9 yX5_isNan, Cond.static yX5_isNan, Cond.code yX5_isNan cX5_isNan 1 (some .boolean), Cond.methodLink RX5 15 yX5_nan, Cond.static yX5_nan, Cond.code yX5_nan cX5_nan 0 (some .float), Cond.constantFloat RX5 7 (3212836864), Cond.methodLink RX2 52 yX5_over, Cond.static yX5_over, Cond.code yX5_over cX5_over 2 (some .float), Cond.methodLink RX5 19 yX5_isInfinite, Cond.static yX5_isInfinite]
def wsX3_direct_r3 : List Cond := [Cond.code yX5_isInfinite cX5_isInfinite 1 (some .boolean), Cond.constantFloat RX5 8 (2139095039), Cond.methodLink RX2 58 yX2_sumOfRatios, Cond.instanceMethod yX2_sumOfRatios, Cond.selects RX2 yX2_sumOfRatios yX2_sumOfRatios, Cond.code yX2_sumOfRatios cX2_sumOfRatios 6 (some .float), Cond.methodLink RX3 76 yX5_times, Cond.static yX5_times, Cond.code yX5_times cX5_times 2 (some .float)]
def wsX3_direct : List Cond := .code yX3_direct cX3_direct 4 (some .float) :: ((wsX3_direct_r1 ++ (wsX3_direct_r2 ++ wsX3_direct_r3)) ++ wsX30 ++ wsX20 ++ wsX00)
def wsX3_chained_r1 : List Cond := [Cond.constantFloat RX3 86 (1120403456), Cond.fieldLink RX3 20 "PriceIndexCalculator$PriceTable" "effective" "LPriceIndexCalculator$PriceRows;", Cond.methodLink RX3 59 yX2_movement, Cond.instanceMethod yX2_movement, Cond.selects RX2 yX2_movement yX2_movement, Cond.initialized RX2, Cond.code yX2_movement cX2_movement 5 (some .float), Cond.fieldLink RX2 19 "PriceIndexCalculator$PriceRows" "basket" "LPriceIndexCalculator$Basket;", Cond.fieldLink RX2 45 "PriceIndexCalculator$Basket" "formula" "I", Cond.methodLink RX2 41 yX2_countMatched, Cond.instanceMethod yX2_countMatched, Cond.selects RX2 yX2_countMatched yX2_countMatched, Cond.code yX2_countMatched cX2_countMatched 6 (some .int), Cond.fieldLink RX2 33 "PriceIndexCalculator$Basket" "items" "I", Cond.methodLink RX2 37 yX2_isMatched, Cond.instanceMethod yX2_isMatched, Cond.selects RX2 yX2_isMatched yX2_isMatched, Cond.code yX2_isMatched cX2_isMatched 5 (some .boolean), Cond.fieldLink RX2 27 "PriceIndexCalculator$Basket" "stratum" "[I", Cond.fieldLink RX2 9 "PriceIndexCalculator$PriceRows" "exists" "[Z", Cond.static yX6_cell, Cond.initialized RX6, Cond.code yX6_cell cX6_cell 2 (some .int), Cond.methodLink RX2 48 yX2_sumOfPrices]
def wsX3_chained_r2 : List Cond := [Cond.instanceMethod yX2_sumOfPrices, Cond.selects RX2 yX2_sumOfPrices yX2_sumOfPrices, Cond.code yX2_sumOfPrices cX2_sumOfPrices 7 (some .float), Cond.methodLink RX2 62 yX2_get, Cond.instanceMethod yX2_get, Cond.selects RX2 yX2_get yX2_get, Cond.code yX2_get cX2_get 3 (some .float), Cond.fieldLink RX2 15 "PriceIndexCalculator$PriceRows" "price" "[F", Cond.methodLink RX2 66 yX5_plus, Cond.static yX5_plus, Cond.initialized RX5, Cond.code yX5_plus cX5_plus 2 (some .float), Cond.methodLink RX5 9 yX5_isNan, Cond.static yX5_isNan, Cond.code yX5_isNan cX5_isNan 1 (some .boolean), Cond.methodLink RX5 15 yX5_nan, Cond.static yX5_nan, Cond.code yX5_nan cX5_nan 0 (some .float), Cond.constantFloat RX5 7 (3212836864), Cond.methodLink RX2 52 yX5_over, Cond.static yX5_over, Cond.code yX5_over cX5_over 2 (some .float), Cond.methodLink RX5 19 yX5_isInfinite, Cond.static yX5_isInfinite]
def wsX3_chained_r3 : List Cond := [Cond.code yX5_isInfinite cX5_isInfinite 1 (some .boolean), Cond.constantFloat RX5 8 (2139095039), Cond.methodLink RX2 58 yX2_sumOfRatios, Cond.instanceMethod yX2_sumOfRatios, Cond.selects RX2 yX2_sumOfRatios yX2_sumOfRatios, Cond.code yX2_sumOfRatios cX2_sumOfRatios 6 (some .float), Cond.methodLink RX3 76 yX5_times, Cond.static yX5_times, Cond.code yX5_times cX5_times 2 (some .float)]
def wsX3_chained : List Cond := .code yX3_chained cX3_chained 6 (some .float) :: ((wsX3_chained_r1 ++ (wsX3_chained_r2 ++ wsX3_chained_r3)) ++ wsX30 ++ wsX20 ++ wsX00)
def wsX3_weightOfDirect : List Cond := .code yX3_weightOfDirect cX3_weightOfDirect 5 (some .int) :: ([.fieldLink RX3 9 "PriceIndexCalculator$PriceTable" "basket" "LPriceIndexCalculator$Basket;", .fieldLink RX3 91 "PriceIndexCalculator$Basket" "weight" "[I", .methodLink RX3 87 yX3_hasDirect, .instanceMethod yX3_hasDirect, .selects RX3 yX3_hasDirect yX3_hasDirect, .initialized RX3, .code yX3_hasDirect cX3_hasDirect 4 (some .boolean), .fieldLink RX3 24 "PriceIndexCalculator$PriceTable" "known" "LPriceIndexCalculator$PriceRows;", .methodLink RX3 82 yX2_countMatched, .instanceMethod yX2_countMatched, .selects RX2 yX2_countMatched yX2_countMatched, .initialized RX2, .code yX2_countMatched cX2_countMatched 6 (some .int), .fieldLink RX2 19 "PriceIndexCalculator$PriceRows" "basket" "LPriceIndexCalculator$Basket;", .fieldLink RX2 33 "PriceIndexCalculator$Basket" "items" "I", .methodLink RX2 37 yX2_isMatched, .instanceMethod yX2_isMatched, .selects RX2 yX2_isMatched yX2_isMatched, .code yX2_isMatched cX2_isMatched 5 (some .boolean), .fieldLink RX2 27 "PriceIndexCalculator$Basket" "stratum" "[I", .fieldLink RX2 9 "PriceIndexCalculator$PriceRows" "exists" "[Z", .static yX6_cell, .initialized RX6, .code yX6_cell cX6_cell 2 (some .int)] ++ wsX30 ++ wsX00 ++ wsX20)
def wsX3_aggregate_r1 : List Cond := [Cond.fieldLink RX3 9 "PriceIndexCalculator$PriceTable" "basket" "LPriceIndexCalculator$Basket;", Cond.fieldLink RX3 91 "PriceIndexCalculator$Basket" "weight" "[I", Cond.methodLink RX3 87 yX3_hasDirect, Cond.instanceMethod yX3_hasDirect, Cond.selects RX3 yX3_hasDirect yX3_hasDirect, Cond.initialized RX3, Cond.code yX3_hasDirect cX3_hasDirect 4 (some .boolean), Cond.fieldLink RX3 24 "PriceIndexCalculator$PriceTable" "known" "LPriceIndexCalculator$PriceRows;", Cond.methodLink RX3 82 yX2_countMatched, Cond.instanceMethod yX2_countMatched, Cond.selects RX2 yX2_countMatched yX2_countMatched, Cond.initialized RX2, Cond.code yX2_countMatched cX2_countMatched 6 (some .int), Cond.fieldLink RX2 19 "PriceIndexCalculator$PriceRows" "basket" "LPriceIndexCalculator$Basket;", Cond.fieldLink RX2 33 "PriceIndexCalculator$Basket" "items" "I", Cond.methodLink RX2 37 yX2_isMatched, Cond.instanceMethod yX2_isMatched, Cond.selects RX2 yX2_isMatched yX2_isMatched, Cond.code yX2_isMatched cX2_isMatched 5 (some .boolean), Cond.fieldLink RX2 27 "PriceIndexCalculator$Basket" "stratum" "[I", Cond.fieldLink RX2 9 "PriceIndexCalculator$PriceRows" "exists" "[Z", Cond.static yX6_cell, Cond.initialized RX6, Cond.code yX6_cell cX6_cell 2 (some .int)]
def wsX3_aggregate_r2 : List Cond := [Cond.methodLink RX3 94 yX3_direct, Cond.instanceMethod yX3_direct, Cond.selects RX3 yX3_direct yX3_direct, Cond.code yX3_direct cX3_direct 4 (some .float), Cond.constantFloat RX3 86 (1120403456), Cond.methodLink RX3 59 yX2_movement, Cond.instanceMethod yX2_movement, Cond.selects RX2 yX2_movement yX2_movement, Cond.code yX2_movement cX2_movement 5 (some .float), Cond.fieldLink RX2 45 "PriceIndexCalculator$Basket" "formula" "I", Cond.methodLink RX2 41 yX2_countMatched, Cond.methodLink RX2 48 yX2_sumOfPrices, Cond.instanceMethod yX2_sumOfPrices, Cond.selects RX2 yX2_sumOfPrices yX2_sumOfPrices, Cond.code yX2_sumOfPrices cX2_sumOfPrices 7 (some .float), Cond.methodLink RX2 62 yX2_get, Cond.instanceMethod yX2_get, Cond.selects RX2 yX2_get yX2_get, Cond.code yX2_get cX2_get 3 (some .float), Cond.fieldLink RX2 15 "PriceIndexCalculator$PriceRows" "price" "[F", Cond.methodLink RX2 66 yX5_plus, Cond.static yX5_plus, Cond.initialized RX5, Cond.code yX5_plus cX5_plus 2 (some .float)]
def wsX3_aggregate_r3 : List Cond := [Cond.methodLink RX5 9 yX5_isNan, Cond.static yX5_isNan, Cond.code yX5_isNan cX5_isNan 1 (some .boolean), Cond.methodLink RX5 15 yX5_nan, Cond.static yX5_nan, Cond.code yX5_nan cX5_nan 0 (some .float), Cond.constantFloat RX5 7 (3212836864), Cond.methodLink RX2 52 yX5_over, Cond.static yX5_over, Cond.code yX5_over cX5_over 2 (some .float), Cond.methodLink RX5 19 yX5_isInfinite, Cond.static yX5_isInfinite, Cond.code yX5_isInfinite cX5_isInfinite 1 (some .boolean), Cond.constantFloat RX5 8 (2139095039), Cond.methodLink RX2 58 yX2_sumOfRatios, Cond.instanceMethod yX2_sumOfRatios, Cond.selects RX2 yX2_sumOfRatios yX2_sumOfRatios, Cond.code yX2_sumOfRatios cX2_sumOfRatios 6 (some .float), Cond.methodLink RX3 76 yX5_times, Cond.static yX5_times, Cond.code yX5_times cX5_times 2 (some .float), Cond.methodLink RX3 97 yX5_plus, Cond.methodLink RX3 100 yX3_weightOfDirect, Cond.instanceMethod yX3_weightOfDirect]
def wsX3_aggregate_r4 : List Cond := [Cond.selects RX3 yX3_weightOfDirect yX3_weightOfDirect, Cond.code yX3_weightOfDirect cX3_weightOfDirect 5 (some .int), Cond.methodLink RX3 104 yX5_over]
def wsX3_aggregate : List Cond := .code yX3_aggregate cX3_aggregate 6 (some .float) :: ((wsX3_aggregate_r1 ++ (wsX3_aggregate_r2 ++ (wsX3_aggregate_r3 ++ wsX3_aggregate_r4))) ++ wsX30 ++ wsX00 ++ wsX20)
def wsX4_init : List Cond := .code yX4_init cX4_init 1 none :: ([.methodLink RX4 3 objectInit, .instanceMethod objectInit, .code objectInit ⟨#[0xb1]⟩ 1 none, .arrayClass .int, .fieldLink RX4 9 "PriceIndexCalculator$QuotationText" "item" "[I", .fieldLink RX4 15 "PriceIndexCalculator$QuotationText" "month" "[I", .fieldLink RX4 18 "PriceIndexCalculator$QuotationText" "price" "[I", .fieldLink RX4 21 "PriceIndexCalculator$QuotationText" "characters" "[I"] ++ wsX40)
def wsX4_append : List Cond := .code yX4_append cX4_append 2 (some .int) :: ([.fieldLink RX4 21 "PriceIndexCalculator$QuotationText" "characters" "[I", .fieldLink RX4 24 "PriceIndexCalculator$QuotationText" "length" "I"] ++ wsX40)
def wsX4_clear : List Cond := .code yX4_clear cX4_clear 2 (some .int) :: ([.fieldLink RX4 24 "PriceIndexCalculator$QuotationText" "length" "I"] ++ wsX40)
def wsX4_isDigit : List Cond := .code yX4_isDigit cX4_isDigit 1 (some .boolean) :: ([])
def wsX4_hasNumberForm : List Cond := .code yX4_hasNumberForm cX4_hasNumberForm 3 (some .boolean) :: ([.fieldLink RX4 21 "PriceIndexCalculator$QuotationText" "characters" "[I"] ++ wsX40)
def wsX4_readNumber : List Cond := .code yX4_readNumber cX4_readNumber 5 (some .int) :: ([.fieldLink RX4 28 "PriceIndexCalculator$QuotationText" "position" "I", .fieldLink RX4 24 "PriceIndexCalculator$QuotationText" "length" "I", .fieldLink RX4 21 "PriceIndexCalculator$QuotationText" "characters" "[I", .methodLink RX4 44 yX4_isDigit, .static yX4_isDigit, .initialized RX4, .code yX4_isDigit cX4_isDigit 1 (some .boolean), .methodLink RX4 48 yX4_hasNumberForm, .instanceMethod yX4_hasNumberForm, .selects RX4 yX4_hasNumberForm yX4_hasNumberForm, .code yX4_hasNumberForm cX4_hasNumberForm 3 (some .boolean)] ++ wsX40)
def wsX4_skip : List Cond := .code yX4_skip cX4_skip 2 (some .boolean) :: ([.fieldLink RX4 28 "PriceIndexCalculator$QuotationText" "position" "I", .fieldLink RX4 24 "PriceIndexCalculator$QuotationText" "length" "I", .fieldLink RX4 21 "PriceIndexCalculator$QuotationText" "characters" "[I"] ++ wsX40)
def wsX4_readQuotation : List Cond := .code yX4_readQuotation cX4_readQuotation 3 (some .boolean) :: ([.fieldLink RX4 9 "PriceIndexCalculator$QuotationText" "item" "[I", .fieldLink RX4 15 "PriceIndexCalculator$QuotationText" "month" "[I", .fieldLink RX4 18 "PriceIndexCalculator$QuotationText" "price" "[I", .constant RX4 43 (99999), .methodLink RX4 35 yX4_readNumber, .instanceMethod yX4_readNumber, .selects RX4 yX4_readNumber yX4_readNumber, .initialized RX4, .code yX4_readNumber cX4_readNumber 5 (some .int), .fieldLink RX4 28 "PriceIndexCalculator$QuotationText" "position" "I", .fieldLink RX4 24 "PriceIndexCalculator$QuotationText" "length" "I", .fieldLink RX4 21 "PriceIndexCalculator$QuotationText" "characters" "[I", .methodLink RX4 44 yX4_isDigit, .static yX4_isDigit, .code yX4_isDigit cX4_isDigit 1 (some .boolean), .methodLink RX4 48 yX4_hasNumberForm, .instanceMethod yX4_hasNumberForm, .selects RX4 yX4_hasNumberForm yX4_hasNumberForm, .code yX4_hasNumberForm cX4_hasNumberForm 3 (some .boolean), .methodLink RX4 39 yX4_skip, .instanceMethod yX4_skip, .selects RX4 yX4_skip yX4_skip, .code yX4_skip cX4_skip 2 (some .boolean)] ++ wsX40)
def wsX4_read_r1 : List Cond := [Cond.fieldLink RX4 28 "PriceIndexCalculator$QuotationText" "position" "I", Cond.fieldLink RX4 24 "PriceIndexCalculator$QuotationText" "length" "I", Cond.methodLink RX4 31 yX4_readQuotation, Cond.instanceMethod yX4_readQuotation, Cond.selects RX4 yX4_readQuotation yX4_readQuotation, Cond.initialized RX4, Cond.code yX4_readQuotation cX4_readQuotation 3 (some .boolean), Cond.fieldLink RX4 9 "PriceIndexCalculator$QuotationText" "item" "[I", Cond.fieldLink RX4 15 "PriceIndexCalculator$QuotationText" "month" "[I", Cond.fieldLink RX4 18 "PriceIndexCalculator$QuotationText" "price" "[I", Cond.constant RX4 43 (99999), Cond.methodLink RX4 35 yX4_readNumber, Cond.instanceMethod yX4_readNumber, Cond.selects RX4 yX4_readNumber yX4_readNumber, Cond.code yX4_readNumber cX4_readNumber 5 (some .int), Cond.fieldLink RX4 21 "PriceIndexCalculator$QuotationText" "characters" "[I", Cond.methodLink RX4 44 yX4_isDigit, Cond.static yX4_isDigit, Cond.code yX4_isDigit cX4_isDigit 1 (some .boolean), Cond.methodLink RX4 48 yX4_hasNumberForm, Cond.instanceMethod yX4_hasNumberForm, Cond.selects RX4 yX4_hasNumberForm yX4_hasNumberForm, Cond.code yX4_hasNumberForm cX4_hasNumberForm 3 (some .boolean), Cond.methodLink RX4 39 yX4_skip]
def wsX4_read_r2 : List Cond := [Cond.instanceMethod yX4_skip, Cond.selects RX4 yX4_skip yX4_skip, Cond.code yX4_skip cX4_skip 2 (some .boolean)]
def wsX4_read : List Cond := .code yX4_read cX4_read 3 (some .int) :: ((wsX4_read_r1 ++ wsX4_read_r2) ++ wsX40)
def wsX5_hundredths : List Cond := .code yX5_hundredths cX5_hundredths 1 (some .int) :: ([.constantFloat RX5 22 (1120403456), .constantFloat RX5 23 (1056964608), .methodLink RX5 9 yX5_isNan, .static yX5_isNan, .initialized RX5, .code yX5_isNan cX5_isNan 1 (some .boolean)])
def wsX5_bits : List Cond := .code yX5_bits cX5_bits 3 (some .int) :: ([.constant RX5 24 (2143289344), .constant RX5 25 (2139095040), .constantFloat RX5 26 (1258291200), .methodLink RX5 9 yX5_isNan, .static yX5_isNan, .initialized RX5, .code yX5_isNan cX5_isNan 1 (some .boolean), .methodLink RX5 19 yX5_isInfinite, .static yX5_isInfinite, .code yX5_isInfinite cX5_isInfinite 1 (some .boolean), .constantFloat RX5 8 (2139095039)])
def wsX6_init_r1 : List Cond := [Cond.methodLink RX6 3 objectInit, Cond.instanceMethod objectInit, Cond.code objectInit ⟨#[0xb1]⟩ 1 none, Cond.classLink RX6 9 RX0, Cond.instantiable RX0 10, Cond.initialized RX0, Cond.fieldLink RX6 12 "PriceIndexCalculator" "basket" "LPriceIndexCalculator$Basket;", Cond.classLink RX6 16 RX1, Cond.instantiable RX1 3, Cond.initialized RX1, Cond.fieldLink RX6 19 "PriceIndexCalculator" "history" "LPriceIndexCalculator$History;", Cond.classLink RX6 23 RX4, Cond.instantiable RX4 6, Cond.initialized RX4, Cond.fieldLink RX6 26 "PriceIndexCalculator" "text" "LPriceIndexCalculator$QuotationText;", Cond.classLink RX6 30 RX3, Cond.instantiable RX3 4, Cond.initialized RX3, Cond.fieldLink RX6 35 "PriceIndexCalculator" "table" "LPriceIndexCalculator$PriceTable;", Cond.methodLink RX6 11 yX0_init, Cond.instanceMethod yX0_init, Cond.code yX0_init cX0_init 2 none, Cond.methodLink RX0 3 objectInit, Cond.arrayClass .int]
def wsX6_init_r2 : List Cond := [Cond.fieldLink RX0 9 "PriceIndexCalculator$Basket" "weight" "[I", Cond.fieldLink RX0 15 "PriceIndexCalculator$Basket" "stratum" "[I", Cond.fieldLink RX0 18 "PriceIndexCalculator$Basket" "size" "[I", Cond.fieldLink RX0 21 "PriceIndexCalculator$Basket" "seasons" "[I", Cond.fieldLink RX0 24 "PriceIndexCalculator$Basket" "newItemOf" "[I", Cond.fieldLink RX0 27 "PriceIndexCalculator$Basket" "oldItemOf" "[I", Cond.fieldLink RX0 30 "PriceIndexCalculator$Basket" "overlap" "[I", Cond.fieldLink RX0 33 "PriceIndexCalculator$Basket" "quoted" "[I", Cond.methodLink RX6 18 yX1_init, Cond.instanceMethod yX1_init, Cond.code yX1_init cX1_init 2 none, Cond.methodLink RX1 3 objectInit, Cond.classLink RX1 9 RX0, Cond.fieldLink RX1 11 "PriceIndexCalculator$History" "ring" "[LPriceIndexCalculator$Basket;", Cond.methodLink RX1 17 yX0_init, Cond.instanceMethod yX4_init, Cond.code yX4_init cX4_init 1 none, Cond.methodLink RX4 3 objectInit, Cond.fieldLink RX4 9 "PriceIndexCalculator$QuotationText" "item" "[I", Cond.fieldLink RX4 15 "PriceIndexCalculator$QuotationText" "month" "[I", Cond.fieldLink RX4 18 "PriceIndexCalculator$QuotationText" "price" "[I", Cond.fieldLink RX4 21 "PriceIndexCalculator$QuotationText" "characters" "[I", Cond.methodLink RX6 32 yX3_init, Cond.instanceMethod yX3_init]
def wsX6_init_r3 : List Cond := [Cond.code yX3_init cX3_init 2 none, Cond.methodLink RX3 3 objectInit, Cond.fieldLink RX3 9 "PriceIndexCalculator$PriceTable" "basket" "LPriceIndexCalculator$Basket;", Cond.classLink RX3 15 RX2, Cond.instantiable RX2 3, Cond.initialized RX2, Cond.fieldLink RX3 20 "PriceIndexCalculator$PriceTable" "effective" "LPriceIndexCalculator$PriceRows;", Cond.fieldLink RX3 24 "PriceIndexCalculator$PriceTable" "known" "LPriceIndexCalculator$PriceRows;", Cond.methodLink RX3 17 yX2_init, Cond.instanceMethod yX2_init, Cond.code yX2_init cX2_init 2 none, Cond.methodLink RX2 3 objectInit, Cond.arrayClass .boolean, Cond.fieldLink RX2 9 "PriceIndexCalculator$PriceRows" "exists" "[Z", Cond.arrayClass .float, Cond.fieldLink RX2 15 "PriceIndexCalculator$PriceRows" "price" "[F", Cond.fieldLink RX2 19 "PriceIndexCalculator$PriceRows" "basket" "LPriceIndexCalculator$Basket;"]
def wsX6_init : List Cond := .code yX6_init cX6_init 1 none :: ((wsX6_init_r1 ++ (wsX6_init_r2 ++ wsX6_init_r3)) ++ wsX00 ++ wsX60 ++ wsX10 ++ wsX40 ++ wsX30 ++ wsX20)
def wsX6_isStratum : List Cond := .code yX6_isStratum cX6_isStratum 1 (some .boolean) :: ([])
def wsX6_isWithin : List Cond := .code yX6_isWithin cX6_isWithin 3 (some .boolean) :: ([])
def wsX6_beginEdit_r1 : List Cond := [Cond.fieldLink RX6 19 "PriceIndexCalculator" "history" "LPriceIndexCalculator$History;", Cond.fieldLink RX6 12 "PriceIndexCalculator" "basket" "LPriceIndexCalculator$Basket;", Cond.fieldLink RX6 35 "PriceIndexCalculator" "table" "LPriceIndexCalculator$PriceTable;", Cond.methodLink RX6 189 yX1_keep, Cond.instanceMethod yX1_keep, Cond.selects RX1 yX1_keep yX1_keep, Cond.initialized RX1, Cond.code yX1_keep cX1_keep 3 none, Cond.fieldLink RX1 11 "PriceIndexCalculator$History" "ring" "[LPriceIndexCalculator$Basket;", Cond.fieldLink RX1 18 "PriceIndexCalculator$History" "next" "I", Cond.fieldLink RX1 26 "PriceIndexCalculator$History" "kept" "I", Cond.methodLink RX1 22 yX0_copyFrom, Cond.instanceMethod yX0_copyFrom, Cond.selects RX0 yX0_copyFrom yX0_copyFrom, Cond.initialized RX0, Cond.code yX0_copyFrom cX0_copyFrom 2 none, Cond.fieldLink RX0 36 "PriceIndexCalculator$Basket" "items" "I", Cond.fieldLink RX0 40 "PriceIndexCalculator$Basket" "formula" "I", Cond.fieldLink RX0 9 "PriceIndexCalculator$Basket" "weight" "[I", Cond.methodLink RX0 43 arraycopyName, Cond.native arraycopyName, Cond.static arraycopyName, Cond.initialized "java/lang/System", Cond.fieldLink RX0 15 "PriceIndexCalculator$Basket" "stratum" "[I"]
def wsX6_beginEdit_r2 : List Cond := [Cond.fieldLink RX0 18 "PriceIndexCalculator$Basket" "size" "[I", Cond.fieldLink RX0 21 "PriceIndexCalculator$Basket" "seasons" "[I", Cond.fieldLink RX0 24 "PriceIndexCalculator$Basket" "newItemOf" "[I", Cond.fieldLink RX0 27 "PriceIndexCalculator$Basket" "oldItemOf" "[I", Cond.fieldLink RX0 30 "PriceIndexCalculator$Basket" "overlap" "[I", Cond.fieldLink RX0 33 "PriceIndexCalculator$Basket" "quoted" "[I", Cond.methodLink RX6 182 yX3_outdate, Cond.instanceMethod yX3_outdate, Cond.selects RX3 yX3_outdate yX3_outdate, Cond.initialized RX3, Cond.code yX3_outdate cX3_outdate 1 none, Cond.fieldLink RX3 27 "PriceIndexCalculator$PriceTable" "fresh" "Z"]
def wsX6_beginEdit : List Cond := .code yX6_beginEdit cX6_beginEdit 1 none :: ((wsX6_beginEdit_r1 ++ wsX6_beginEdit_r2) ++ wsX60 ++ wsX10 ++ wsX00 ++ wsX30)
def wsX6_addItem_r1 : List Cond := [Cond.fieldLink RX6 12 "PriceIndexCalculator" "basket" "LPriceIndexCalculator$Basket;", Cond.fieldLink RX6 47 "PriceIndexCalculator$Basket" "items" "I", Cond.methodLink RX6 39 yX6_isStratum, Cond.static yX6_isStratum, Cond.initialized RX6, Cond.code yX6_isStratum cX6_isStratum 1 (some .boolean), Cond.methodLink RX6 43 yX6_isWithin, Cond.static yX6_isWithin, Cond.code yX6_isWithin cX6_isWithin 3 (some .boolean), Cond.methodLink RX6 51 yX6_beginEdit, Cond.instanceMethod yX6_beginEdit, Cond.selects RX6 yX6_beginEdit yX6_beginEdit, Cond.code yX6_beginEdit cX6_beginEdit 1 none, Cond.fieldLink RX6 19 "PriceIndexCalculator" "history" "LPriceIndexCalculator$History;", Cond.fieldLink RX6 35 "PriceIndexCalculator" "table" "LPriceIndexCalculator$PriceTable;", Cond.methodLink RX6 189 yX1_keep, Cond.instanceMethod yX1_keep, Cond.selects RX1 yX1_keep yX1_keep, Cond.initialized RX1, Cond.code yX1_keep cX1_keep 3 none, Cond.fieldLink RX1 11 "PriceIndexCalculator$History" "ring" "[LPriceIndexCalculator$Basket;", Cond.fieldLink RX1 18 "PriceIndexCalculator$History" "next" "I", Cond.fieldLink RX1 26 "PriceIndexCalculator$History" "kept" "I", Cond.methodLink RX1 22 yX0_copyFrom]
def wsX6_addItem_r2 : List Cond := [Cond.instanceMethod yX0_copyFrom, Cond.selects RX0 yX0_copyFrom yX0_copyFrom, Cond.initialized RX0, Cond.code yX0_copyFrom cX0_copyFrom 2 none, Cond.fieldLink RX0 36 "PriceIndexCalculator$Basket" "items" "I", Cond.fieldLink RX0 40 "PriceIndexCalculator$Basket" "formula" "I", Cond.fieldLink RX0 9 "PriceIndexCalculator$Basket" "weight" "[I", Cond.methodLink RX0 43 arraycopyName, Cond.native arraycopyName, Cond.static arraycopyName, Cond.initialized "java/lang/System", Cond.fieldLink RX0 15 "PriceIndexCalculator$Basket" "stratum" "[I", Cond.fieldLink RX0 18 "PriceIndexCalculator$Basket" "size" "[I", Cond.fieldLink RX0 21 "PriceIndexCalculator$Basket" "seasons" "[I", Cond.fieldLink RX0 24 "PriceIndexCalculator$Basket" "newItemOf" "[I", Cond.fieldLink RX0 27 "PriceIndexCalculator$Basket" "oldItemOf" "[I", Cond.fieldLink RX0 30 "PriceIndexCalculator$Basket" "overlap" "[I", Cond.fieldLink RX0 33 "PriceIndexCalculator$Basket" "quoted" "[I", Cond.methodLink RX6 182 yX3_outdate, Cond.instanceMethod yX3_outdate, Cond.selects RX3 yX3_outdate yX3_outdate, Cond.initialized RX3, Cond.code yX3_outdate cX3_outdate 1 none, Cond.fieldLink RX3 27 "PriceIndexCalculator$PriceTable" "fresh" "Z"]
def wsX6_addItem_r3 : List Cond := [Cond.methodLink RX6 54 yX0_append, Cond.instanceMethod yX0_append, Cond.selects RX0 yX0_append yX0_append, Cond.code yX0_append cX0_append 5 (some .int)]
def wsX6_addItem : List Cond := .code yX6_addItem cX6_addItem 4 (some .int) :: ((wsX6_addItem_r1 ++ (wsX6_addItem_r2 ++ wsX6_addItem_r3)) ++ wsX60 ++ wsX00 ++ wsX10 ++ wsX30)
def wsX6_itemCount : List Cond := .code yX6_itemCount cX6_itemCount 1 (some .int) :: ([.fieldLink RX6 12 "PriceIndexCalculator" "basket" "LPriceIndexCalculator$Basket;", .fieldLink RX6 47 "PriceIndexCalculator$Basket" "items" "I"] ++ wsX60 ++ wsX00)
def wsX6_isItem : List Cond := .code yX6_isItem cX6_isItem 2 (some .boolean) :: ([.fieldLink RX6 12 "PriceIndexCalculator" "basket" "LPriceIndexCalculator$Basket;", .fieldLink RX6 47 "PriceIndexCalculator$Basket" "items" "I"] ++ wsX60 ++ wsX00)
def wsX6_isMonth : List Cond := .code yX6_isMonth cX6_isMonth 1 (some .boolean) :: ([])
def wsX6_setPrice_r1 : List Cond := [Cond.constant RX6 64 (99999), Cond.fieldLink RX6 12 "PriceIndexCalculator" "basket" "LPriceIndexCalculator$Basket;", Cond.fieldLink RX6 65 "PriceIndexCalculator$Basket" "quoted" "[I", Cond.methodLink RX6 58 yX6_isItem, Cond.instanceMethod yX6_isItem, Cond.selects RX6 yX6_isItem yX6_isItem, Cond.initialized RX6, Cond.code yX6_isItem cX6_isItem 2 (some .boolean), Cond.fieldLink RX6 47 "PriceIndexCalculator$Basket" "items" "I", Cond.methodLink RX6 61 yX6_isMonth, Cond.static yX6_isMonth, Cond.code yX6_isMonth cX6_isMonth 1 (some .boolean), Cond.methodLink RX6 43 yX6_isWithin, Cond.static yX6_isWithin, Cond.code yX6_isWithin cX6_isWithin 3 (some .boolean), Cond.methodLink RX6 69 yX6_cell, Cond.static yX6_cell, Cond.code yX6_cell cX6_cell 2 (some .int), Cond.methodLink RX6 51 yX6_beginEdit, Cond.instanceMethod yX6_beginEdit, Cond.selects RX6 yX6_beginEdit yX6_beginEdit, Cond.code yX6_beginEdit cX6_beginEdit 1 none, Cond.fieldLink RX6 19 "PriceIndexCalculator" "history" "LPriceIndexCalculator$History;", Cond.fieldLink RX6 35 "PriceIndexCalculator" "table" "LPriceIndexCalculator$PriceTable;"]
def wsX6_setPrice_r2 : List Cond := [Cond.methodLink RX6 189 yX1_keep, Cond.instanceMethod yX1_keep, Cond.selects RX1 yX1_keep yX1_keep, Cond.initialized RX1, Cond.code yX1_keep cX1_keep 3 none, Cond.fieldLink RX1 11 "PriceIndexCalculator$History" "ring" "[LPriceIndexCalculator$Basket;", Cond.fieldLink RX1 18 "PriceIndexCalculator$History" "next" "I", Cond.fieldLink RX1 26 "PriceIndexCalculator$History" "kept" "I", Cond.methodLink RX1 22 yX0_copyFrom, Cond.instanceMethod yX0_copyFrom, Cond.selects RX0 yX0_copyFrom yX0_copyFrom, Cond.initialized RX0, Cond.code yX0_copyFrom cX0_copyFrom 2 none, Cond.fieldLink RX0 36 "PriceIndexCalculator$Basket" "items" "I", Cond.fieldLink RX0 40 "PriceIndexCalculator$Basket" "formula" "I", Cond.fieldLink RX0 9 "PriceIndexCalculator$Basket" "weight" "[I", Cond.methodLink RX0 43 arraycopyName, Cond.native arraycopyName, Cond.static arraycopyName, Cond.initialized "java/lang/System", Cond.fieldLink RX0 15 "PriceIndexCalculator$Basket" "stratum" "[I", Cond.fieldLink RX0 18 "PriceIndexCalculator$Basket" "size" "[I", Cond.fieldLink RX0 21 "PriceIndexCalculator$Basket" "seasons" "[I", Cond.fieldLink RX0 24 "PriceIndexCalculator$Basket" "newItemOf" "[I"]
def wsX6_setPrice_r3 : List Cond := [Cond.fieldLink RX0 27 "PriceIndexCalculator$Basket" "oldItemOf" "[I", Cond.fieldLink RX0 30 "PriceIndexCalculator$Basket" "overlap" "[I", Cond.fieldLink RX0 33 "PriceIndexCalculator$Basket" "quoted" "[I", Cond.methodLink RX6 182 yX3_outdate, Cond.instanceMethod yX3_outdate, Cond.selects RX3 yX3_outdate yX3_outdate, Cond.initialized RX3, Cond.code yX3_outdate cX3_outdate 1 none, Cond.fieldLink RX3 27 "PriceIndexCalculator$PriceTable" "fresh" "Z"]
def wsX6_setPrice : List Cond := .code yX6_setPrice cX6_setPrice 5 (some .int) :: ((wsX6_setPrice_r1 ++ (wsX6_setPrice_r2 ++ wsX6_setPrice_r3)) ++ wsX60 ++ wsX00 ++ wsX10 ++ wsX30)
def wsX6_quotedPrice : List Cond := .code yX6_quotedPrice cX6_quotedPrice 3 (some .int) :: ([.fieldLink RX6 12 "PriceIndexCalculator" "basket" "LPriceIndexCalculator$Basket;", .fieldLink RX6 65 "PriceIndexCalculator$Basket" "quoted" "[I", .methodLink RX6 58 yX6_isItem, .instanceMethod yX6_isItem, .selects RX6 yX6_isItem yX6_isItem, .initialized RX6, .code yX6_isItem cX6_isItem 2 (some .boolean), .fieldLink RX6 47 "PriceIndexCalculator$Basket" "items" "I", .methodLink RX6 61 yX6_isMonth, .static yX6_isMonth, .code yX6_isMonth cX6_isMonth 1 (some .boolean), .methodLink RX6 69 yX6_cell, .static yX6_cell, .code yX6_cell cX6_cell 2 (some .int)] ++ wsX60 ++ wsX00)
def wsX6_appendCharacter : List Cond := .code yX6_appendCharacter cX6_appendCharacter 2 (some .int) :: ([.fieldLink RX6 26 "PriceIndexCalculator" "text" "LPriceIndexCalculator$QuotationText;", .fieldLink RX6 73 "PriceIndexCalculator$QuotationText" "length" "I", .methodLink RX6 43 yX6_isWithin, .static yX6_isWithin, .initialized RX6, .code yX6_isWithin cX6_isWithin 3 (some .boolean), .methodLink RX6 76 yX4_append, .instanceMethod yX4_append, .selects RX4 yX4_append yX4_append, .initialized RX4, .code yX4_append cX4_append 2 (some .int), .fieldLink RX4 21 "PriceIndexCalculator$QuotationText" "characters" "[I", .fieldLink RX4 24 "PriceIndexCalculator$QuotationText" "length" "I"] ++ wsX60 ++ wsX40)
def wsX6_clearText : List Cond := .code yX6_clearText cX6_clearText 1 (some .int) :: ([.fieldLink RX6 26 "PriceIndexCalculator" "text" "LPriceIndexCalculator$QuotationText;", .methodLink RX6 79 yX4_clear, .instanceMethod yX4_clear, .selects RX4 yX4_clear yX4_clear, .initialized RX4, .code yX4_clear cX4_clear 2 (some .int), .fieldLink RX4 24 "PriceIndexCalculator$QuotationText" "length" "I"] ++ wsX60 ++ wsX40)
def wsX6_importPrices_r1 : List Cond := [Cond.fieldLink RX6 26 "PriceIndexCalculator" "text" "LPriceIndexCalculator$QuotationText;", Cond.fieldLink RX6 12 "PriceIndexCalculator" "basket" "LPriceIndexCalculator$Basket;", Cond.fieldLink RX6 47 "PriceIndexCalculator$Basket" "items" "I", Cond.fieldLink RX6 65 "PriceIndexCalculator$Basket" "quoted" "[I", Cond.fieldLink RX6 86 "PriceIndexCalculator$QuotationText" "item" "[I", Cond.fieldLink RX6 89 "PriceIndexCalculator$QuotationText" "month" "[I", Cond.fieldLink RX6 92 "PriceIndexCalculator$QuotationText" "price" "[I", Cond.methodLink RX6 83 yX4_read, Cond.instanceMethod yX4_read, Cond.selects RX4 yX4_read yX4_read, Cond.initialized RX4, Cond.code yX4_read cX4_read 3 (some .int), Cond.fieldLink RX4 28 "PriceIndexCalculator$QuotationText" "position" "I", Cond.fieldLink RX4 24 "PriceIndexCalculator$QuotationText" "length" "I", Cond.methodLink RX4 31 yX4_readQuotation, Cond.instanceMethod yX4_readQuotation, Cond.selects RX4 yX4_readQuotation yX4_readQuotation, Cond.code yX4_readQuotation cX4_readQuotation 3 (some .boolean), Cond.fieldLink RX4 9 "PriceIndexCalculator$QuotationText" "item" "[I", Cond.fieldLink RX4 15 "PriceIndexCalculator$QuotationText" "month" "[I", Cond.fieldLink RX4 18 "PriceIndexCalculator$QuotationText" "price" "[I", Cond.constant RX4 43 (99999), Cond.methodLink RX4 35 yX4_readNumber, Cond.instanceMethod yX4_readNumber]
def wsX6_importPrices_r2 : List Cond := [Cond.selects RX4 yX4_readNumber yX4_readNumber, Cond.code yX4_readNumber cX4_readNumber 5 (some .int), Cond.fieldLink RX4 21 "PriceIndexCalculator$QuotationText" "characters" "[I", Cond.methodLink RX4 44 yX4_isDigit, Cond.static yX4_isDigit, Cond.code yX4_isDigit cX4_isDigit 1 (some .boolean), Cond.methodLink RX4 48 yX4_hasNumberForm, Cond.instanceMethod yX4_hasNumberForm, Cond.selects RX4 yX4_hasNumberForm yX4_hasNumberForm, Cond.code yX4_hasNumberForm cX4_hasNumberForm 3 (some .boolean), Cond.methodLink RX4 39 yX4_skip, Cond.instanceMethod yX4_skip, Cond.selects RX4 yX4_skip yX4_skip, Cond.code yX4_skip cX4_skip 2 (some .boolean), Cond.methodLink RX6 51 yX6_beginEdit, Cond.instanceMethod yX6_beginEdit, Cond.selects RX6 yX6_beginEdit yX6_beginEdit, Cond.initialized RX6, Cond.code yX6_beginEdit cX6_beginEdit 1 none, Cond.fieldLink RX6 19 "PriceIndexCalculator" "history" "LPriceIndexCalculator$History;", Cond.fieldLink RX6 35 "PriceIndexCalculator" "table" "LPriceIndexCalculator$PriceTable;", Cond.methodLink RX6 189 yX1_keep, Cond.instanceMethod yX1_keep, Cond.selects RX1 yX1_keep yX1_keep]
def wsX6_importPrices_r3 : List Cond := [Cond.initialized RX1, Cond.code yX1_keep cX1_keep 3 none, Cond.fieldLink RX1 11 "PriceIndexCalculator$History" "ring" "[LPriceIndexCalculator$Basket;", Cond.fieldLink RX1 18 "PriceIndexCalculator$History" "next" "I", Cond.fieldLink RX1 26 "PriceIndexCalculator$History" "kept" "I", Cond.methodLink RX1 22 yX0_copyFrom, Cond.instanceMethod yX0_copyFrom, Cond.selects RX0 yX0_copyFrom yX0_copyFrom, Cond.initialized RX0, Cond.code yX0_copyFrom cX0_copyFrom 2 none, Cond.fieldLink RX0 36 "PriceIndexCalculator$Basket" "items" "I", Cond.fieldLink RX0 40 "PriceIndexCalculator$Basket" "formula" "I", Cond.fieldLink RX0 9 "PriceIndexCalculator$Basket" "weight" "[I", Cond.methodLink RX0 43 arraycopyName, Cond.native arraycopyName, Cond.static arraycopyName, Cond.initialized "java/lang/System", Cond.fieldLink RX0 15 "PriceIndexCalculator$Basket" "stratum" "[I", Cond.fieldLink RX0 18 "PriceIndexCalculator$Basket" "size" "[I", Cond.fieldLink RX0 21 "PriceIndexCalculator$Basket" "seasons" "[I", Cond.fieldLink RX0 24 "PriceIndexCalculator$Basket" "newItemOf" "[I", Cond.fieldLink RX0 27 "PriceIndexCalculator$Basket" "oldItemOf" "[I", Cond.fieldLink RX0 30 "PriceIndexCalculator$Basket" "overlap" "[I", Cond.fieldLink RX0 33 "PriceIndexCalculator$Basket" "quoted" "[I"]
def wsX6_importPrices_r4 : List Cond := [Cond.methodLink RX6 182 yX3_outdate, Cond.instanceMethod yX3_outdate, Cond.selects RX3 yX3_outdate yX3_outdate, Cond.initialized RX3, Cond.code yX3_outdate cX3_outdate 1 none, Cond.fieldLink RX3 27 "PriceIndexCalculator$PriceTable" "fresh" "Z", Cond.methodLink RX6 69 yX6_cell, Cond.static yX6_cell, Cond.code yX6_cell cX6_cell 2 (some .int), Cond.methodLink RX6 79 yX4_clear, Cond.instanceMethod yX4_clear, Cond.selects RX4 yX4_clear yX4_clear, Cond.code yX4_clear cX4_clear 2 (some .int)]
def wsX6_importPrices : List Cond := .code yX6_importPrices cX6_importPrices 3 (some .int) :: ((wsX6_importPrices_r1 ++ (wsX6_importPrices_r2 ++ (wsX6_importPrices_r3 ++ wsX6_importPrices_r4))) ++ wsX60 ++ wsX00 ++ wsX40 ++ wsX10 ++ wsX30)
def wsX6_replaceItem_r1 : List Cond := [Cond.fieldLink RX6 12 "PriceIndexCalculator" "basket" "LPriceIndexCalculator$Basket;", Cond.methodLink RX6 58 yX6_isItem, Cond.instanceMethod yX6_isItem, Cond.selects RX6 yX6_isItem yX6_isItem, Cond.initialized RX6, Cond.code yX6_isItem cX6_isItem 2 (some .boolean), Cond.fieldLink RX6 47 "PriceIndexCalculator$Basket" "items" "I", Cond.methodLink RX6 61 yX6_isMonth, Cond.static yX6_isMonth, Cond.code yX6_isMonth cX6_isMonth 1 (some .boolean), Cond.methodLink RX6 95 yX0_canLink, Cond.instanceMethod yX0_canLink, Cond.selects RX0 yX0_canLink yX0_canLink, Cond.initialized RX0, Cond.code yX0_canLink cX0_canLink 4 (some .boolean), Cond.fieldLink RX0 15 "PriceIndexCalculator$Basket" "stratum" "[I", Cond.methodLink RX0 49 yX0_isLinked, Cond.instanceMethod yX0_isLinked, Cond.selects RX0 yX0_isLinked yX0_isLinked, Cond.code yX0_isLinked cX0_isLinked 2 (some .boolean), Cond.fieldLink RX0 24 "PriceIndexCalculator$Basket" "newItemOf" "[I", Cond.fieldLink RX0 27 "PriceIndexCalculator$Basket" "oldItemOf" "[I", Cond.methodLink RX0 53 yX0_hasObserved, Cond.instanceMethod yX0_hasObserved]
def wsX6_replaceItem_r2 : List Cond := [Cond.selects RX0 yX0_hasObserved yX0_hasObserved, Cond.code yX0_hasObserved cX0_hasObserved 4 (some .boolean), Cond.fieldLink RX0 21 "PriceIndexCalculator$Basket" "seasons" "[I", Cond.fieldLink RX0 33 "PriceIndexCalculator$Basket" "quoted" "[I", Cond.static yX6_cell, Cond.code yX6_cell cX6_cell 2 (some .int), Cond.methodLink RX6 51 yX6_beginEdit, Cond.instanceMethod yX6_beginEdit, Cond.selects RX6 yX6_beginEdit yX6_beginEdit, Cond.code yX6_beginEdit cX6_beginEdit 1 none, Cond.fieldLink RX6 19 "PriceIndexCalculator" "history" "LPriceIndexCalculator$History;", Cond.fieldLink RX6 35 "PriceIndexCalculator" "table" "LPriceIndexCalculator$PriceTable;", Cond.methodLink RX6 189 yX1_keep, Cond.instanceMethod yX1_keep, Cond.selects RX1 yX1_keep yX1_keep, Cond.initialized RX1, Cond.code yX1_keep cX1_keep 3 none, Cond.fieldLink RX1 11 "PriceIndexCalculator$History" "ring" "[LPriceIndexCalculator$Basket;", Cond.fieldLink RX1 18 "PriceIndexCalculator$History" "next" "I", Cond.fieldLink RX1 26 "PriceIndexCalculator$History" "kept" "I", Cond.methodLink RX1 22 yX0_copyFrom, Cond.instanceMethod yX0_copyFrom, Cond.selects RX0 yX0_copyFrom yX0_copyFrom, Cond.code yX0_copyFrom cX0_copyFrom 2 none]
def wsX6_replaceItem_r3 : List Cond := [Cond.fieldLink RX0 36 "PriceIndexCalculator$Basket" "items" "I", Cond.fieldLink RX0 40 "PriceIndexCalculator$Basket" "formula" "I", Cond.fieldLink RX0 9 "PriceIndexCalculator$Basket" "weight" "[I", Cond.methodLink RX0 43 arraycopyName, Cond.native arraycopyName, Cond.static arraycopyName, Cond.initialized "java/lang/System", Cond.fieldLink RX0 18 "PriceIndexCalculator$Basket" "size" "[I", Cond.fieldLink RX0 30 "PriceIndexCalculator$Basket" "overlap" "[I", Cond.methodLink RX6 182 yX3_outdate, Cond.instanceMethod yX3_outdate, Cond.selects RX3 yX3_outdate yX3_outdate, Cond.initialized RX3, Cond.code yX3_outdate cX3_outdate 1 none, Cond.fieldLink RX3 27 "PriceIndexCalculator$PriceTable" "fresh" "Z", Cond.methodLink RX6 98 yX0_link, Cond.instanceMethod yX0_link, Cond.selects RX0 yX0_link yX0_link, Cond.code yX0_link cX0_link 4 none, Cond.methodLink RX6 102 yX0_linkCount, Cond.instanceMethod yX0_linkCount, Cond.selects RX0 yX0_linkCount yX0_linkCount, Cond.code yX0_linkCount cX0_linkCount 3 (some .int)]
def wsX6_replaceItem : List Cond := .code yX6_replaceItem cX6_replaceItem 4 (some .int) :: ((wsX6_replaceItem_r1 ++ (wsX6_replaceItem_r2 ++ wsX6_replaceItem_r3)) ++ wsX60 ++ wsX00 ++ wsX10 ++ wsX30)
def wsX6_endReplacement_r1 : List Cond := [Cond.fieldLink RX6 12 "PriceIndexCalculator" "basket" "LPriceIndexCalculator$Basket;", Cond.methodLink RX6 58 yX6_isItem, Cond.instanceMethod yX6_isItem, Cond.selects RX6 yX6_isItem yX6_isItem, Cond.initialized RX6, Cond.code yX6_isItem cX6_isItem 2 (some .boolean), Cond.fieldLink RX6 47 "PriceIndexCalculator$Basket" "items" "I", Cond.methodLink RX6 105 yX0_isLinked, Cond.instanceMethod yX0_isLinked, Cond.selects RX0 yX0_isLinked yX0_isLinked, Cond.initialized RX0, Cond.code yX0_isLinked cX0_isLinked 2 (some .boolean), Cond.fieldLink RX0 24 "PriceIndexCalculator$Basket" "newItemOf" "[I", Cond.fieldLink RX0 27 "PriceIndexCalculator$Basket" "oldItemOf" "[I", Cond.methodLink RX6 51 yX6_beginEdit, Cond.instanceMethod yX6_beginEdit, Cond.selects RX6 yX6_beginEdit yX6_beginEdit, Cond.code yX6_beginEdit cX6_beginEdit 1 none, Cond.fieldLink RX6 19 "PriceIndexCalculator" "history" "LPriceIndexCalculator$History;", Cond.fieldLink RX6 35 "PriceIndexCalculator" "table" "LPriceIndexCalculator$PriceTable;", Cond.methodLink RX6 189 yX1_keep, Cond.instanceMethod yX1_keep, Cond.selects RX1 yX1_keep yX1_keep, Cond.initialized RX1]
def wsX6_endReplacement_r2 : List Cond := [Cond.code yX1_keep cX1_keep 3 none, Cond.fieldLink RX1 11 "PriceIndexCalculator$History" "ring" "[LPriceIndexCalculator$Basket;", Cond.fieldLink RX1 18 "PriceIndexCalculator$History" "next" "I", Cond.fieldLink RX1 26 "PriceIndexCalculator$History" "kept" "I", Cond.methodLink RX1 22 yX0_copyFrom, Cond.instanceMethod yX0_copyFrom, Cond.selects RX0 yX0_copyFrom yX0_copyFrom, Cond.code yX0_copyFrom cX0_copyFrom 2 none, Cond.fieldLink RX0 36 "PriceIndexCalculator$Basket" "items" "I", Cond.fieldLink RX0 40 "PriceIndexCalculator$Basket" "formula" "I", Cond.fieldLink RX0 9 "PriceIndexCalculator$Basket" "weight" "[I", Cond.methodLink RX0 43 arraycopyName, Cond.native arraycopyName, Cond.static arraycopyName, Cond.initialized "java/lang/System", Cond.fieldLink RX0 15 "PriceIndexCalculator$Basket" "stratum" "[I", Cond.fieldLink RX0 18 "PriceIndexCalculator$Basket" "size" "[I", Cond.fieldLink RX0 21 "PriceIndexCalculator$Basket" "seasons" "[I", Cond.fieldLink RX0 30 "PriceIndexCalculator$Basket" "overlap" "[I", Cond.fieldLink RX0 33 "PriceIndexCalculator$Basket" "quoted" "[I", Cond.methodLink RX6 182 yX3_outdate, Cond.instanceMethod yX3_outdate, Cond.selects RX3 yX3_outdate yX3_outdate, Cond.initialized RX3]
def wsX6_endReplacement_r3 : List Cond := [Cond.code yX3_outdate cX3_outdate 1 none, Cond.fieldLink RX3 27 "PriceIndexCalculator$PriceTable" "fresh" "Z", Cond.methodLink RX6 108 yX0_unlink, Cond.instanceMethod yX0_unlink, Cond.selects RX0 yX0_unlink yX0_unlink, Cond.code yX0_unlink cX0_unlink 4 none, Cond.methodLink RX6 102 yX0_linkCount, Cond.instanceMethod yX0_linkCount, Cond.selects RX0 yX0_linkCount yX0_linkCount, Cond.code yX0_linkCount cX0_linkCount 3 (some .int)]
def wsX6_endReplacement : List Cond := .code yX6_endReplacement cX6_endReplacement 2 (some .int) :: ((wsX6_endReplacement_r1 ++ (wsX6_endReplacement_r2 ++ wsX6_endReplacement_r3)) ++ wsX60 ++ wsX00 ++ wsX10 ++ wsX30)
def wsX6_replacementOf : List Cond := .code yX6_replacementOf cX6_replacementOf 3 (some .int) :: ([.fieldLink RX6 12 "PriceIndexCalculator" "basket" "LPriceIndexCalculator$Basket;", .fieldLink RX6 112 "PriceIndexCalculator$Basket" "newItemOf" "[I", .methodLink RX6 58 yX6_isItem, .instanceMethod yX6_isItem, .selects RX6 yX6_isItem yX6_isItem, .initialized RX6, .code yX6_isItem cX6_isItem 2 (some .boolean), .fieldLink RX6 47 "PriceIndexCalculator$Basket" "items" "I"] ++ wsX60 ++ wsX00)
def wsX6_setWeight_r1 : List Cond := [Cond.fieldLink RX6 12 "PriceIndexCalculator" "basket" "LPriceIndexCalculator$Basket;", Cond.fieldLink RX6 115 "PriceIndexCalculator$Basket" "weight" "[I", Cond.methodLink RX6 39 yX6_isStratum, Cond.static yX6_isStratum, Cond.initialized RX6, Cond.code yX6_isStratum cX6_isStratum 1 (some .boolean), Cond.methodLink RX6 43 yX6_isWithin, Cond.static yX6_isWithin, Cond.code yX6_isWithin cX6_isWithin 3 (some .boolean), Cond.methodLink RX6 51 yX6_beginEdit, Cond.instanceMethod yX6_beginEdit, Cond.selects RX6 yX6_beginEdit yX6_beginEdit, Cond.code yX6_beginEdit cX6_beginEdit 1 none, Cond.fieldLink RX6 19 "PriceIndexCalculator" "history" "LPriceIndexCalculator$History;", Cond.fieldLink RX6 35 "PriceIndexCalculator" "table" "LPriceIndexCalculator$PriceTable;", Cond.methodLink RX6 189 yX1_keep, Cond.instanceMethod yX1_keep, Cond.selects RX1 yX1_keep yX1_keep, Cond.initialized RX1, Cond.code yX1_keep cX1_keep 3 none, Cond.fieldLink RX1 11 "PriceIndexCalculator$History" "ring" "[LPriceIndexCalculator$Basket;", Cond.fieldLink RX1 18 "PriceIndexCalculator$History" "next" "I", Cond.fieldLink RX1 26 "PriceIndexCalculator$History" "kept" "I", Cond.methodLink RX1 22 yX0_copyFrom]
def wsX6_setWeight_r2 : List Cond := [Cond.instanceMethod yX0_copyFrom, Cond.selects RX0 yX0_copyFrom yX0_copyFrom, Cond.initialized RX0, Cond.code yX0_copyFrom cX0_copyFrom 2 none, Cond.fieldLink RX0 36 "PriceIndexCalculator$Basket" "items" "I", Cond.fieldLink RX0 40 "PriceIndexCalculator$Basket" "formula" "I", Cond.fieldLink RX0 9 "PriceIndexCalculator$Basket" "weight" "[I", Cond.methodLink RX0 43 arraycopyName, Cond.native arraycopyName, Cond.static arraycopyName, Cond.initialized "java/lang/System", Cond.fieldLink RX0 15 "PriceIndexCalculator$Basket" "stratum" "[I", Cond.fieldLink RX0 18 "PriceIndexCalculator$Basket" "size" "[I", Cond.fieldLink RX0 21 "PriceIndexCalculator$Basket" "seasons" "[I", Cond.fieldLink RX0 24 "PriceIndexCalculator$Basket" "newItemOf" "[I", Cond.fieldLink RX0 27 "PriceIndexCalculator$Basket" "oldItemOf" "[I", Cond.fieldLink RX0 30 "PriceIndexCalculator$Basket" "overlap" "[I", Cond.fieldLink RX0 33 "PriceIndexCalculator$Basket" "quoted" "[I", Cond.methodLink RX6 182 yX3_outdate, Cond.instanceMethod yX3_outdate, Cond.selects RX3 yX3_outdate yX3_outdate, Cond.initialized RX3, Cond.code yX3_outdate cX3_outdate 1 none, Cond.fieldLink RX3 27 "PriceIndexCalculator$PriceTable" "fresh" "Z"]
def wsX6_setWeight : List Cond := .code yX6_setWeight cX6_setWeight 4 (some .int) :: ((wsX6_setWeight_r1 ++ wsX6_setWeight_r2) ++ wsX60 ++ wsX00 ++ wsX10 ++ wsX30)
def wsX6_setFormula_r1 : List Cond := [Cond.fieldLink RX6 12 "PriceIndexCalculator" "basket" "LPriceIndexCalculator$Basket;", Cond.fieldLink RX6 118 "PriceIndexCalculator$Basket" "formula" "I", Cond.methodLink RX6 43 yX6_isWithin, Cond.static yX6_isWithin, Cond.initialized RX6, Cond.code yX6_isWithin cX6_isWithin 3 (some .boolean), Cond.methodLink RX6 51 yX6_beginEdit, Cond.instanceMethod yX6_beginEdit, Cond.selects RX6 yX6_beginEdit yX6_beginEdit, Cond.code yX6_beginEdit cX6_beginEdit 1 none, Cond.fieldLink RX6 19 "PriceIndexCalculator" "history" "LPriceIndexCalculator$History;", Cond.fieldLink RX6 35 "PriceIndexCalculator" "table" "LPriceIndexCalculator$PriceTable;", Cond.methodLink RX6 189 yX1_keep, Cond.instanceMethod yX1_keep, Cond.selects RX1 yX1_keep yX1_keep, Cond.initialized RX1, Cond.code yX1_keep cX1_keep 3 none, Cond.fieldLink RX1 11 "PriceIndexCalculator$History" "ring" "[LPriceIndexCalculator$Basket;", Cond.fieldLink RX1 18 "PriceIndexCalculator$History" "next" "I", Cond.fieldLink RX1 26 "PriceIndexCalculator$History" "kept" "I", Cond.methodLink RX1 22 yX0_copyFrom, Cond.instanceMethod yX0_copyFrom, Cond.selects RX0 yX0_copyFrom yX0_copyFrom, Cond.initialized RX0]
def wsX6_setFormula_r2 : List Cond := [Cond.code yX0_copyFrom cX0_copyFrom 2 none, Cond.fieldLink RX0 36 "PriceIndexCalculator$Basket" "items" "I", Cond.fieldLink RX0 40 "PriceIndexCalculator$Basket" "formula" "I", Cond.fieldLink RX0 9 "PriceIndexCalculator$Basket" "weight" "[I", Cond.methodLink RX0 43 arraycopyName, Cond.native arraycopyName, Cond.static arraycopyName, Cond.initialized "java/lang/System", Cond.fieldLink RX0 15 "PriceIndexCalculator$Basket" "stratum" "[I", Cond.fieldLink RX0 18 "PriceIndexCalculator$Basket" "size" "[I", Cond.fieldLink RX0 21 "PriceIndexCalculator$Basket" "seasons" "[I", Cond.fieldLink RX0 24 "PriceIndexCalculator$Basket" "newItemOf" "[I", Cond.fieldLink RX0 27 "PriceIndexCalculator$Basket" "oldItemOf" "[I", Cond.fieldLink RX0 30 "PriceIndexCalculator$Basket" "overlap" "[I", Cond.fieldLink RX0 33 "PriceIndexCalculator$Basket" "quoted" "[I", Cond.methodLink RX6 182 yX3_outdate, Cond.instanceMethod yX3_outdate, Cond.selects RX3 yX3_outdate yX3_outdate, Cond.initialized RX3, Cond.code yX3_outdate cX3_outdate 1 none, Cond.fieldLink RX3 27 "PriceIndexCalculator$PriceTable" "fresh" "Z"]
def wsX6_setFormula : List Cond := .code yX6_setFormula cX6_setFormula 3 (some .int) :: ((wsX6_setFormula_r1 ++ wsX6_setFormula_r2) ++ wsX60 ++ wsX00 ++ wsX10 ++ wsX30)
def wsX6_knownPriceBits_r1 : List Cond := [Cond.fieldLink RX6 35 "PriceIndexCalculator" "table" "LPriceIndexCalculator$PriceTable;", Cond.fieldLink RX6 124 "PriceIndexCalculator$PriceTable" "known" "LPriceIndexCalculator$PriceRows;", Cond.methodLink RX6 58 yX6_isItem, Cond.instanceMethod yX6_isItem, Cond.selects RX6 yX6_isItem yX6_isItem, Cond.initialized RX6, Cond.code yX6_isItem cX6_isItem 2 (some .boolean), Cond.fieldLink RX6 12 "PriceIndexCalculator" "basket" "LPriceIndexCalculator$Basket;", Cond.fieldLink RX6 47 "PriceIndexCalculator$Basket" "items" "I", Cond.methodLink RX6 61 yX6_isMonth, Cond.static yX6_isMonth, Cond.code yX6_isMonth cX6_isMonth 1 (some .boolean), Cond.methodLink RX6 121 yX3_refresh, Cond.instanceMethod yX3_refresh, Cond.selects RX3 yX3_refresh yX3_refresh, Cond.initialized RX3, Cond.code yX3_refresh cX3_refresh 2 none, Cond.fieldLink RX3 27 "PriceIndexCalculator$PriceTable" "fresh" "Z", Cond.fieldLink RX3 9 "PriceIndexCalculator$PriceTable" "basket" "LPriceIndexCalculator$Basket;", Cond.fieldLink RX3 31 "PriceIndexCalculator$Basket" "items" "I", Cond.methodLink RX3 37 yX3_fillEffective, Cond.instanceMethod yX3_fillEffective, Cond.selects RX3 yX3_fillEffective yX3_fillEffective, Cond.code yX3_fillEffective cX3_fillEffective 3 none]
def wsX6_knownPriceBits_r2 : List Cond := [Cond.fieldLink RX3 20 "PriceIndexCalculator$PriceTable" "effective" "LPriceIndexCalculator$PriceRows;", Cond.methodLink RX3 44 yX0_hasEffective, Cond.instanceMethod yX0_hasEffective, Cond.selects RX0 yX0_hasEffective yX0_hasEffective, Cond.initialized RX0, Cond.code yX0_hasEffective cX0_hasEffective 4 (some .boolean), Cond.fieldLink RX0 27 "PriceIndexCalculator$Basket" "oldItemOf" "[I", Cond.fieldLink RX0 24 "PriceIndexCalculator$Basket" "newItemOf" "[I", Cond.fieldLink RX0 30 "PriceIndexCalculator$Basket" "overlap" "[I", Cond.methodLink RX0 67 yX0_isPricedByNewItem, Cond.instanceMethod yX0_isPricedByNewItem, Cond.selects RX0 yX0_isPricedByNewItem yX0_isPricedByNewItem, Cond.code yX0_isPricedByNewItem cX0_isPricedByNewItem 3 (some .boolean), Cond.methodLink RX0 53 yX0_hasObserved, Cond.instanceMethod yX0_hasObserved, Cond.selects RX0 yX0_hasObserved yX0_hasObserved, Cond.code yX0_hasObserved cX0_hasObserved 4 (some .boolean), Cond.fieldLink RX0 21 "PriceIndexCalculator$Basket" "seasons" "[I", Cond.fieldLink RX0 33 "PriceIndexCalculator$Basket" "quoted" "[I", Cond.static yX6_cell, Cond.code yX6_cell cX6_cell 2 (some .int), Cond.methodLink RX3 48 yX0_effective, Cond.instanceMethod yX0_effective, Cond.selects RX0 yX0_effective yX0_effective]
def wsX6_knownPriceBits_r3 : List Cond := [Cond.code yX0_effective cX0_effective 5 (some .float), Cond.methodLink RX0 70 yX0_observed, Cond.instanceMethod yX0_observed, Cond.selects RX0 yX0_observed yX0_observed, Cond.code yX0_observed cX0_observed 3 (some .float), Cond.fieldLink RX0 18 "PriceIndexCalculator$Basket" "size" "[I", Cond.methodLink RX0 61 yX5_over, Cond.static yX5_over, Cond.initialized RX5, Cond.code yX5_over cX5_over 2 (some .float), Cond.methodLink RX5 9 yX5_isNan, Cond.static yX5_isNan, Cond.code yX5_isNan cX5_isNan 1 (some .boolean), Cond.methodLink RX5 19 yX5_isInfinite, Cond.static yX5_isInfinite, Cond.code yX5_isInfinite cX5_isInfinite 1 (some .boolean), Cond.constantFloat RX5 8 (2139095039), Cond.methodLink RX5 15 yX5_nan, Cond.static yX5_nan, Cond.code yX5_nan cX5_nan 0 (some .float), Cond.constantFloat RX5 7 (3212836864), Cond.methodLink RX0 74 yX5_times, Cond.static yX5_times, Cond.code yX5_times cX5_times 2 (some .float)]
def wsX6_knownPriceBits_r4 : List Cond := [Cond.methodLink RX3 51 yX2_put, Cond.instanceMethod yX2_put, Cond.selects RX2 yX2_put yX2_put, Cond.initialized RX2, Cond.code yX2_put cX2_put 4 none, Cond.fieldLink RX2 9 "PriceIndexCalculator$PriceRows" "exists" "[Z", Cond.fieldLink RX2 15 "PriceIndexCalculator$PriceRows" "price" "[F", Cond.methodLink RX3 55 yX2_remove, Cond.instanceMethod yX2_remove, Cond.selects RX2 yX2_remove yX2_remove, Cond.code yX2_remove cX2_remove 3 none, Cond.methodLink RX3 41 yX3_fillKnown, Cond.instanceMethod yX3_fillKnown, Cond.selects RX3 yX3_fillKnown yX3_fillKnown, Cond.code yX3_fillKnown cX3_fillKnown 5 none, Cond.fieldLink RX3 63 "PriceIndexCalculator$Basket" "stratum" "[I", Cond.methodLink RX3 59 yX2_movement, Cond.instanceMethod yX2_movement, Cond.selects RX2 yX2_movement yX2_movement, Cond.code yX2_movement cX2_movement 5 (some .float), Cond.fieldLink RX2 19 "PriceIndexCalculator$PriceRows" "basket" "LPriceIndexCalculator$Basket;", Cond.fieldLink RX2 45 "PriceIndexCalculator$Basket" "formula" "I", Cond.methodLink RX2 41 yX2_countMatched, Cond.instanceMethod yX2_countMatched]
def wsX6_knownPriceBits_r5 : List Cond := [Cond.selects RX2 yX2_countMatched yX2_countMatched, Cond.code yX2_countMatched cX2_countMatched 6 (some .int), Cond.fieldLink RX2 33 "PriceIndexCalculator$Basket" "items" "I", Cond.methodLink RX2 37 yX2_isMatched, Cond.instanceMethod yX2_isMatched, Cond.selects RX2 yX2_isMatched yX2_isMatched, Cond.code yX2_isMatched cX2_isMatched 5 (some .boolean), Cond.fieldLink RX2 27 "PriceIndexCalculator$Basket" "stratum" "[I", Cond.methodLink RX2 48 yX2_sumOfPrices, Cond.instanceMethod yX2_sumOfPrices, Cond.selects RX2 yX2_sumOfPrices yX2_sumOfPrices, Cond.code yX2_sumOfPrices cX2_sumOfPrices 7 (some .float), Cond.methodLink RX2 62 yX2_get, Cond.instanceMethod yX2_get, Cond.selects RX2 yX2_get yX2_get, Cond.code yX2_get cX2_get 3 (some .float), Cond.methodLink RX2 66 yX5_plus, Cond.static yX5_plus, Cond.code yX5_plus cX5_plus 2 (some .float), Cond.methodLink RX2 52 yX5_over, Cond.methodLink RX2 58 yX2_sumOfRatios, Cond.instanceMethod yX2_sumOfRatios, Cond.selects RX2 yX2_sumOfRatios yX2_sumOfRatios, Cond.code yX2_sumOfRatios cX2_sumOfRatios 6 (some .float)]
def wsX6_knownPriceBits_r6 : List Cond := [Cond.methodLink RX3 67 yX3_fillKnownCell, Cond.instanceMethod yX3_fillKnownCell, Cond.selects RX3 yX3_fillKnownCell yX3_fillKnownCell, Cond.code yX3_fillKnownCell cX3_fillKnownCell 4 none, Cond.fieldLink RX3 24 "PriceIndexCalculator$PriceTable" "known" "LPriceIndexCalculator$PriceRows;", Cond.methodLink RX3 70 yX2_has, Cond.instanceMethod yX2_has, Cond.selects RX2 yX2_has yX2_has, Cond.code yX2_has cX2_has 3 (some .boolean), Cond.methodLink RX3 73 yX2_get, Cond.methodLink RX3 76 yX5_times, Cond.methodLink RX6 128 yX2_has, Cond.methodLink RX6 134 yX2_get, Cond.methodLink RX6 138 yX5_bits, Cond.static yX5_bits, Cond.code yX5_bits cX5_bits 3 (some .int), Cond.constant RX5 24 (2143289344), Cond.constant RX5 25 (2139095040), Cond.constantFloat RX5 26 (1258291200)]
def wsX6_knownPriceBits : List Cond := .code yX6_knownPriceBits cX6_knownPriceBits 3 (some .int) :: ((wsX6_knownPriceBits_r1 ++ (wsX6_knownPriceBits_r2 ++ (wsX6_knownPriceBits_r3 ++ (wsX6_knownPriceBits_r4 ++ (wsX6_knownPriceBits_r5 ++ wsX6_knownPriceBits_r6))))) ++ wsX60 ++ wsX30 ++ wsX00 ++ wsX20)
def wsX6_isImputed_r1 : List Cond := [Cond.fieldLink RX6 35 "PriceIndexCalculator" "table" "LPriceIndexCalculator$PriceTable;", Cond.fieldLink RX6 124 "PriceIndexCalculator$PriceTable" "known" "LPriceIndexCalculator$PriceRows;", Cond.methodLink RX6 58 yX6_isItem, Cond.instanceMethod yX6_isItem, Cond.selects RX6 yX6_isItem yX6_isItem, Cond.initialized RX6, Cond.code yX6_isItem cX6_isItem 2 (some .boolean), Cond.fieldLink RX6 12 "PriceIndexCalculator" "basket" "LPriceIndexCalculator$Basket;", Cond.fieldLink RX6 47 "PriceIndexCalculator$Basket" "items" "I", Cond.methodLink RX6 61 yX6_isMonth, Cond.static yX6_isMonth, Cond.code yX6_isMonth cX6_isMonth 1 (some .boolean), Cond.methodLink RX6 121 yX3_refresh, Cond.instanceMethod yX3_refresh, Cond.selects RX3 yX3_refresh yX3_refresh, Cond.initialized RX3, Cond.code yX3_refresh cX3_refresh 2 none, Cond.fieldLink RX3 27 "PriceIndexCalculator$PriceTable" "fresh" "Z", Cond.fieldLink RX3 9 "PriceIndexCalculator$PriceTable" "basket" "LPriceIndexCalculator$Basket;", Cond.fieldLink RX3 31 "PriceIndexCalculator$Basket" "items" "I", Cond.methodLink RX3 37 yX3_fillEffective, Cond.instanceMethod yX3_fillEffective, Cond.selects RX3 yX3_fillEffective yX3_fillEffective, Cond.code yX3_fillEffective cX3_fillEffective 3 none]
def wsX6_isImputed_r2 : List Cond := [Cond.fieldLink RX3 20 "PriceIndexCalculator$PriceTable" "effective" "LPriceIndexCalculator$PriceRows;", Cond.methodLink RX3 44 yX0_hasEffective, Cond.instanceMethod yX0_hasEffective, Cond.selects RX0 yX0_hasEffective yX0_hasEffective, Cond.initialized RX0, Cond.code yX0_hasEffective cX0_hasEffective 4 (some .boolean), Cond.fieldLink RX0 27 "PriceIndexCalculator$Basket" "oldItemOf" "[I", Cond.fieldLink RX0 24 "PriceIndexCalculator$Basket" "newItemOf" "[I", Cond.fieldLink RX0 30 "PriceIndexCalculator$Basket" "overlap" "[I", Cond.methodLink RX0 67 yX0_isPricedByNewItem, Cond.instanceMethod yX0_isPricedByNewItem, Cond.selects RX0 yX0_isPricedByNewItem yX0_isPricedByNewItem, Cond.code yX0_isPricedByNewItem cX0_isPricedByNewItem 3 (some .boolean), Cond.methodLink RX0 53 yX0_hasObserved, Cond.instanceMethod yX0_hasObserved, Cond.selects RX0 yX0_hasObserved yX0_hasObserved, Cond.code yX0_hasObserved cX0_hasObserved 4 (some .boolean), Cond.fieldLink RX0 21 "PriceIndexCalculator$Basket" "seasons" "[I", Cond.fieldLink RX0 33 "PriceIndexCalculator$Basket" "quoted" "[I", Cond.static yX6_cell, Cond.code yX6_cell cX6_cell 2 (some .int), Cond.methodLink RX3 48 yX0_effective, Cond.instanceMethod yX0_effective, Cond.selects RX0 yX0_effective yX0_effective]
def wsX6_isImputed_r3 : List Cond := [Cond.code yX0_effective cX0_effective 5 (some .float), Cond.methodLink RX0 70 yX0_observed, Cond.instanceMethod yX0_observed, Cond.selects RX0 yX0_observed yX0_observed, Cond.code yX0_observed cX0_observed 3 (some .float), Cond.fieldLink RX0 18 "PriceIndexCalculator$Basket" "size" "[I", Cond.methodLink RX0 61 yX5_over, Cond.static yX5_over, Cond.initialized RX5, Cond.code yX5_over cX5_over 2 (some .float), Cond.methodLink RX5 9 yX5_isNan, Cond.static yX5_isNan, Cond.code yX5_isNan cX5_isNan 1 (some .boolean), Cond.methodLink RX5 19 yX5_isInfinite, Cond.static yX5_isInfinite, Cond.code yX5_isInfinite cX5_isInfinite 1 (some .boolean), Cond.constantFloat RX5 8 (2139095039), Cond.methodLink RX5 15 yX5_nan, Cond.static yX5_nan, Cond.code yX5_nan cX5_nan 0 (some .float), Cond.constantFloat RX5 7 (3212836864), Cond.methodLink RX0 74 yX5_times, Cond.static yX5_times, Cond.code yX5_times cX5_times 2 (some .float)]
def wsX6_isImputed_r4 : List Cond := [Cond.methodLink RX3 51 yX2_put, Cond.instanceMethod yX2_put, Cond.selects RX2 yX2_put yX2_put, Cond.initialized RX2, Cond.code yX2_put cX2_put 4 none, Cond.fieldLink RX2 9 "PriceIndexCalculator$PriceRows" "exists" "[Z", Cond.fieldLink RX2 15 "PriceIndexCalculator$PriceRows" "price" "[F", Cond.methodLink RX3 55 yX2_remove, Cond.instanceMethod yX2_remove, Cond.selects RX2 yX2_remove yX2_remove, Cond.code yX2_remove cX2_remove 3 none, Cond.methodLink RX3 41 yX3_fillKnown, Cond.instanceMethod yX3_fillKnown, Cond.selects RX3 yX3_fillKnown yX3_fillKnown, Cond.code yX3_fillKnown cX3_fillKnown 5 none, Cond.fieldLink RX3 63 "PriceIndexCalculator$Basket" "stratum" "[I", Cond.methodLink RX3 59 yX2_movement, Cond.instanceMethod yX2_movement, Cond.selects RX2 yX2_movement yX2_movement, Cond.code yX2_movement cX2_movement 5 (some .float), Cond.fieldLink RX2 19 "PriceIndexCalculator$PriceRows" "basket" "LPriceIndexCalculator$Basket;", Cond.fieldLink RX2 45 "PriceIndexCalculator$Basket" "formula" "I", Cond.methodLink RX2 41 yX2_countMatched, Cond.instanceMethod yX2_countMatched]
def wsX6_isImputed_r5 : List Cond := [Cond.selects RX2 yX2_countMatched yX2_countMatched, Cond.code yX2_countMatched cX2_countMatched 6 (some .int), Cond.fieldLink RX2 33 "PriceIndexCalculator$Basket" "items" "I", Cond.methodLink RX2 37 yX2_isMatched, Cond.instanceMethod yX2_isMatched, Cond.selects RX2 yX2_isMatched yX2_isMatched, Cond.code yX2_isMatched cX2_isMatched 5 (some .boolean), Cond.fieldLink RX2 27 "PriceIndexCalculator$Basket" "stratum" "[I", Cond.methodLink RX2 48 yX2_sumOfPrices, Cond.instanceMethod yX2_sumOfPrices, Cond.selects RX2 yX2_sumOfPrices yX2_sumOfPrices, Cond.code yX2_sumOfPrices cX2_sumOfPrices 7 (some .float), Cond.methodLink RX2 62 yX2_get, Cond.instanceMethod yX2_get, Cond.selects RX2 yX2_get yX2_get, Cond.code yX2_get cX2_get 3 (some .float), Cond.methodLink RX2 66 yX5_plus, Cond.static yX5_plus, Cond.code yX5_plus cX5_plus 2 (some .float), Cond.methodLink RX2 52 yX5_over, Cond.methodLink RX2 58 yX2_sumOfRatios, Cond.instanceMethod yX2_sumOfRatios, Cond.selects RX2 yX2_sumOfRatios yX2_sumOfRatios, Cond.code yX2_sumOfRatios cX2_sumOfRatios 6 (some .float)]
def wsX6_isImputed_r6 : List Cond := [Cond.methodLink RX3 67 yX3_fillKnownCell, Cond.instanceMethod yX3_fillKnownCell, Cond.selects RX3 yX3_fillKnownCell yX3_fillKnownCell, Cond.code yX3_fillKnownCell cX3_fillKnownCell 4 none, Cond.fieldLink RX3 24 "PriceIndexCalculator$PriceTable" "known" "LPriceIndexCalculator$PriceRows;", Cond.methodLink RX3 70 yX2_has, Cond.instanceMethod yX2_has, Cond.selects RX2 yX2_has yX2_has, Cond.code yX2_has cX2_has 3 (some .boolean), Cond.methodLink RX3 73 yX2_get, Cond.methodLink RX3 76 yX5_times, Cond.methodLink RX6 128 yX2_has, Cond.methodLink RX6 144 yX3_hasImputed, Cond.instanceMethod yX3_hasImputed, Cond.selects RX3 yX3_hasImputed yX3_hasImputed, Cond.code yX3_hasImputed cX3_hasImputed 3 (some .boolean)]
def wsX6_isImputed : List Cond := .code yX6_isImputed cX6_isImputed 3 (some .int) :: ((wsX6_isImputed_r1 ++ (wsX6_isImputed_r2 ++ (wsX6_isImputed_r3 ++ (wsX6_isImputed_r4 ++ (wsX6_isImputed_r5 ++ wsX6_isImputed_r6))))) ++ wsX60 ++ wsX30 ++ wsX00 ++ wsX20)
def wsX6_imputedCount_r1 : List Cond := [Cond.fieldLink RX6 35 "PriceIndexCalculator" "table" "LPriceIndexCalculator$PriceTable;", Cond.fieldLink RX6 12 "PriceIndexCalculator" "basket" "LPriceIndexCalculator$Basket;", Cond.fieldLink RX6 47 "PriceIndexCalculator$Basket" "items" "I", Cond.methodLink RX6 61 yX6_isMonth, Cond.static yX6_isMonth, Cond.initialized RX6, Cond.code yX6_isMonth cX6_isMonth 1 (some .boolean), Cond.methodLink RX6 121 yX3_refresh, Cond.instanceMethod yX3_refresh, Cond.selects RX3 yX3_refresh yX3_refresh, Cond.initialized RX3, Cond.code yX3_refresh cX3_refresh 2 none, Cond.fieldLink RX3 27 "PriceIndexCalculator$PriceTable" "fresh" "Z", Cond.fieldLink RX3 9 "PriceIndexCalculator$PriceTable" "basket" "LPriceIndexCalculator$Basket;", Cond.fieldLink RX3 31 "PriceIndexCalculator$Basket" "items" "I", Cond.methodLink RX3 37 yX3_fillEffective, Cond.instanceMethod yX3_fillEffective, Cond.selects RX3 yX3_fillEffective yX3_fillEffective, Cond.code yX3_fillEffective cX3_fillEffective 3 none, Cond.fieldLink RX3 20 "PriceIndexCalculator$PriceTable" "effective" "LPriceIndexCalculator$PriceRows;", Cond.methodLink RX3 44 yX0_hasEffective, Cond.instanceMethod yX0_hasEffective, Cond.selects RX0 yX0_hasEffective yX0_hasEffective, Cond.initialized RX0]
def wsX6_imputedCount_r2 : List Cond := [Cond.code yX0_hasEffective cX0_hasEffective 4 (some .boolean), Cond.fieldLink RX0 27 "PriceIndexCalculator$Basket" "oldItemOf" "[I", Cond.fieldLink RX0 24 "PriceIndexCalculator$Basket" "newItemOf" "[I", Cond.fieldLink RX0 30 "PriceIndexCalculator$Basket" "overlap" "[I", Cond.methodLink RX0 67 yX0_isPricedByNewItem, Cond.instanceMethod yX0_isPricedByNewItem, Cond.selects RX0 yX0_isPricedByNewItem yX0_isPricedByNewItem, Cond.code yX0_isPricedByNewItem cX0_isPricedByNewItem 3 (some .boolean), Cond.methodLink RX0 53 yX0_hasObserved, Cond.instanceMethod yX0_hasObserved, Cond.selects RX0 yX0_hasObserved yX0_hasObserved, Cond.code yX0_hasObserved cX0_hasObserved 4 (some .boolean), Cond.fieldLink RX0 21 "PriceIndexCalculator$Basket" "seasons" "[I", Cond.fieldLink RX0 33 "PriceIndexCalculator$Basket" "quoted" "[I", Cond.static yX6_cell, Cond.code yX6_cell cX6_cell 2 (some .int), Cond.methodLink RX3 48 yX0_effective, Cond.instanceMethod yX0_effective, Cond.selects RX0 yX0_effective yX0_effective, Cond.code yX0_effective cX0_effective 5 (some .float), Cond.methodLink RX0 70 yX0_observed, Cond.instanceMethod yX0_observed, Cond.selects RX0 yX0_observed yX0_observed, Cond.code yX0_observed cX0_observed 3 (some .float)]
def wsX6_imputedCount_r3 : List Cond := [Cond.fieldLink RX0 18 "PriceIndexCalculator$Basket" "size" "[I", Cond.methodLink RX0 61 yX5_over, Cond.static yX5_over, Cond.initialized RX5, Cond.code yX5_over cX5_over 2 (some .float), Cond.methodLink RX5 9 yX5_isNan, Cond.static yX5_isNan, Cond.code yX5_isNan cX5_isNan 1 (some .boolean), Cond.methodLink RX5 19 yX5_isInfinite, Cond.static yX5_isInfinite, Cond.code yX5_isInfinite cX5_isInfinite 1 (some .boolean), Cond.constantFloat RX5 8 (2139095039), Cond.methodLink RX5 15 yX5_nan, Cond.static yX5_nan, Cond.code yX5_nan cX5_nan 0 (some .float), Cond.constantFloat RX5 7 (3212836864), Cond.methodLink RX0 74 yX5_times, Cond.static yX5_times, Cond.code yX5_times cX5_times 2 (some .float), Cond.methodLink RX3 51 yX2_put, Cond.instanceMethod yX2_put, Cond.selects RX2 yX2_put yX2_put, Cond.initialized RX2, Cond.code yX2_put cX2_put 4 none]
def wsX6_imputedCount_r4 : List Cond := [Cond.fieldLink RX2 9 "PriceIndexCalculator$PriceRows" "exists" "[Z", Cond.fieldLink RX2 15 "PriceIndexCalculator$PriceRows" "price" "[F", Cond.methodLink RX3 55 yX2_remove, Cond.instanceMethod yX2_remove, Cond.selects RX2 yX2_remove yX2_remove, Cond.code yX2_remove cX2_remove 3 none, Cond.methodLink RX3 41 yX3_fillKnown, Cond.instanceMethod yX3_fillKnown, Cond.selects RX3 yX3_fillKnown yX3_fillKnown, Cond.code yX3_fillKnown cX3_fillKnown 5 none, Cond.fieldLink RX3 63 "PriceIndexCalculator$Basket" "stratum" "[I", Cond.methodLink RX3 59 yX2_movement, Cond.instanceMethod yX2_movement, Cond.selects RX2 yX2_movement yX2_movement, Cond.code yX2_movement cX2_movement 5 (some .float), Cond.fieldLink RX2 19 "PriceIndexCalculator$PriceRows" "basket" "LPriceIndexCalculator$Basket;", Cond.fieldLink RX2 45 "PriceIndexCalculator$Basket" "formula" "I", Cond.methodLink RX2 41 yX2_countMatched, Cond.instanceMethod yX2_countMatched, Cond.selects RX2 yX2_countMatched yX2_countMatched, Cond.code yX2_countMatched cX2_countMatched 6 (some .int), Cond.fieldLink RX2 33 "PriceIndexCalculator$Basket" "items" "I", Cond.methodLink RX2 37 yX2_isMatched, Cond.instanceMethod yX2_isMatched]
def wsX6_imputedCount_r5 : List Cond := [Cond.selects RX2 yX2_isMatched yX2_isMatched, Cond.code yX2_isMatched cX2_isMatched 5 (some .boolean), Cond.fieldLink RX2 27 "PriceIndexCalculator$Basket" "stratum" "[I", Cond.methodLink RX2 48 yX2_sumOfPrices, Cond.instanceMethod yX2_sumOfPrices, Cond.selects RX2 yX2_sumOfPrices yX2_sumOfPrices, Cond.code yX2_sumOfPrices cX2_sumOfPrices 7 (some .float), Cond.methodLink RX2 62 yX2_get, Cond.instanceMethod yX2_get, Cond.selects RX2 yX2_get yX2_get, Cond.code yX2_get cX2_get 3 (some .float), Cond.methodLink RX2 66 yX5_plus, Cond.static yX5_plus, Cond.code yX5_plus cX5_plus 2 (some .float), Cond.methodLink RX2 52 yX5_over, Cond.methodLink RX2 58 yX2_sumOfRatios, Cond.instanceMethod yX2_sumOfRatios, Cond.selects RX2 yX2_sumOfRatios yX2_sumOfRatios, Cond.code yX2_sumOfRatios cX2_sumOfRatios 6 (some .float), Cond.methodLink RX3 67 yX3_fillKnownCell, Cond.instanceMethod yX3_fillKnownCell, Cond.selects RX3 yX3_fillKnownCell yX3_fillKnownCell, Cond.code yX3_fillKnownCell cX3_fillKnownCell 4 none, Cond.fieldLink RX3 24 "PriceIndexCalculator$PriceTable" "known" "LPriceIndexCalculator$PriceRows;"]
def wsX6_imputedCount_r6 : List Cond := [Cond.methodLink RX3 70 yX2_has, Cond.instanceMethod yX2_has, Cond.selects RX2 yX2_has yX2_has, Cond.code yX2_has cX2_has 3 (some .boolean), Cond.methodLink RX3 73 yX2_get, Cond.methodLink RX3 76 yX5_times, Cond.methodLink RX6 144 yX3_hasImputed, Cond.instanceMethod yX3_hasImputed, Cond.selects RX3 yX3_hasImputed yX3_hasImputed, Cond.code yX3_hasImputed cX3_hasImputed 3 (some .boolean)]
def wsX6_imputedCount : List Cond := .code yX6_imputedCount cX6_imputedCount 4 (some .int) :: ((wsX6_imputedCount_r1 ++ (wsX6_imputedCount_r2 ++ (wsX6_imputedCount_r3 ++ (wsX6_imputedCount_r4 ++ (wsX6_imputedCount_r5 ++ wsX6_imputedCount_r6))))) ++ wsX60 ++ wsX00 ++ wsX30 ++ wsX20)
def wsX6_matchedCount_r1 : List Cond := [Cond.fieldLink RX6 35 "PriceIndexCalculator" "table" "LPriceIndexCalculator$PriceTable;", Cond.fieldLink RX6 147 "PriceIndexCalculator$PriceTable" "effective" "LPriceIndexCalculator$PriceRows;", Cond.methodLink RX6 39 yX6_isStratum, Cond.static yX6_isStratum, Cond.initialized RX6, Cond.code yX6_isStratum cX6_isStratum 1 (some .boolean), Cond.methodLink RX6 61 yX6_isMonth, Cond.static yX6_isMonth, Cond.code yX6_isMonth cX6_isMonth 1 (some .boolean), Cond.methodLink RX6 121 yX3_refresh, Cond.instanceMethod yX3_refresh, Cond.selects RX3 yX3_refresh yX3_refresh, Cond.initialized RX3, Cond.code yX3_refresh cX3_refresh 2 none, Cond.fieldLink RX3 27 "PriceIndexCalculator$PriceTable" "fresh" "Z", Cond.fieldLink RX3 9 "PriceIndexCalculator$PriceTable" "basket" "LPriceIndexCalculator$Basket;", Cond.fieldLink RX3 31 "PriceIndexCalculator$Basket" "items" "I", Cond.methodLink RX3 37 yX3_fillEffective, Cond.instanceMethod yX3_fillEffective, Cond.selects RX3 yX3_fillEffective yX3_fillEffective, Cond.code yX3_fillEffective cX3_fillEffective 3 none, Cond.fieldLink RX3 20 "PriceIndexCalculator$PriceTable" "effective" "LPriceIndexCalculator$PriceRows;", Cond.methodLink RX3 44 yX0_hasEffective, Cond.instanceMethod yX0_hasEffective]
def wsX6_matchedCount_r2 : List Cond := [Cond.selects RX0 yX0_hasEffective yX0_hasEffective, Cond.initialized RX0, Cond.code yX0_hasEffective cX0_hasEffective 4 (some .boolean), Cond.fieldLink RX0 27 "PriceIndexCalculator$Basket" "oldItemOf" "[I", Cond.fieldLink RX0 24 "PriceIndexCalculator$Basket" "newItemOf" "[I", Cond.fieldLink RX0 30 "PriceIndexCalculator$Basket" "overlap" "[I", Cond.methodLink RX0 67 yX0_isPricedByNewItem, Cond.instanceMethod yX0_isPricedByNewItem, Cond.selects RX0 yX0_isPricedByNewItem yX0_isPricedByNewItem, Cond.code yX0_isPricedByNewItem cX0_isPricedByNewItem 3 (some .boolean), Cond.methodLink RX0 53 yX0_hasObserved, Cond.instanceMethod yX0_hasObserved, Cond.selects RX0 yX0_hasObserved yX0_hasObserved, Cond.code yX0_hasObserved cX0_hasObserved 4 (some .boolean), Cond.fieldLink RX0 21 "PriceIndexCalculator$Basket" "seasons" "[I", Cond.fieldLink RX0 33 "PriceIndexCalculator$Basket" "quoted" "[I", Cond.static yX6_cell, Cond.code yX6_cell cX6_cell 2 (some .int), Cond.methodLink RX3 48 yX0_effective, Cond.instanceMethod yX0_effective, Cond.selects RX0 yX0_effective yX0_effective, Cond.code yX0_effective cX0_effective 5 (some .float), Cond.methodLink RX0 70 yX0_observed, Cond.instanceMethod yX0_observed]
def wsX6_matchedCount_r3 : List Cond := [Cond.selects RX0 yX0_observed yX0_observed, Cond.code yX0_observed cX0_observed 3 (some .float), Cond.fieldLink RX0 18 "PriceIndexCalculator$Basket" "size" "[I", Cond.methodLink RX0 61 yX5_over, Cond.static yX5_over, Cond.initialized RX5, Cond.code yX5_over cX5_over 2 (some .float), Cond.methodLink RX5 9 yX5_isNan, Cond.static yX5_isNan, Cond.code yX5_isNan cX5_isNan 1 (some .boolean), Cond.methodLink RX5 19 yX5_isInfinite, Cond.static yX5_isInfinite, Cond.code yX5_isInfinite cX5_isInfinite 1 (some .boolean), Cond.constantFloat RX5 8 (2139095039), Cond.methodLink RX5 15 yX5_nan, Cond.static yX5_nan, Cond.code yX5_nan cX5_nan 0 (some .float), Cond.constantFloat RX5 7 (3212836864), Cond.methodLink RX0 74 yX5_times, Cond.static yX5_times, Cond.code yX5_times cX5_times 2 (some .float), Cond.methodLink RX3 51 yX2_put, Cond.instanceMethod yX2_put, Cond.selects RX2 yX2_put yX2_put]
def wsX6_matchedCount_r4 : List Cond := [Cond.initialized RX2, Cond.code yX2_put cX2_put 4 none, Cond.fieldLink RX2 9 "PriceIndexCalculator$PriceRows" "exists" "[Z", Cond.fieldLink RX2 15 "PriceIndexCalculator$PriceRows" "price" "[F", Cond.methodLink RX3 55 yX2_remove, Cond.instanceMethod yX2_remove, Cond.selects RX2 yX2_remove yX2_remove, Cond.code yX2_remove cX2_remove 3 none, Cond.methodLink RX3 41 yX3_fillKnown, Cond.instanceMethod yX3_fillKnown, Cond.selects RX3 yX3_fillKnown yX3_fillKnown, Cond.code yX3_fillKnown cX3_fillKnown 5 none, Cond.fieldLink RX3 63 "PriceIndexCalculator$Basket" "stratum" "[I", Cond.methodLink RX3 59 yX2_movement, Cond.instanceMethod yX2_movement, Cond.selects RX2 yX2_movement yX2_movement, Cond.code yX2_movement cX2_movement 5 (some .float), Cond.fieldLink RX2 19 "PriceIndexCalculator$PriceRows" "basket" "LPriceIndexCalculator$Basket;", Cond.fieldLink RX2 45 "PriceIndexCalculator$Basket" "formula" "I", Cond.methodLink RX2 41 yX2_countMatched, Cond.instanceMethod yX2_countMatched, Cond.selects RX2 yX2_countMatched yX2_countMatched, Cond.code yX2_countMatched cX2_countMatched 6 (some .int), Cond.fieldLink RX2 33 "PriceIndexCalculator$Basket" "items" "I"]
def wsX6_matchedCount_r5 : List Cond := [Cond.methodLink RX2 37 yX2_isMatched, Cond.instanceMethod yX2_isMatched, Cond.selects RX2 yX2_isMatched yX2_isMatched, Cond.code yX2_isMatched cX2_isMatched 5 (some .boolean), Cond.fieldLink RX2 27 "PriceIndexCalculator$Basket" "stratum" "[I", Cond.methodLink RX2 48 yX2_sumOfPrices, Cond.instanceMethod yX2_sumOfPrices, Cond.selects RX2 yX2_sumOfPrices yX2_sumOfPrices, Cond.code yX2_sumOfPrices cX2_sumOfPrices 7 (some .float), Cond.methodLink RX2 62 yX2_get, Cond.instanceMethod yX2_get, Cond.selects RX2 yX2_get yX2_get, Cond.code yX2_get cX2_get 3 (some .float), Cond.methodLink RX2 66 yX5_plus, Cond.static yX5_plus, Cond.code yX5_plus cX5_plus 2 (some .float), Cond.methodLink RX2 52 yX5_over, Cond.methodLink RX2 58 yX2_sumOfRatios, Cond.instanceMethod yX2_sumOfRatios, Cond.selects RX2 yX2_sumOfRatios yX2_sumOfRatios, Cond.code yX2_sumOfRatios cX2_sumOfRatios 6 (some .float), Cond.methodLink RX3 67 yX3_fillKnownCell, Cond.instanceMethod yX3_fillKnownCell, Cond.selects RX3 yX3_fillKnownCell yX3_fillKnownCell]
def wsX6_matchedCount_r6 : List Cond := [Cond.code yX3_fillKnownCell cX3_fillKnownCell 4 none, Cond.fieldLink RX3 24 "PriceIndexCalculator$PriceTable" "known" "LPriceIndexCalculator$PriceRows;", Cond.methodLink RX3 70 yX2_has, Cond.instanceMethod yX2_has, Cond.selects RX2 yX2_has yX2_has, Cond.code yX2_has cX2_has 3 (some .boolean), Cond.methodLink RX3 73 yX2_get, Cond.methodLink RX3 76 yX5_times, Cond.methodLink RX6 150 yX2_countMatched]
def wsX6_matchedCount : List Cond := .code yX6_matchedCount cX6_matchedCount 4 (some .int) :: ((wsX6_matchedCount_r1 ++ (wsX6_matchedCount_r2 ++ (wsX6_matchedCount_r3 ++ (wsX6_matchedCount_r4 ++ (wsX6_matchedCount_r5 ++ wsX6_matchedCount_r6))))) ++ wsX60 ++ wsX30 ++ wsX00 ++ wsX20)
def wsX6_movementBits_r1 : List Cond := [Cond.fieldLink RX6 35 "PriceIndexCalculator" "table" "LPriceIndexCalculator$PriceTable;", Cond.fieldLink RX6 147 "PriceIndexCalculator$PriceTable" "effective" "LPriceIndexCalculator$PriceRows;", Cond.methodLink RX6 39 yX6_isStratum, Cond.static yX6_isStratum, Cond.initialized RX6, Cond.code yX6_isStratum cX6_isStratum 1 (some .boolean), Cond.methodLink RX6 61 yX6_isMonth, Cond.static yX6_isMonth, Cond.code yX6_isMonth cX6_isMonth 1 (some .boolean), Cond.methodLink RX6 121 yX3_refresh, Cond.instanceMethod yX3_refresh, Cond.selects RX3 yX3_refresh yX3_refresh, Cond.initialized RX3, Cond.code yX3_refresh cX3_refresh 2 none, Cond.fieldLink RX3 27 "PriceIndexCalculator$PriceTable" "fresh" "Z", Cond.fieldLink RX3 9 "PriceIndexCalculator$PriceTable" "basket" "LPriceIndexCalculator$Basket;", Cond.fieldLink RX3 31 "PriceIndexCalculator$Basket" "items" "I", Cond.methodLink RX3 37 yX3_fillEffective, Cond.instanceMethod yX3_fillEffective, Cond.selects RX3 yX3_fillEffective yX3_fillEffective, Cond.code yX3_fillEffective cX3_fillEffective 3 none, Cond.fieldLink RX3 20 "PriceIndexCalculator$PriceTable" "effective" "LPriceIndexCalculator$PriceRows;", Cond.methodLink RX3 44 yX0_hasEffective, Cond.instanceMethod yX0_hasEffective]
def wsX6_movementBits_r2 : List Cond := [Cond.selects RX0 yX0_hasEffective yX0_hasEffective, Cond.initialized RX0, Cond.code yX0_hasEffective cX0_hasEffective 4 (some .boolean), Cond.fieldLink RX0 27 "PriceIndexCalculator$Basket" "oldItemOf" "[I", Cond.fieldLink RX0 24 "PriceIndexCalculator$Basket" "newItemOf" "[I", Cond.fieldLink RX0 30 "PriceIndexCalculator$Basket" "overlap" "[I", Cond.methodLink RX0 67 yX0_isPricedByNewItem, Cond.instanceMethod yX0_isPricedByNewItem, Cond.selects RX0 yX0_isPricedByNewItem yX0_isPricedByNewItem, Cond.code yX0_isPricedByNewItem cX0_isPricedByNewItem 3 (some .boolean), Cond.methodLink RX0 53 yX0_hasObserved, Cond.instanceMethod yX0_hasObserved, Cond.selects RX0 yX0_hasObserved yX0_hasObserved, Cond.code yX0_hasObserved cX0_hasObserved 4 (some .boolean), Cond.fieldLink RX0 21 "PriceIndexCalculator$Basket" "seasons" "[I", Cond.fieldLink RX0 33 "PriceIndexCalculator$Basket" "quoted" "[I", Cond.static yX6_cell, Cond.code yX6_cell cX6_cell 2 (some .int), Cond.methodLink RX3 48 yX0_effective, Cond.instanceMethod yX0_effective, Cond.selects RX0 yX0_effective yX0_effective, Cond.code yX0_effective cX0_effective 5 (some .float), Cond.methodLink RX0 70 yX0_observed, Cond.instanceMethod yX0_observed]
def wsX6_movementBits_r3 : List Cond := [Cond.selects RX0 yX0_observed yX0_observed, Cond.code yX0_observed cX0_observed 3 (some .float), Cond.fieldLink RX0 18 "PriceIndexCalculator$Basket" "size" "[I", Cond.methodLink RX0 61 yX5_over, Cond.static yX5_over, Cond.initialized RX5, Cond.code yX5_over cX5_over 2 (some .float), Cond.methodLink RX5 9 yX5_isNan, Cond.static yX5_isNan, Cond.code yX5_isNan cX5_isNan 1 (some .boolean), Cond.methodLink RX5 19 yX5_isInfinite, Cond.static yX5_isInfinite, Cond.code yX5_isInfinite cX5_isInfinite 1 (some .boolean), Cond.constantFloat RX5 8 (2139095039), Cond.methodLink RX5 15 yX5_nan, Cond.static yX5_nan, Cond.code yX5_nan cX5_nan 0 (some .float), Cond.constantFloat RX5 7 (3212836864), Cond.methodLink RX0 74 yX5_times, Cond.static yX5_times, Cond.code yX5_times cX5_times 2 (some .float), Cond.methodLink RX3 51 yX2_put, Cond.instanceMethod yX2_put, Cond.selects RX2 yX2_put yX2_put]
def wsX6_movementBits_r4 : List Cond := [Cond.initialized RX2, Cond.code yX2_put cX2_put 4 none, Cond.fieldLink RX2 9 "PriceIndexCalculator$PriceRows" "exists" "[Z", Cond.fieldLink RX2 15 "PriceIndexCalculator$PriceRows" "price" "[F", Cond.methodLink RX3 55 yX2_remove, Cond.instanceMethod yX2_remove, Cond.selects RX2 yX2_remove yX2_remove, Cond.code yX2_remove cX2_remove 3 none, Cond.methodLink RX3 41 yX3_fillKnown, Cond.instanceMethod yX3_fillKnown, Cond.selects RX3 yX3_fillKnown yX3_fillKnown, Cond.code yX3_fillKnown cX3_fillKnown 5 none, Cond.fieldLink RX3 63 "PriceIndexCalculator$Basket" "stratum" "[I", Cond.methodLink RX3 59 yX2_movement, Cond.instanceMethod yX2_movement, Cond.selects RX2 yX2_movement yX2_movement, Cond.code yX2_movement cX2_movement 5 (some .float), Cond.fieldLink RX2 19 "PriceIndexCalculator$PriceRows" "basket" "LPriceIndexCalculator$Basket;", Cond.fieldLink RX2 45 "PriceIndexCalculator$Basket" "formula" "I", Cond.methodLink RX2 41 yX2_countMatched, Cond.instanceMethod yX2_countMatched, Cond.selects RX2 yX2_countMatched yX2_countMatched, Cond.code yX2_countMatched cX2_countMatched 6 (some .int), Cond.fieldLink RX2 33 "PriceIndexCalculator$Basket" "items" "I"]
def wsX6_movementBits_r5 : List Cond := [Cond.methodLink RX2 37 yX2_isMatched, Cond.instanceMethod yX2_isMatched, Cond.selects RX2 yX2_isMatched yX2_isMatched, Cond.code yX2_isMatched cX2_isMatched 5 (some .boolean), Cond.fieldLink RX2 27 "PriceIndexCalculator$Basket" "stratum" "[I", Cond.methodLink RX2 48 yX2_sumOfPrices, Cond.instanceMethod yX2_sumOfPrices, Cond.selects RX2 yX2_sumOfPrices yX2_sumOfPrices, Cond.code yX2_sumOfPrices cX2_sumOfPrices 7 (some .float), Cond.methodLink RX2 62 yX2_get, Cond.instanceMethod yX2_get, Cond.selects RX2 yX2_get yX2_get, Cond.code yX2_get cX2_get 3 (some .float), Cond.methodLink RX2 66 yX5_plus, Cond.static yX5_plus, Cond.code yX5_plus cX5_plus 2 (some .float), Cond.methodLink RX2 52 yX5_over, Cond.methodLink RX2 58 yX2_sumOfRatios, Cond.instanceMethod yX2_sumOfRatios, Cond.selects RX2 yX2_sumOfRatios yX2_sumOfRatios, Cond.code yX2_sumOfRatios cX2_sumOfRatios 6 (some .float), Cond.methodLink RX3 67 yX3_fillKnownCell, Cond.instanceMethod yX3_fillKnownCell, Cond.selects RX3 yX3_fillKnownCell yX3_fillKnownCell]
def wsX6_movementBits_r6 : List Cond := [Cond.code yX3_fillKnownCell cX3_fillKnownCell 4 none, Cond.fieldLink RX3 24 "PriceIndexCalculator$PriceTable" "known" "LPriceIndexCalculator$PriceRows;", Cond.methodLink RX3 70 yX2_has, Cond.instanceMethod yX2_has, Cond.selects RX2 yX2_has yX2_has, Cond.code yX2_has cX2_has 3 (some .boolean), Cond.methodLink RX3 73 yX2_get, Cond.methodLink RX3 76 yX5_times, Cond.methodLink RX6 153 yX2_movement, Cond.methodLink RX6 138 yX5_bits, Cond.static yX5_bits, Cond.code yX5_bits cX5_bits 3 (some .int), Cond.constant RX5 24 (2143289344), Cond.constant RX5 25 (2139095040), Cond.constantFloat RX5 26 (1258291200)]
def wsX6_movementBits : List Cond := .code yX6_movementBits cX6_movementBits 4 (some .int) :: ((wsX6_movementBits_r1 ++ (wsX6_movementBits_r2 ++ (wsX6_movementBits_r3 ++ (wsX6_movementBits_r4 ++ (wsX6_movementBits_r5 ++ wsX6_movementBits_r6))))) ++ wsX60 ++ wsX30 ++ wsX00 ++ wsX20)
def wsX6_greatestRise_r1 : List Cond := [Cond.fieldLink RX6 35 "PriceIndexCalculator" "table" "LPriceIndexCalculator$PriceTable;", Cond.fieldLink RX6 147 "PriceIndexCalculator$PriceTable" "effective" "LPriceIndexCalculator$PriceRows;", Cond.methodLink RX6 39 yX6_isStratum, Cond.static yX6_isStratum, Cond.initialized RX6, Cond.code yX6_isStratum cX6_isStratum 1 (some .boolean), Cond.methodLink RX6 61 yX6_isMonth, Cond.static yX6_isMonth, Cond.code yX6_isMonth cX6_isMonth 1 (some .boolean), Cond.methodLink RX6 121 yX3_refresh, Cond.instanceMethod yX3_refresh, Cond.selects RX3 yX3_refresh yX3_refresh, Cond.initialized RX3, Cond.code yX3_refresh cX3_refresh 2 none, Cond.fieldLink RX3 27 "PriceIndexCalculator$PriceTable" "fresh" "Z", Cond.fieldLink RX3 9 "PriceIndexCalculator$PriceTable" "basket" "LPriceIndexCalculator$Basket;", Cond.fieldLink RX3 31 "PriceIndexCalculator$Basket" "items" "I", Cond.methodLink RX3 37 yX3_fillEffective, Cond.instanceMethod yX3_fillEffective, Cond.selects RX3 yX3_fillEffective yX3_fillEffective, Cond.code yX3_fillEffective cX3_fillEffective 3 none, Cond.fieldLink RX3 20 "PriceIndexCalculator$PriceTable" "effective" "LPriceIndexCalculator$PriceRows;", Cond.methodLink RX3 44 yX0_hasEffective, Cond.instanceMethod yX0_hasEffective]
def wsX6_greatestRise_r2 : List Cond := [Cond.selects RX0 yX0_hasEffective yX0_hasEffective, Cond.initialized RX0, Cond.code yX0_hasEffective cX0_hasEffective 4 (some .boolean), Cond.fieldLink RX0 27 "PriceIndexCalculator$Basket" "oldItemOf" "[I", Cond.fieldLink RX0 24 "PriceIndexCalculator$Basket" "newItemOf" "[I", Cond.fieldLink RX0 30 "PriceIndexCalculator$Basket" "overlap" "[I", Cond.methodLink RX0 67 yX0_isPricedByNewItem, Cond.instanceMethod yX0_isPricedByNewItem, Cond.selects RX0 yX0_isPricedByNewItem yX0_isPricedByNewItem, Cond.code yX0_isPricedByNewItem cX0_isPricedByNewItem 3 (some .boolean), Cond.methodLink RX0 53 yX0_hasObserved, Cond.instanceMethod yX0_hasObserved, Cond.selects RX0 yX0_hasObserved yX0_hasObserved, Cond.code yX0_hasObserved cX0_hasObserved 4 (some .boolean), Cond.fieldLink RX0 21 "PriceIndexCalculator$Basket" "seasons" "[I", Cond.fieldLink RX0 33 "PriceIndexCalculator$Basket" "quoted" "[I", Cond.static yX6_cell, Cond.code yX6_cell cX6_cell 2 (some .int), Cond.methodLink RX3 48 yX0_effective, Cond.instanceMethod yX0_effective, Cond.selects RX0 yX0_effective yX0_effective, Cond.code yX0_effective cX0_effective 5 (some .float), Cond.methodLink RX0 70 yX0_observed, Cond.instanceMethod yX0_observed]
def wsX6_greatestRise_r3 : List Cond := [Cond.selects RX0 yX0_observed yX0_observed, Cond.code yX0_observed cX0_observed 3 (some .float), Cond.fieldLink RX0 18 "PriceIndexCalculator$Basket" "size" "[I", Cond.methodLink RX0 61 yX5_over, Cond.static yX5_over, Cond.initialized RX5, Cond.code yX5_over cX5_over 2 (some .float), Cond.methodLink RX5 9 yX5_isNan, Cond.static yX5_isNan, Cond.code yX5_isNan cX5_isNan 1 (some .boolean), Cond.methodLink RX5 19 yX5_isInfinite, Cond.static yX5_isInfinite, Cond.code yX5_isInfinite cX5_isInfinite 1 (some .boolean), Cond.constantFloat RX5 8 (2139095039), Cond.methodLink RX5 15 yX5_nan, Cond.static yX5_nan, Cond.code yX5_nan cX5_nan 0 (some .float), Cond.constantFloat RX5 7 (3212836864), Cond.methodLink RX0 74 yX5_times, Cond.static yX5_times, Cond.code yX5_times cX5_times 2 (some .float), Cond.methodLink RX3 51 yX2_put, Cond.instanceMethod yX2_put, Cond.selects RX2 yX2_put yX2_put]
def wsX6_greatestRise_r4 : List Cond := [Cond.initialized RX2, Cond.code yX2_put cX2_put 4 none, Cond.fieldLink RX2 9 "PriceIndexCalculator$PriceRows" "exists" "[Z", Cond.fieldLink RX2 15 "PriceIndexCalculator$PriceRows" "price" "[F", Cond.methodLink RX3 55 yX2_remove, Cond.instanceMethod yX2_remove, Cond.selects RX2 yX2_remove yX2_remove, Cond.code yX2_remove cX2_remove 3 none, Cond.methodLink RX3 41 yX3_fillKnown, Cond.instanceMethod yX3_fillKnown, Cond.selects RX3 yX3_fillKnown yX3_fillKnown, Cond.code yX3_fillKnown cX3_fillKnown 5 none, Cond.fieldLink RX3 63 "PriceIndexCalculator$Basket" "stratum" "[I", Cond.methodLink RX3 59 yX2_movement, Cond.instanceMethod yX2_movement, Cond.selects RX2 yX2_movement yX2_movement, Cond.code yX2_movement cX2_movement 5 (some .float), Cond.fieldLink RX2 19 "PriceIndexCalculator$PriceRows" "basket" "LPriceIndexCalculator$Basket;", Cond.fieldLink RX2 45 "PriceIndexCalculator$Basket" "formula" "I", Cond.methodLink RX2 41 yX2_countMatched, Cond.instanceMethod yX2_countMatched, Cond.selects RX2 yX2_countMatched yX2_countMatched, Cond.code yX2_countMatched cX2_countMatched 6 (some .int), Cond.fieldLink RX2 33 "PriceIndexCalculator$Basket" "items" "I"]
def wsX6_greatestRise_r5 : List Cond := [Cond.methodLink RX2 37 yX2_isMatched, Cond.instanceMethod yX2_isMatched, Cond.selects RX2 yX2_isMatched yX2_isMatched, Cond.code yX2_isMatched cX2_isMatched 5 (some .boolean), Cond.fieldLink RX2 27 "PriceIndexCalculator$Basket" "stratum" "[I", Cond.methodLink RX2 48 yX2_sumOfPrices, Cond.instanceMethod yX2_sumOfPrices, Cond.selects RX2 yX2_sumOfPrices yX2_sumOfPrices, Cond.code yX2_sumOfPrices cX2_sumOfPrices 7 (some .float), Cond.methodLink RX2 62 yX2_get, Cond.instanceMethod yX2_get, Cond.selects RX2 yX2_get yX2_get, Cond.code yX2_get cX2_get 3 (some .float), Cond.methodLink RX2 66 yX5_plus, Cond.static yX5_plus, Cond.code yX5_plus cX5_plus 2 (some .float), Cond.methodLink RX2 52 yX5_over, Cond.methodLink RX2 58 yX2_sumOfRatios, Cond.instanceMethod yX2_sumOfRatios, Cond.selects RX2 yX2_sumOfRatios yX2_sumOfRatios, Cond.code yX2_sumOfRatios cX2_sumOfRatios 6 (some .float), Cond.methodLink RX3 67 yX3_fillKnownCell, Cond.instanceMethod yX3_fillKnownCell, Cond.selects RX3 yX3_fillKnownCell yX3_fillKnownCell]
def wsX6_greatestRise_r6 : List Cond := [Cond.code yX3_fillKnownCell cX3_fillKnownCell 4 none, Cond.fieldLink RX3 24 "PriceIndexCalculator$PriceTable" "known" "LPriceIndexCalculator$PriceRows;", Cond.methodLink RX3 70 yX2_has, Cond.instanceMethod yX2_has, Cond.selects RX2 yX2_has yX2_has, Cond.code yX2_has cX2_has 3 (some .boolean), Cond.methodLink RX3 73 yX2_get, Cond.methodLink RX3 76 yX5_times, Cond.methodLink RX6 157 yX2_steepest, Cond.instanceMethod yX2_steepest, Cond.selects RX2 yX2_steepest yX2_steepest, Cond.code yX2_steepest cX2_steepest 8 (some .int)]
def wsX6_greatestRise : List Cond := .code yX6_greatestRise cX6_greatestRise 5 (some .int) :: ((wsX6_greatestRise_r1 ++ (wsX6_greatestRise_r2 ++ (wsX6_greatestRise_r3 ++ (wsX6_greatestRise_r4 ++ (wsX6_greatestRise_r5 ++ wsX6_greatestRise_r6))))) ++ wsX60 ++ wsX30 ++ wsX00 ++ wsX20)
def wsX6_directIndex_r1 : List Cond := [Cond.fieldLink RX6 35 "PriceIndexCalculator" "table" "LPriceIndexCalculator$PriceTable;", Cond.methodLink RX6 39 yX6_isStratum, Cond.static yX6_isStratum, Cond.initialized RX6, Cond.code yX6_isStratum cX6_isStratum 1 (some .boolean), Cond.methodLink RX6 61 yX6_isMonth, Cond.static yX6_isMonth, Cond.code yX6_isMonth cX6_isMonth 1 (some .boolean), Cond.methodLink RX6 121 yX3_refresh, Cond.instanceMethod yX3_refresh, Cond.selects RX3 yX3_refresh yX3_refresh, Cond.initialized RX3, Cond.code yX3_refresh cX3_refresh 2 none, Cond.fieldLink RX3 27 "PriceIndexCalculator$PriceTable" "fresh" "Z", Cond.fieldLink RX3 9 "PriceIndexCalculator$PriceTable" "basket" "LPriceIndexCalculator$Basket;", Cond.fieldLink RX3 31 "PriceIndexCalculator$Basket" "items" "I", Cond.methodLink RX3 37 yX3_fillEffective, Cond.instanceMethod yX3_fillEffective, Cond.selects RX3 yX3_fillEffective yX3_fillEffective, Cond.code yX3_fillEffective cX3_fillEffective 3 none, Cond.fieldLink RX3 20 "PriceIndexCalculator$PriceTable" "effective" "LPriceIndexCalculator$PriceRows;", Cond.methodLink RX3 44 yX0_hasEffective, Cond.instanceMethod yX0_hasEffective, Cond.selects RX0 yX0_hasEffective yX0_hasEffective]
def wsX6_directIndex_r2 : List Cond := [Cond.initialized RX0, Cond.code yX0_hasEffective cX0_hasEffective 4 (some .boolean), Cond.fieldLink RX0 27 "PriceIndexCalculator$Basket" "oldItemOf" "[I", Cond.fieldLink RX0 24 "PriceIndexCalculator$Basket" "newItemOf" "[I", Cond.fieldLink RX0 30 "PriceIndexCalculator$Basket" "overlap" "[I", Cond.methodLink RX0 67 yX0_isPricedByNewItem, Cond.instanceMethod yX0_isPricedByNewItem, Cond.selects RX0 yX0_isPricedByNewItem yX0_isPricedByNewItem, Cond.code yX0_isPricedByNewItem cX0_isPricedByNewItem 3 (some .boolean), Cond.methodLink RX0 53 yX0_hasObserved, Cond.instanceMethod yX0_hasObserved, Cond.selects RX0 yX0_hasObserved yX0_hasObserved, Cond.code yX0_hasObserved cX0_hasObserved 4 (some .boolean), Cond.fieldLink RX0 21 "PriceIndexCalculator$Basket" "seasons" "[I", Cond.fieldLink RX0 33 "PriceIndexCalculator$Basket" "quoted" "[I", Cond.static yX6_cell, Cond.code yX6_cell cX6_cell 2 (some .int), Cond.methodLink RX3 48 yX0_effective, Cond.instanceMethod yX0_effective, Cond.selects RX0 yX0_effective yX0_effective, Cond.code yX0_effective cX0_effective 5 (some .float), Cond.methodLink RX0 70 yX0_observed, Cond.instanceMethod yX0_observed, Cond.selects RX0 yX0_observed yX0_observed]
def wsX6_directIndex_r3 : List Cond := [Cond.code yX0_observed cX0_observed 3 (some .float), Cond.fieldLink RX0 18 "PriceIndexCalculator$Basket" "size" "[I", Cond.methodLink RX0 61 yX5_over, Cond.static yX5_over, Cond.initialized RX5, Cond.code yX5_over cX5_over 2 (some .float), Cond.methodLink RX5 9 yX5_isNan, Cond.static yX5_isNan, Cond.code yX5_isNan cX5_isNan 1 (some .boolean), Cond.methodLink RX5 19 yX5_isInfinite, Cond.static yX5_isInfinite, Cond.code yX5_isInfinite cX5_isInfinite 1 (some .boolean), Cond.constantFloat RX5 8 (2139095039), Cond.methodLink RX5 15 yX5_nan, Cond.static yX5_nan, Cond.code yX5_nan cX5_nan 0 (some .float), Cond.constantFloat RX5 7 (3212836864), Cond.methodLink RX0 74 yX5_times, Cond.static yX5_times, Cond.code yX5_times cX5_times 2 (some .float), Cond.methodLink RX3 51 yX2_put, Cond.instanceMethod yX2_put, Cond.selects RX2 yX2_put yX2_put, Cond.initialized RX2]
def wsX6_directIndex_r4 : List Cond := [Cond.code yX2_put cX2_put 4 none, Cond.fieldLink RX2 9 "PriceIndexCalculator$PriceRows" "exists" "[Z", Cond.fieldLink RX2 15 "PriceIndexCalculator$PriceRows" "price" "[F", Cond.methodLink RX3 55 yX2_remove, Cond.instanceMethod yX2_remove, Cond.selects RX2 yX2_remove yX2_remove, Cond.code yX2_remove cX2_remove 3 none, Cond.methodLink RX3 41 yX3_fillKnown, Cond.instanceMethod yX3_fillKnown, Cond.selects RX3 yX3_fillKnown yX3_fillKnown, Cond.code yX3_fillKnown cX3_fillKnown 5 none, Cond.fieldLink RX3 63 "PriceIndexCalculator$Basket" "stratum" "[I", Cond.methodLink RX3 59 yX2_movement, Cond.instanceMethod yX2_movement, Cond.selects RX2 yX2_movement yX2_movement, Cond.code yX2_movement cX2_movement 5 (some .float), Cond.fieldLink RX2 19 "PriceIndexCalculator$PriceRows" "basket" "LPriceIndexCalculator$Basket;", Cond.fieldLink RX2 45 "PriceIndexCalculator$Basket" "formula" "I", Cond.methodLink RX2 41 yX2_countMatched, Cond.instanceMethod yX2_countMatched, Cond.selects RX2 yX2_countMatched yX2_countMatched, Cond.code yX2_countMatched cX2_countMatched 6 (some .int), Cond.fieldLink RX2 33 "PriceIndexCalculator$Basket" "items" "I", Cond.methodLink RX2 37 yX2_isMatched]
def wsX6_directIndex_r5 : List Cond := [Cond.instanceMethod yX2_isMatched, Cond.selects RX2 yX2_isMatched yX2_isMatched, Cond.code yX2_isMatched cX2_isMatched 5 (some .boolean), Cond.fieldLink RX2 27 "PriceIndexCalculator$Basket" "stratum" "[I", Cond.methodLink RX2 48 yX2_sumOfPrices, Cond.instanceMethod yX2_sumOfPrices, Cond.selects RX2 yX2_sumOfPrices yX2_sumOfPrices, Cond.code yX2_sumOfPrices cX2_sumOfPrices 7 (some .float), Cond.methodLink RX2 62 yX2_get, Cond.instanceMethod yX2_get, Cond.selects RX2 yX2_get yX2_get, Cond.code yX2_get cX2_get 3 (some .float), Cond.methodLink RX2 66 yX5_plus, Cond.static yX5_plus, Cond.code yX5_plus cX5_plus 2 (some .float), Cond.methodLink RX2 52 yX5_over, Cond.methodLink RX2 58 yX2_sumOfRatios, Cond.instanceMethod yX2_sumOfRatios, Cond.selects RX2 yX2_sumOfRatios yX2_sumOfRatios, Cond.code yX2_sumOfRatios cX2_sumOfRatios 6 (some .float), Cond.methodLink RX3 67 yX3_fillKnownCell, Cond.instanceMethod yX3_fillKnownCell, Cond.selects RX3 yX3_fillKnownCell yX3_fillKnownCell, Cond.code yX3_fillKnownCell cX3_fillKnownCell 4 none]
def wsX6_directIndex_r6 : List Cond := [Cond.fieldLink RX3 24 "PriceIndexCalculator$PriceTable" "known" "LPriceIndexCalculator$PriceRows;", Cond.methodLink RX3 70 yX2_has, Cond.instanceMethod yX2_has, Cond.selects RX2 yX2_has yX2_has, Cond.code yX2_has cX2_has 3 (some .boolean), Cond.methodLink RX3 73 yX2_get, Cond.methodLink RX3 76 yX5_times, Cond.methodLink RX6 160 yX3_hasDirect, Cond.instanceMethod yX3_hasDirect, Cond.selects RX3 yX3_hasDirect yX3_hasDirect, Cond.code yX3_hasDirect cX3_hasDirect 4 (some .boolean), Cond.methodLink RX3 82 yX2_countMatched, Cond.methodLink RX6 163 yX3_direct, Cond.instanceMethod yX3_direct, Cond.selects RX3 yX3_direct yX3_direct, Cond.code yX3_direct cX3_direct 4 (some .float), Cond.constantFloat RX3 86 (1120403456), Cond.methodLink RX6 166 yX5_hundredths, Cond.static yX5_hundredths, Cond.code yX5_hundredths cX5_hundredths 1 (some .int), Cond.constantFloat RX5 22 (1120403456), Cond.constantFloat RX5 23 (1056964608)]
def wsX6_directIndex : List Cond := .code yX6_directIndex cX6_directIndex 4 (some .int) :: ((wsX6_directIndex_r1 ++ (wsX6_directIndex_r2 ++ (wsX6_directIndex_r3 ++ (wsX6_directIndex_r4 ++ (wsX6_directIndex_r5 ++ wsX6_directIndex_r6))))) ++ wsX60 ++ wsX30 ++ wsX00 ++ wsX20)
def wsX6_chainedIndex_r1 : List Cond := [Cond.fieldLink RX6 35 "PriceIndexCalculator" "table" "LPriceIndexCalculator$PriceTable;", Cond.methodLink RX6 39 yX6_isStratum, Cond.static yX6_isStratum, Cond.initialized RX6, Cond.code yX6_isStratum cX6_isStratum 1 (some .boolean), Cond.methodLink RX6 61 yX6_isMonth, Cond.static yX6_isMonth, Cond.code yX6_isMonth cX6_isMonth 1 (some .boolean), Cond.methodLink RX6 121 yX3_refresh, Cond.instanceMethod yX3_refresh, Cond.selects RX3 yX3_refresh yX3_refresh, Cond.initialized RX3, Cond.code yX3_refresh cX3_refresh 2 none, Cond.fieldLink RX3 27 "PriceIndexCalculator$PriceTable" "fresh" "Z", Cond.fieldLink RX3 9 "PriceIndexCalculator$PriceTable" "basket" "LPriceIndexCalculator$Basket;", Cond.fieldLink RX3 31 "PriceIndexCalculator$Basket" "items" "I", Cond.methodLink RX3 37 yX3_fillEffective, Cond.instanceMethod yX3_fillEffective, Cond.selects RX3 yX3_fillEffective yX3_fillEffective, Cond.code yX3_fillEffective cX3_fillEffective 3 none, Cond.fieldLink RX3 20 "PriceIndexCalculator$PriceTable" "effective" "LPriceIndexCalculator$PriceRows;", Cond.methodLink RX3 44 yX0_hasEffective, Cond.instanceMethod yX0_hasEffective, Cond.selects RX0 yX0_hasEffective yX0_hasEffective]
def wsX6_chainedIndex_r2 : List Cond := [Cond.initialized RX0, Cond.code yX0_hasEffective cX0_hasEffective 4 (some .boolean), Cond.fieldLink RX0 27 "PriceIndexCalculator$Basket" "oldItemOf" "[I", Cond.fieldLink RX0 24 "PriceIndexCalculator$Basket" "newItemOf" "[I", Cond.fieldLink RX0 30 "PriceIndexCalculator$Basket" "overlap" "[I", Cond.methodLink RX0 67 yX0_isPricedByNewItem, Cond.instanceMethod yX0_isPricedByNewItem, Cond.selects RX0 yX0_isPricedByNewItem yX0_isPricedByNewItem, Cond.code yX0_isPricedByNewItem cX0_isPricedByNewItem 3 (some .boolean), Cond.methodLink RX0 53 yX0_hasObserved, Cond.instanceMethod yX0_hasObserved, Cond.selects RX0 yX0_hasObserved yX0_hasObserved, Cond.code yX0_hasObserved cX0_hasObserved 4 (some .boolean), Cond.fieldLink RX0 21 "PriceIndexCalculator$Basket" "seasons" "[I", Cond.fieldLink RX0 33 "PriceIndexCalculator$Basket" "quoted" "[I", Cond.static yX6_cell, Cond.code yX6_cell cX6_cell 2 (some .int), Cond.methodLink RX3 48 yX0_effective, Cond.instanceMethod yX0_effective, Cond.selects RX0 yX0_effective yX0_effective, Cond.code yX0_effective cX0_effective 5 (some .float), Cond.methodLink RX0 70 yX0_observed, Cond.instanceMethod yX0_observed, Cond.selects RX0 yX0_observed yX0_observed]
def wsX6_chainedIndex_r3 : List Cond := [Cond.code yX0_observed cX0_observed 3 (some .float), Cond.fieldLink RX0 18 "PriceIndexCalculator$Basket" "size" "[I", Cond.methodLink RX0 61 yX5_over, Cond.static yX5_over, Cond.initialized RX5, Cond.code yX5_over cX5_over 2 (some .float), Cond.methodLink RX5 9 yX5_isNan, Cond.static yX5_isNan, Cond.code yX5_isNan cX5_isNan 1 (some .boolean), Cond.methodLink RX5 19 yX5_isInfinite, Cond.static yX5_isInfinite, Cond.code yX5_isInfinite cX5_isInfinite 1 (some .boolean), Cond.constantFloat RX5 8 (2139095039), Cond.methodLink RX5 15 yX5_nan, Cond.static yX5_nan, Cond.code yX5_nan cX5_nan 0 (some .float), Cond.constantFloat RX5 7 (3212836864), Cond.methodLink RX0 74 yX5_times, Cond.static yX5_times, Cond.code yX5_times cX5_times 2 (some .float), Cond.methodLink RX3 51 yX2_put, Cond.instanceMethod yX2_put, Cond.selects RX2 yX2_put yX2_put, Cond.initialized RX2]
def wsX6_chainedIndex_r4 : List Cond := [Cond.code yX2_put cX2_put 4 none, Cond.fieldLink RX2 9 "PriceIndexCalculator$PriceRows" "exists" "[Z", Cond.fieldLink RX2 15 "PriceIndexCalculator$PriceRows" "price" "[F", Cond.methodLink RX3 55 yX2_remove, Cond.instanceMethod yX2_remove, Cond.selects RX2 yX2_remove yX2_remove, Cond.code yX2_remove cX2_remove 3 none, Cond.methodLink RX3 41 yX3_fillKnown, Cond.instanceMethod yX3_fillKnown, Cond.selects RX3 yX3_fillKnown yX3_fillKnown, Cond.code yX3_fillKnown cX3_fillKnown 5 none, Cond.fieldLink RX3 63 "PriceIndexCalculator$Basket" "stratum" "[I", Cond.methodLink RX3 59 yX2_movement, Cond.instanceMethod yX2_movement, Cond.selects RX2 yX2_movement yX2_movement, Cond.code yX2_movement cX2_movement 5 (some .float), Cond.fieldLink RX2 19 "PriceIndexCalculator$PriceRows" "basket" "LPriceIndexCalculator$Basket;", Cond.fieldLink RX2 45 "PriceIndexCalculator$Basket" "formula" "I", Cond.methodLink RX2 41 yX2_countMatched, Cond.instanceMethod yX2_countMatched, Cond.selects RX2 yX2_countMatched yX2_countMatched, Cond.code yX2_countMatched cX2_countMatched 6 (some .int), Cond.fieldLink RX2 33 "PriceIndexCalculator$Basket" "items" "I", Cond.methodLink RX2 37 yX2_isMatched]
def wsX6_chainedIndex_r5 : List Cond := [Cond.instanceMethod yX2_isMatched, Cond.selects RX2 yX2_isMatched yX2_isMatched, Cond.code yX2_isMatched cX2_isMatched 5 (some .boolean), Cond.fieldLink RX2 27 "PriceIndexCalculator$Basket" "stratum" "[I", Cond.methodLink RX2 48 yX2_sumOfPrices, Cond.instanceMethod yX2_sumOfPrices, Cond.selects RX2 yX2_sumOfPrices yX2_sumOfPrices, Cond.code yX2_sumOfPrices cX2_sumOfPrices 7 (some .float), Cond.methodLink RX2 62 yX2_get, Cond.instanceMethod yX2_get, Cond.selects RX2 yX2_get yX2_get, Cond.code yX2_get cX2_get 3 (some .float), Cond.methodLink RX2 66 yX5_plus, Cond.static yX5_plus, Cond.code yX5_plus cX5_plus 2 (some .float), Cond.methodLink RX2 52 yX5_over, Cond.methodLink RX2 58 yX2_sumOfRatios, Cond.instanceMethod yX2_sumOfRatios, Cond.selects RX2 yX2_sumOfRatios yX2_sumOfRatios, Cond.code yX2_sumOfRatios cX2_sumOfRatios 6 (some .float), Cond.methodLink RX3 67 yX3_fillKnownCell, Cond.instanceMethod yX3_fillKnownCell, Cond.selects RX3 yX3_fillKnownCell yX3_fillKnownCell, Cond.code yX3_fillKnownCell cX3_fillKnownCell 4 none]
def wsX6_chainedIndex_r6 : List Cond := [Cond.fieldLink RX3 24 "PriceIndexCalculator$PriceTable" "known" "LPriceIndexCalculator$PriceRows;", Cond.methodLink RX3 70 yX2_has, Cond.instanceMethod yX2_has, Cond.selects RX2 yX2_has yX2_has, Cond.code yX2_has cX2_has 3 (some .boolean), Cond.methodLink RX3 73 yX2_get, Cond.methodLink RX3 76 yX5_times, Cond.methodLink RX6 169 yX3_chained, Cond.instanceMethod yX3_chained, Cond.selects RX3 yX3_chained yX3_chained, Cond.code yX3_chained cX3_chained 6 (some .float), Cond.constantFloat RX3 86 (1120403456), Cond.methodLink RX6 166 yX5_hundredths, Cond.static yX5_hundredths, Cond.code yX5_hundredths cX5_hundredths 1 (some .int), Cond.constantFloat RX5 22 (1120403456), Cond.constantFloat RX5 23 (1056964608)]
def wsX6_chainedIndex : List Cond := .code yX6_chainedIndex cX6_chainedIndex 4 (some .int) :: ((wsX6_chainedIndex_r1 ++ (wsX6_chainedIndex_r2 ++ (wsX6_chainedIndex_r3 ++ (wsX6_chainedIndex_r4 ++ (wsX6_chainedIndex_r5 ++ wsX6_chainedIndex_r6))))) ++ wsX60 ++ wsX30 ++ wsX00 ++ wsX20)
def wsX6_drift_r1 : List Cond := [Cond.fieldLink RX6 35 "PriceIndexCalculator" "table" "LPriceIndexCalculator$PriceTable;", Cond.constant RX6 172 (1000000), Cond.methodLink RX6 39 yX6_isStratum, Cond.static yX6_isStratum, Cond.initialized RX6, Cond.code yX6_isStratum cX6_isStratum 1 (some .boolean), Cond.methodLink RX6 61 yX6_isMonth, Cond.static yX6_isMonth, Cond.code yX6_isMonth cX6_isMonth 1 (some .boolean), Cond.methodLink RX6 121 yX3_refresh, Cond.instanceMethod yX3_refresh, Cond.selects RX3 yX3_refresh yX3_refresh, Cond.initialized RX3, Cond.code yX3_refresh cX3_refresh 2 none, Cond.fieldLink RX3 27 "PriceIndexCalculator$PriceTable" "fresh" "Z", Cond.fieldLink RX3 9 "PriceIndexCalculator$PriceTable" "basket" "LPriceIndexCalculator$Basket;", Cond.fieldLink RX3 31 "PriceIndexCalculator$Basket" "items" "I", Cond.methodLink RX3 37 yX3_fillEffective, Cond.instanceMethod yX3_fillEffective, Cond.selects RX3 yX3_fillEffective yX3_fillEffective, Cond.code yX3_fillEffective cX3_fillEffective 3 none, Cond.fieldLink RX3 20 "PriceIndexCalculator$PriceTable" "effective" "LPriceIndexCalculator$PriceRows;", Cond.methodLink RX3 44 yX0_hasEffective, Cond.instanceMethod yX0_hasEffective]
def wsX6_drift_r2 : List Cond := [Cond.selects RX0 yX0_hasEffective yX0_hasEffective, Cond.initialized RX0, Cond.code yX0_hasEffective cX0_hasEffective 4 (some .boolean), Cond.fieldLink RX0 27 "PriceIndexCalculator$Basket" "oldItemOf" "[I", Cond.fieldLink RX0 24 "PriceIndexCalculator$Basket" "newItemOf" "[I", Cond.fieldLink RX0 30 "PriceIndexCalculator$Basket" "overlap" "[I", Cond.methodLink RX0 67 yX0_isPricedByNewItem, Cond.instanceMethod yX0_isPricedByNewItem, Cond.selects RX0 yX0_isPricedByNewItem yX0_isPricedByNewItem, Cond.code yX0_isPricedByNewItem cX0_isPricedByNewItem 3 (some .boolean), Cond.methodLink RX0 53 yX0_hasObserved, Cond.instanceMethod yX0_hasObserved, Cond.selects RX0 yX0_hasObserved yX0_hasObserved, Cond.code yX0_hasObserved cX0_hasObserved 4 (some .boolean), Cond.fieldLink RX0 21 "PriceIndexCalculator$Basket" "seasons" "[I", Cond.fieldLink RX0 33 "PriceIndexCalculator$Basket" "quoted" "[I", Cond.static yX6_cell, Cond.code yX6_cell cX6_cell 2 (some .int), Cond.methodLink RX3 48 yX0_effective, Cond.instanceMethod yX0_effective, Cond.selects RX0 yX0_effective yX0_effective, Cond.code yX0_effective cX0_effective 5 (some .float), Cond.methodLink RX0 70 yX0_observed, Cond.instanceMethod yX0_observed]
def wsX6_drift_r3 : List Cond := [Cond.selects RX0 yX0_observed yX0_observed, Cond.code yX0_observed cX0_observed 3 (some .float), Cond.fieldLink RX0 18 "PriceIndexCalculator$Basket" "size" "[I", Cond.methodLink RX0 61 yX5_over, Cond.static yX5_over, Cond.initialized RX5, Cond.code yX5_over cX5_over 2 (some .float), Cond.methodLink RX5 9 yX5_isNan, Cond.static yX5_isNan, Cond.code yX5_isNan cX5_isNan 1 (some .boolean), Cond.methodLink RX5 19 yX5_isInfinite, Cond.static yX5_isInfinite, Cond.code yX5_isInfinite cX5_isInfinite 1 (some .boolean), Cond.constantFloat RX5 8 (2139095039), Cond.methodLink RX5 15 yX5_nan, Cond.static yX5_nan, Cond.code yX5_nan cX5_nan 0 (some .float), Cond.constantFloat RX5 7 (3212836864), Cond.methodLink RX0 74 yX5_times, Cond.static yX5_times, Cond.code yX5_times cX5_times 2 (some .float), Cond.methodLink RX3 51 yX2_put, Cond.instanceMethod yX2_put, Cond.selects RX2 yX2_put yX2_put]
def wsX6_drift_r4 : List Cond := [Cond.initialized RX2, Cond.code yX2_put cX2_put 4 none, Cond.fieldLink RX2 9 "PriceIndexCalculator$PriceRows" "exists" "[Z", Cond.fieldLink RX2 15 "PriceIndexCalculator$PriceRows" "price" "[F", Cond.methodLink RX3 55 yX2_remove, Cond.instanceMethod yX2_remove, Cond.selects RX2 yX2_remove yX2_remove, Cond.code yX2_remove cX2_remove 3 none, Cond.methodLink RX3 41 yX3_fillKnown, Cond.instanceMethod yX3_fillKnown, Cond.selects RX3 yX3_fillKnown yX3_fillKnown, Cond.code yX3_fillKnown cX3_fillKnown 5 none, Cond.fieldLink RX3 63 "PriceIndexCalculator$Basket" "stratum" "[I", Cond.methodLink RX3 59 yX2_movement, Cond.instanceMethod yX2_movement, Cond.selects RX2 yX2_movement yX2_movement, Cond.code yX2_movement cX2_movement 5 (some .float), Cond.fieldLink RX2 19 "PriceIndexCalculator$PriceRows" "basket" "LPriceIndexCalculator$Basket;", Cond.fieldLink RX2 45 "PriceIndexCalculator$Basket" "formula" "I", Cond.methodLink RX2 41 yX2_countMatched, Cond.instanceMethod yX2_countMatched, Cond.selects RX2 yX2_countMatched yX2_countMatched, Cond.code yX2_countMatched cX2_countMatched 6 (some .int), Cond.fieldLink RX2 33 "PriceIndexCalculator$Basket" "items" "I"]
def wsX6_drift_r5 : List Cond := [Cond.methodLink RX2 37 yX2_isMatched, Cond.instanceMethod yX2_isMatched, Cond.selects RX2 yX2_isMatched yX2_isMatched, Cond.code yX2_isMatched cX2_isMatched 5 (some .boolean), Cond.fieldLink RX2 27 "PriceIndexCalculator$Basket" "stratum" "[I", Cond.methodLink RX2 48 yX2_sumOfPrices, Cond.instanceMethod yX2_sumOfPrices, Cond.selects RX2 yX2_sumOfPrices yX2_sumOfPrices, Cond.code yX2_sumOfPrices cX2_sumOfPrices 7 (some .float), Cond.methodLink RX2 62 yX2_get, Cond.instanceMethod yX2_get, Cond.selects RX2 yX2_get yX2_get, Cond.code yX2_get cX2_get 3 (some .float), Cond.methodLink RX2 66 yX5_plus, Cond.static yX5_plus, Cond.code yX5_plus cX5_plus 2 (some .float), Cond.methodLink RX2 52 yX5_over, Cond.methodLink RX2 58 yX2_sumOfRatios, Cond.instanceMethod yX2_sumOfRatios, Cond.selects RX2 yX2_sumOfRatios yX2_sumOfRatios, Cond.code yX2_sumOfRatios cX2_sumOfRatios 6 (some .float), Cond.methodLink RX3 67 yX3_fillKnownCell, Cond.instanceMethod yX3_fillKnownCell, Cond.selects RX3 yX3_fillKnownCell yX3_fillKnownCell]
def wsX6_drift_r6 : List Cond := [Cond.code yX3_fillKnownCell cX3_fillKnownCell 4 none, Cond.fieldLink RX3 24 "PriceIndexCalculator$PriceTable" "known" "LPriceIndexCalculator$PriceRows;", Cond.methodLink RX3 70 yX2_has, Cond.instanceMethod yX2_has, Cond.selects RX2 yX2_has yX2_has, Cond.code yX2_has cX2_has 3 (some .boolean), Cond.methodLink RX3 73 yX2_get, Cond.methodLink RX3 76 yX5_times, Cond.methodLink RX6 160 yX3_hasDirect, Cond.instanceMethod yX3_hasDirect, Cond.selects RX3 yX3_hasDirect yX3_hasDirect, Cond.code yX3_hasDirect cX3_hasDirect 4 (some .boolean), Cond.methodLink RX3 82 yX2_countMatched, Cond.methodLink RX6 169 yX3_chained, Cond.instanceMethod yX3_chained, Cond.selects RX3 yX3_chained yX3_chained, Cond.code yX3_chained cX3_chained 6 (some .float), Cond.constantFloat RX3 86 (1120403456), Cond.methodLink RX6 166 yX5_hundredths, Cond.static yX5_hundredths, Cond.code yX5_hundredths cX5_hundredths 1 (some .int), Cond.constantFloat RX5 22 (1120403456), Cond.constantFloat RX5 23 (1056964608), Cond.methodLink RX6 163 yX3_direct]
def wsX6_drift_r7 : List Cond := [Cond.instanceMethod yX3_direct, Cond.selects RX3 yX3_direct yX3_direct, Cond.code yX3_direct cX3_direct 4 (some .float)]
def wsX6_drift : List Cond := .code yX6_drift cX6_drift 6 (some .int) :: ((wsX6_drift_r1 ++ (wsX6_drift_r2 ++ (wsX6_drift_r3 ++ (wsX6_drift_r4 ++ (wsX6_drift_r5 ++ (wsX6_drift_r6 ++ wsX6_drift_r7)))))) ++ wsX60 ++ wsX30 ++ wsX00 ++ wsX20)
def wsX6_aggregateIndex_r1 : List Cond := [Cond.fieldLink RX6 35 "PriceIndexCalculator" "table" "LPriceIndexCalculator$PriceTable;", Cond.methodLink RX6 61 yX6_isMonth, Cond.static yX6_isMonth, Cond.initialized RX6, Cond.code yX6_isMonth cX6_isMonth 1 (some .boolean), Cond.methodLink RX6 121 yX3_refresh, Cond.instanceMethod yX3_refresh, Cond.selects RX3 yX3_refresh yX3_refresh, Cond.initialized RX3, Cond.code yX3_refresh cX3_refresh 2 none, Cond.fieldLink RX3 27 "PriceIndexCalculator$PriceTable" "fresh" "Z", Cond.fieldLink RX3 9 "PriceIndexCalculator$PriceTable" "basket" "LPriceIndexCalculator$Basket;", Cond.fieldLink RX3 31 "PriceIndexCalculator$Basket" "items" "I", Cond.methodLink RX3 37 yX3_fillEffective, Cond.instanceMethod yX3_fillEffective, Cond.selects RX3 yX3_fillEffective yX3_fillEffective, Cond.code yX3_fillEffective cX3_fillEffective 3 none, Cond.fieldLink RX3 20 "PriceIndexCalculator$PriceTable" "effective" "LPriceIndexCalculator$PriceRows;", Cond.methodLink RX3 44 yX0_hasEffective, Cond.instanceMethod yX0_hasEffective, Cond.selects RX0 yX0_hasEffective yX0_hasEffective, Cond.initialized RX0, Cond.code yX0_hasEffective cX0_hasEffective 4 (some .boolean), Cond.fieldLink RX0 27 "PriceIndexCalculator$Basket" "oldItemOf" "[I"]
def wsX6_aggregateIndex_r2 : List Cond := [Cond.fieldLink RX0 24 "PriceIndexCalculator$Basket" "newItemOf" "[I", Cond.fieldLink RX0 30 "PriceIndexCalculator$Basket" "overlap" "[I", Cond.methodLink RX0 67 yX0_isPricedByNewItem, Cond.instanceMethod yX0_isPricedByNewItem, Cond.selects RX0 yX0_isPricedByNewItem yX0_isPricedByNewItem, Cond.code yX0_isPricedByNewItem cX0_isPricedByNewItem 3 (some .boolean), Cond.methodLink RX0 53 yX0_hasObserved, Cond.instanceMethod yX0_hasObserved, Cond.selects RX0 yX0_hasObserved yX0_hasObserved, Cond.code yX0_hasObserved cX0_hasObserved 4 (some .boolean), Cond.fieldLink RX0 21 "PriceIndexCalculator$Basket" "seasons" "[I", Cond.fieldLink RX0 33 "PriceIndexCalculator$Basket" "quoted" "[I", Cond.static yX6_cell, Cond.code yX6_cell cX6_cell 2 (some .int), Cond.methodLink RX3 48 yX0_effective, Cond.instanceMethod yX0_effective, Cond.selects RX0 yX0_effective yX0_effective, Cond.code yX0_effective cX0_effective 5 (some .float), Cond.methodLink RX0 70 yX0_observed, Cond.instanceMethod yX0_observed, Cond.selects RX0 yX0_observed yX0_observed, Cond.code yX0_observed cX0_observed 3 (some .float), Cond.fieldLink RX0 18 "PriceIndexCalculator$Basket" "size" "[I", Cond.methodLink RX0 61 yX5_over]
def wsX6_aggregateIndex_r3 : List Cond := [Cond.static yX5_over, Cond.initialized RX5, Cond.code yX5_over cX5_over 2 (some .float), Cond.methodLink RX5 9 yX5_isNan, Cond.static yX5_isNan, Cond.code yX5_isNan cX5_isNan 1 (some .boolean), Cond.methodLink RX5 19 yX5_isInfinite, Cond.static yX5_isInfinite, Cond.code yX5_isInfinite cX5_isInfinite 1 (some .boolean), Cond.constantFloat RX5 8 (2139095039), Cond.methodLink RX5 15 yX5_nan, Cond.static yX5_nan, Cond.code yX5_nan cX5_nan 0 (some .float), Cond.constantFloat RX5 7 (3212836864), Cond.methodLink RX0 74 yX5_times, Cond.static yX5_times, Cond.code yX5_times cX5_times 2 (some .float), Cond.methodLink RX3 51 yX2_put, Cond.instanceMethod yX2_put, Cond.selects RX2 yX2_put yX2_put, Cond.initialized RX2, Cond.code yX2_put cX2_put 4 none, Cond.fieldLink RX2 9 "PriceIndexCalculator$PriceRows" "exists" "[Z", Cond.fieldLink RX2 15 "PriceIndexCalculator$PriceRows" "price" "[F"]
def wsX6_aggregateIndex_r4 : List Cond := [Cond.methodLink RX3 55 yX2_remove, Cond.instanceMethod yX2_remove, Cond.selects RX2 yX2_remove yX2_remove, Cond.code yX2_remove cX2_remove 3 none, Cond.methodLink RX3 41 yX3_fillKnown, Cond.instanceMethod yX3_fillKnown, Cond.selects RX3 yX3_fillKnown yX3_fillKnown, Cond.code yX3_fillKnown cX3_fillKnown 5 none, Cond.fieldLink RX3 63 "PriceIndexCalculator$Basket" "stratum" "[I", Cond.methodLink RX3 59 yX2_movement, Cond.instanceMethod yX2_movement, Cond.selects RX2 yX2_movement yX2_movement, Cond.code yX2_movement cX2_movement 5 (some .float), Cond.fieldLink RX2 19 "PriceIndexCalculator$PriceRows" "basket" "LPriceIndexCalculator$Basket;", Cond.fieldLink RX2 45 "PriceIndexCalculator$Basket" "formula" "I", Cond.methodLink RX2 41 yX2_countMatched, Cond.instanceMethod yX2_countMatched, Cond.selects RX2 yX2_countMatched yX2_countMatched, Cond.code yX2_countMatched cX2_countMatched 6 (some .int), Cond.fieldLink RX2 33 "PriceIndexCalculator$Basket" "items" "I", Cond.methodLink RX2 37 yX2_isMatched, Cond.instanceMethod yX2_isMatched, Cond.selects RX2 yX2_isMatched yX2_isMatched, Cond.code yX2_isMatched cX2_isMatched 5 (some .boolean)]
def wsX6_aggregateIndex_r5 : List Cond := [Cond.fieldLink RX2 27 "PriceIndexCalculator$Basket" "stratum" "[I", Cond.methodLink RX2 48 yX2_sumOfPrices, Cond.instanceMethod yX2_sumOfPrices, Cond.selects RX2 yX2_sumOfPrices yX2_sumOfPrices, Cond.code yX2_sumOfPrices cX2_sumOfPrices 7 (some .float), Cond.methodLink RX2 62 yX2_get, Cond.instanceMethod yX2_get, Cond.selects RX2 yX2_get yX2_get, Cond.code yX2_get cX2_get 3 (some .float), Cond.methodLink RX2 66 yX5_plus, Cond.static yX5_plus, Cond.code yX5_plus cX5_plus 2 (some .float), Cond.methodLink RX2 52 yX5_over, Cond.methodLink RX2 58 yX2_sumOfRatios, Cond.instanceMethod yX2_sumOfRatios, Cond.selects RX2 yX2_sumOfRatios yX2_sumOfRatios, Cond.code yX2_sumOfRatios cX2_sumOfRatios 6 (some .float), Cond.methodLink RX3 67 yX3_fillKnownCell, Cond.instanceMethod yX3_fillKnownCell, Cond.selects RX3 yX3_fillKnownCell yX3_fillKnownCell, Cond.code yX3_fillKnownCell cX3_fillKnownCell 4 none, Cond.fieldLink RX3 24 "PriceIndexCalculator$PriceTable" "known" "LPriceIndexCalculator$PriceRows;", Cond.methodLink RX3 70 yX2_has, Cond.instanceMethod yX2_has]
def wsX6_aggregateIndex_r6 : List Cond := [Cond.selects RX2 yX2_has yX2_has, Cond.code yX2_has cX2_has 3 (some .boolean), Cond.methodLink RX3 73 yX2_get, Cond.methodLink RX3 76 yX5_times, Cond.methodLink RX6 173 yX3_weightOfDirect, Cond.instanceMethod yX3_weightOfDirect, Cond.selects RX3 yX3_weightOfDirect yX3_weightOfDirect, Cond.code yX3_weightOfDirect cX3_weightOfDirect 5 (some .int), Cond.fieldLink RX3 91 "PriceIndexCalculator$Basket" "weight" "[I", Cond.methodLink RX3 87 yX3_hasDirect, Cond.instanceMethod yX3_hasDirect, Cond.selects RX3 yX3_hasDirect yX3_hasDirect, Cond.code yX3_hasDirect cX3_hasDirect 4 (some .boolean), Cond.methodLink RX3 82 yX2_countMatched, Cond.methodLink RX6 176 yX3_aggregate, Cond.instanceMethod yX3_aggregate, Cond.selects RX3 yX3_aggregate yX3_aggregate, Cond.code yX3_aggregate cX3_aggregate 6 (some .float), Cond.methodLink RX3 94 yX3_direct, Cond.instanceMethod yX3_direct, Cond.selects RX3 yX3_direct yX3_direct, Cond.code yX3_direct cX3_direct 4 (some .float), Cond.constantFloat RX3 86 (1120403456), Cond.methodLink RX3 97 yX5_plus]
def wsX6_aggregateIndex_r7 : List Cond := [Cond.methodLink RX3 100 yX3_weightOfDirect, Cond.methodLink RX3 104 yX5_over, Cond.methodLink RX6 166 yX5_hundredths, Cond.static yX5_hundredths, Cond.code yX5_hundredths cX5_hundredths 1 (some .int), Cond.constantFloat RX5 22 (1120403456), Cond.constantFloat RX5 23 (1056964608)]
def wsX6_aggregateIndex : List Cond := .code yX6_aggregateIndex cX6_aggregateIndex 3 (some .int) :: ((wsX6_aggregateIndex_r1 ++ (wsX6_aggregateIndex_r2 ++ (wsX6_aggregateIndex_r3 ++ (wsX6_aggregateIndex_r4 ++ (wsX6_aggregateIndex_r5 ++ (wsX6_aggregateIndex_r6 ++ wsX6_aggregateIndex_r7)))))) ++ wsX60 ++ wsX30 ++ wsX00 ++ wsX20)
def wsX6_aggregateBits_r1 : List Cond := [Cond.fieldLink RX6 35 "PriceIndexCalculator" "table" "LPriceIndexCalculator$PriceTable;", Cond.methodLink RX6 61 yX6_isMonth, Cond.static yX6_isMonth, Cond.initialized RX6, Cond.code yX6_isMonth cX6_isMonth 1 (some .boolean), Cond.methodLink RX6 121 yX3_refresh, Cond.instanceMethod yX3_refresh, Cond.selects RX3 yX3_refresh yX3_refresh, Cond.initialized RX3, Cond.code yX3_refresh cX3_refresh 2 none, Cond.fieldLink RX3 27 "PriceIndexCalculator$PriceTable" "fresh" "Z", Cond.fieldLink RX3 9 "PriceIndexCalculator$PriceTable" "basket" "LPriceIndexCalculator$Basket;", Cond.fieldLink RX3 31 "PriceIndexCalculator$Basket" "items" "I", Cond.methodLink RX3 37 yX3_fillEffective, Cond.instanceMethod yX3_fillEffective, Cond.selects RX3 yX3_fillEffective yX3_fillEffective, Cond.code yX3_fillEffective cX3_fillEffective 3 none, Cond.fieldLink RX3 20 "PriceIndexCalculator$PriceTable" "effective" "LPriceIndexCalculator$PriceRows;", Cond.methodLink RX3 44 yX0_hasEffective, Cond.instanceMethod yX0_hasEffective, Cond.selects RX0 yX0_hasEffective yX0_hasEffective, Cond.initialized RX0, Cond.code yX0_hasEffective cX0_hasEffective 4 (some .boolean), Cond.fieldLink RX0 27 "PriceIndexCalculator$Basket" "oldItemOf" "[I"]
def wsX6_aggregateBits_r2 : List Cond := [Cond.fieldLink RX0 24 "PriceIndexCalculator$Basket" "newItemOf" "[I", Cond.fieldLink RX0 30 "PriceIndexCalculator$Basket" "overlap" "[I", Cond.methodLink RX0 67 yX0_isPricedByNewItem, Cond.instanceMethod yX0_isPricedByNewItem, Cond.selects RX0 yX0_isPricedByNewItem yX0_isPricedByNewItem, Cond.code yX0_isPricedByNewItem cX0_isPricedByNewItem 3 (some .boolean), Cond.methodLink RX0 53 yX0_hasObserved, Cond.instanceMethod yX0_hasObserved, Cond.selects RX0 yX0_hasObserved yX0_hasObserved, Cond.code yX0_hasObserved cX0_hasObserved 4 (some .boolean), Cond.fieldLink RX0 21 "PriceIndexCalculator$Basket" "seasons" "[I", Cond.fieldLink RX0 33 "PriceIndexCalculator$Basket" "quoted" "[I", Cond.static yX6_cell, Cond.code yX6_cell cX6_cell 2 (some .int), Cond.methodLink RX3 48 yX0_effective, Cond.instanceMethod yX0_effective, Cond.selects RX0 yX0_effective yX0_effective, Cond.code yX0_effective cX0_effective 5 (some .float), Cond.methodLink RX0 70 yX0_observed, Cond.instanceMethod yX0_observed, Cond.selects RX0 yX0_observed yX0_observed, Cond.code yX0_observed cX0_observed 3 (some .float), Cond.fieldLink RX0 18 "PriceIndexCalculator$Basket" "size" "[I", Cond.methodLink RX0 61 yX5_over]
def wsX6_aggregateBits_r3 : List Cond := [Cond.static yX5_over, Cond.initialized RX5, Cond.code yX5_over cX5_over 2 (some .float), Cond.methodLink RX5 9 yX5_isNan, Cond.static yX5_isNan, Cond.code yX5_isNan cX5_isNan 1 (some .boolean), Cond.methodLink RX5 19 yX5_isInfinite, Cond.static yX5_isInfinite, Cond.code yX5_isInfinite cX5_isInfinite 1 (some .boolean), Cond.constantFloat RX5 8 (2139095039), Cond.methodLink RX5 15 yX5_nan, Cond.static yX5_nan, Cond.code yX5_nan cX5_nan 0 (some .float), Cond.constantFloat RX5 7 (3212836864), Cond.methodLink RX0 74 yX5_times, Cond.static yX5_times, Cond.code yX5_times cX5_times 2 (some .float), Cond.methodLink RX3 51 yX2_put, Cond.instanceMethod yX2_put, Cond.selects RX2 yX2_put yX2_put, Cond.initialized RX2, Cond.code yX2_put cX2_put 4 none, Cond.fieldLink RX2 9 "PriceIndexCalculator$PriceRows" "exists" "[Z", Cond.fieldLink RX2 15 "PriceIndexCalculator$PriceRows" "price" "[F"]
def wsX6_aggregateBits_r4 : List Cond := [Cond.methodLink RX3 55 yX2_remove, Cond.instanceMethod yX2_remove, Cond.selects RX2 yX2_remove yX2_remove, Cond.code yX2_remove cX2_remove 3 none, Cond.methodLink RX3 41 yX3_fillKnown, Cond.instanceMethod yX3_fillKnown, Cond.selects RX3 yX3_fillKnown yX3_fillKnown, Cond.code yX3_fillKnown cX3_fillKnown 5 none, Cond.fieldLink RX3 63 "PriceIndexCalculator$Basket" "stratum" "[I", Cond.methodLink RX3 59 yX2_movement, Cond.instanceMethod yX2_movement, Cond.selects RX2 yX2_movement yX2_movement, Cond.code yX2_movement cX2_movement 5 (some .float), Cond.fieldLink RX2 19 "PriceIndexCalculator$PriceRows" "basket" "LPriceIndexCalculator$Basket;", Cond.fieldLink RX2 45 "PriceIndexCalculator$Basket" "formula" "I", Cond.methodLink RX2 41 yX2_countMatched, Cond.instanceMethod yX2_countMatched, Cond.selects RX2 yX2_countMatched yX2_countMatched, Cond.code yX2_countMatched cX2_countMatched 6 (some .int), Cond.fieldLink RX2 33 "PriceIndexCalculator$Basket" "items" "I", Cond.methodLink RX2 37 yX2_isMatched, Cond.instanceMethod yX2_isMatched, Cond.selects RX2 yX2_isMatched yX2_isMatched, Cond.code yX2_isMatched cX2_isMatched 5 (some .boolean)]
def wsX6_aggregateBits_r5 : List Cond := [Cond.fieldLink RX2 27 "PriceIndexCalculator$Basket" "stratum" "[I", Cond.methodLink RX2 48 yX2_sumOfPrices, Cond.instanceMethod yX2_sumOfPrices, Cond.selects RX2 yX2_sumOfPrices yX2_sumOfPrices, Cond.code yX2_sumOfPrices cX2_sumOfPrices 7 (some .float), Cond.methodLink RX2 62 yX2_get, Cond.instanceMethod yX2_get, Cond.selects RX2 yX2_get yX2_get, Cond.code yX2_get cX2_get 3 (some .float), Cond.methodLink RX2 66 yX5_plus, Cond.static yX5_plus, Cond.code yX5_plus cX5_plus 2 (some .float), Cond.methodLink RX2 52 yX5_over, Cond.methodLink RX2 58 yX2_sumOfRatios, Cond.instanceMethod yX2_sumOfRatios, Cond.selects RX2 yX2_sumOfRatios yX2_sumOfRatios, Cond.code yX2_sumOfRatios cX2_sumOfRatios 6 (some .float), Cond.methodLink RX3 67 yX3_fillKnownCell, Cond.instanceMethod yX3_fillKnownCell, Cond.selects RX3 yX3_fillKnownCell yX3_fillKnownCell, Cond.code yX3_fillKnownCell cX3_fillKnownCell 4 none, Cond.fieldLink RX3 24 "PriceIndexCalculator$PriceTable" "known" "LPriceIndexCalculator$PriceRows;", Cond.methodLink RX3 70 yX2_has, Cond.instanceMethod yX2_has]
def wsX6_aggregateBits_r6 : List Cond := [Cond.selects RX2 yX2_has yX2_has, Cond.code yX2_has cX2_has 3 (some .boolean), Cond.methodLink RX3 73 yX2_get, Cond.methodLink RX3 76 yX5_times, Cond.methodLink RX6 173 yX3_weightOfDirect, Cond.instanceMethod yX3_weightOfDirect, Cond.selects RX3 yX3_weightOfDirect yX3_weightOfDirect, Cond.code yX3_weightOfDirect cX3_weightOfDirect 5 (some .int), Cond.fieldLink RX3 91 "PriceIndexCalculator$Basket" "weight" "[I", Cond.methodLink RX3 87 yX3_hasDirect, Cond.instanceMethod yX3_hasDirect, Cond.selects RX3 yX3_hasDirect yX3_hasDirect, Cond.code yX3_hasDirect cX3_hasDirect 4 (some .boolean), Cond.methodLink RX3 82 yX2_countMatched, Cond.methodLink RX6 176 yX3_aggregate, Cond.instanceMethod yX3_aggregate, Cond.selects RX3 yX3_aggregate yX3_aggregate, Cond.code yX3_aggregate cX3_aggregate 6 (some .float), Cond.methodLink RX3 94 yX3_direct, Cond.instanceMethod yX3_direct, Cond.selects RX3 yX3_direct yX3_direct, Cond.code yX3_direct cX3_direct 4 (some .float), Cond.constantFloat RX3 86 (1120403456), Cond.methodLink RX3 97 yX5_plus]
def wsX6_aggregateBits_r7 : List Cond := [Cond.methodLink RX3 100 yX3_weightOfDirect, Cond.methodLink RX3 104 yX5_over, Cond.methodLink RX6 138 yX5_bits, Cond.static yX5_bits, Cond.code yX5_bits cX5_bits 3 (some .int), Cond.constant RX5 24 (2143289344), Cond.constant RX5 25 (2139095040), Cond.constantFloat RX5 26 (1258291200)]
def wsX6_aggregateBits : List Cond := .code yX6_aggregateBits cX6_aggregateBits 3 (some .int) :: ((wsX6_aggregateBits_r1 ++ (wsX6_aggregateBits_r2 ++ (wsX6_aggregateBits_r3 ++ (wsX6_aggregateBits_r4 ++ (wsX6_aggregateBits_r5 ++ (wsX6_aggregateBits_r6 ++ wsX6_aggregateBits_r7)))))) ++ wsX60 ++ wsX30 ++ wsX00 ++ wsX20)
def wsX6_undo_r1 : List Cond := [Cond.fieldLink RX6 19 "PriceIndexCalculator" "history" "LPriceIndexCalculator$History;", Cond.fieldLink RX6 179 "PriceIndexCalculator$History" "kept" "I", Cond.fieldLink RX6 35 "PriceIndexCalculator" "table" "LPriceIndexCalculator$PriceTable;", Cond.fieldLink RX6 12 "PriceIndexCalculator" "basket" "LPriceIndexCalculator$Basket;", Cond.methodLink RX6 182 yX3_outdate, Cond.instanceMethod yX3_outdate, Cond.selects RX3 yX3_outdate yX3_outdate, Cond.initialized RX3, Cond.code yX3_outdate cX3_outdate 1 none, Cond.fieldLink RX3 27 "PriceIndexCalculator$PriceTable" "fresh" "Z", Cond.methodLink RX6 185 yX1_takeBack, Cond.instanceMethod yX1_takeBack, Cond.selects RX1 yX1_takeBack yX1_takeBack, Cond.initialized RX1, Cond.code yX1_takeBack cX1_takeBack 3 (some .int), Cond.fieldLink RX1 18 "PriceIndexCalculator$History" "next" "I", Cond.fieldLink RX1 26 "PriceIndexCalculator$History" "kept" "I", Cond.fieldLink RX1 11 "PriceIndexCalculator$History" "ring" "[LPriceIndexCalculator$Basket;", Cond.methodLink RX1 22 yX0_copyFrom, Cond.instanceMethod yX0_copyFrom, Cond.selects RX0 yX0_copyFrom yX0_copyFrom, Cond.initialized RX0, Cond.code yX0_copyFrom cX0_copyFrom 2 none, Cond.fieldLink RX0 36 "PriceIndexCalculator$Basket" "items" "I"]
def wsX6_undo_r2 : List Cond := [Cond.fieldLink RX0 40 "PriceIndexCalculator$Basket" "formula" "I", Cond.fieldLink RX0 9 "PriceIndexCalculator$Basket" "weight" "[I", Cond.methodLink RX0 43 arraycopyName, Cond.native arraycopyName, Cond.static arraycopyName, Cond.initialized "java/lang/System", Cond.fieldLink RX0 15 "PriceIndexCalculator$Basket" "stratum" "[I", Cond.fieldLink RX0 18 "PriceIndexCalculator$Basket" "size" "[I", Cond.fieldLink RX0 21 "PriceIndexCalculator$Basket" "seasons" "[I", Cond.fieldLink RX0 24 "PriceIndexCalculator$Basket" "newItemOf" "[I", Cond.fieldLink RX0 27 "PriceIndexCalculator$Basket" "oldItemOf" "[I", Cond.fieldLink RX0 30 "PriceIndexCalculator$Basket" "overlap" "[I", Cond.fieldLink RX0 33 "PriceIndexCalculator$Basket" "quoted" "[I"]
def wsX6_undo : List Cond := .code yX6_undo cX6_undo 1 (some .int) :: ((wsX6_undo_r1 ++ wsX6_undo_r2) ++ wsX60 ++ wsX10 ++ wsX30 ++ wsX00)
def wsX7_init : List Cond := .code yX7_init cX7_init 2 none :: ([.methodLink RX7 1 objectInit, .instanceMethod objectInit, .code objectInit ⟨#[0xb1]⟩ 1 none, .arrayClass .int, .fieldLink RX7 7 "PriceIndexCalculatorModel" "s" "[I", .fieldLink RX7 13 "PriceIndexCalculatorModel" "past" "[I", .arrayClass .byte, .fieldLink RX7 16 "PriceIndexCalculatorModel" "text" "[B", .fieldLink RX7 20 "PriceIndexCalculatorModel" "quotation" "[I", .arrayClass .float, .fieldLink RX7 23 "PriceIndexCalculatorModel" "known" "[F", .arrayClass .boolean, .fieldLink RX7 27 "PriceIndexCalculatorModel" "isKnown" "[Z", .fieldLink RX7 31 "PriceIndexCalculatorModel" "isMade" "[Z"] ++ wsX70)
def wsX7_in : List Cond := .code yX7_in cX7_in 3 (some .boolean) :: ([])
def wsX7_edit : List Cond := .code yX7_edit cX7_edit 2 none :: ([.fieldLink RX7 34 "PriceIndexCalculatorModel" "pasts" "I", .fieldLink RX7 13 "PriceIndexCalculatorModel" "past" "[I", .fieldLink RX7 7 "PriceIndexCalculatorModel" "s" "[I"] ++ wsX70)
def wsX7_undo : List Cond := .code yX7_undo cX7_undo 2 (some .int) :: ([.fieldLink RX7 34 "PriceIndexCalculatorModel" "pasts" "I", .fieldLink RX7 7 "PriceIndexCalculatorModel" "s" "[I", .fieldLink RX7 13 "PriceIndexCalculatorModel" "past" "[I"] ++ wsX70)
def wsX7_isItem : List Cond := .code yX7_isItem cX7_isItem 2 (some .boolean) :: ([.fieldLink RX7 7 "PriceIndexCalculatorModel" "s" "[I", .methodLink RX7 38 yX7_in, .static yX7_in, .initialized RX7, .code yX7_in cX7_in 3 (some .boolean)] ++ wsX70)
def wsX7_isMonth : List Cond := .code yX7_isMonth cX7_isMonth 1 (some .boolean) :: ([.methodLink RX7 38 yX7_in, .static yX7_in, .initialized RX7, .code yX7_in cX7_in 3 (some .boolean)])
def wsX7_isStratum : List Cond := .code yX7_isStratum cX7_isStratum 1 (some .boolean) :: ([.methodLink RX7 38 yX7_in, .static yX7_in, .initialized RX7, .code yX7_in cX7_in 3 (some .boolean)])
def wsX7_addItem : List Cond := .code yX7_addItem cX7_addItem 5 (some .int) :: ([.fieldLink RX7 7 "PriceIndexCalculatorModel" "s" "[I", .methodLink RX7 42 yX7_isStratum, .static yX7_isStratum, .initialized RX7, .code yX7_isStratum cX7_isStratum 1 (some .boolean), .methodLink RX7 38 yX7_in, .static yX7_in, .code yX7_in cX7_in 3 (some .boolean), .methodLink RX7 46 yX7_edit, .instanceMethod yX7_edit, .selects RX7 yX7_edit yX7_edit, .code yX7_edit cX7_edit 2 none, .fieldLink RX7 34 "PriceIndexCalculatorModel" "pasts" "I", .fieldLink RX7 13 "PriceIndexCalculatorModel" "past" "[I"] ++ wsX70)
def wsX7_itemCount : List Cond := .code yX7_itemCount cX7_itemCount 1 (some .int) :: ([.fieldLink RX7 7 "PriceIndexCalculatorModel" "s" "[I"] ++ wsX70)
def wsX7_setPrice : List Cond := .code yX7_setPrice cX7_setPrice 5 (some .int) :: ([.constant RX7 55 (99999), .fieldLink RX7 7 "PriceIndexCalculatorModel" "s" "[I", .methodLink RX7 49 yX7_isItem, .instanceMethod yX7_isItem, .selects RX7 yX7_isItem yX7_isItem, .initialized RX7, .code yX7_isItem cX7_isItem 2 (some .boolean), .methodLink RX7 38 yX7_in, .static yX7_in, .code yX7_in cX7_in 3 (some .boolean), .methodLink RX7 52 yX7_isMonth, .static yX7_isMonth, .code yX7_isMonth cX7_isMonth 1 (some .boolean), .methodLink RX7 46 yX7_edit, .instanceMethod yX7_edit, .selects RX7 yX7_edit yX7_edit, .code yX7_edit cX7_edit 2 none, .fieldLink RX7 34 "PriceIndexCalculatorModel" "pasts" "I", .fieldLink RX7 13 "PriceIndexCalculatorModel" "past" "[I"] ++ wsX70)
def wsX7_quotedPrice : List Cond := .code yX7_quotedPrice cX7_quotedPrice 3 (some .int) :: ([.fieldLink RX7 7 "PriceIndexCalculatorModel" "s" "[I", .methodLink RX7 49 yX7_isItem, .instanceMethod yX7_isItem, .selects RX7 yX7_isItem yX7_isItem, .initialized RX7, .code yX7_isItem cX7_isItem 2 (some .boolean), .methodLink RX7 38 yX7_in, .static yX7_in, .code yX7_in cX7_in 3 (some .boolean), .methodLink RX7 52 yX7_isMonth, .static yX7_isMonth, .code yX7_isMonth cX7_isMonth 1 (some .boolean)] ++ wsX70)
def wsX7_appendCharacter : List Cond := .code yX7_appendCharacter cX7_appendCharacter 2 (some .int) :: ([.fieldLink RX7 56 "PriceIndexCalculatorModel" "typed" "I", .fieldLink RX7 16 "PriceIndexCalculatorModel" "text" "[B", .methodLink RX7 38 yX7_in, .static yX7_in, .initialized RX7, .code yX7_in cX7_in 3 (some .boolean)] ++ wsX70)
def wsX7_clearText : List Cond := .code yX7_clearText cX7_clearText 2 (some .int) :: ([.fieldLink RX7 56 "PriceIndexCalculatorModel" "typed" "I"] ++ wsX70)
def wsX7_isDigit : List Cond := .code yX7_isDigit cX7_isDigit 2 (some .boolean) :: ([.fieldLink RX7 56 "PriceIndexCalculatorModel" "typed" "I", .fieldLink RX7 16 "PriceIndexCalculatorModel" "text" "[B", .methodLink RX7 38 yX7_in, .static yX7_in, .initialized RX7, .code yX7_in cX7_in 3 (some .boolean)] ++ wsX70)
def wsX7_number : List Cond := .code yX7_number cX7_number 5 (some .int) :: ([.fieldLink RX7 59 "PriceIndexCalculatorModel" "at" "I", .fieldLink RX7 16 "PriceIndexCalculatorModel" "text" "[B", .fieldLink RX7 65 "PriceIndexCalculatorModel" "isWrong" "Z", .methodLink RX7 62 yX7_isDigit, .instanceMethod yX7_isDigit, .selects RX7 yX7_isDigit yX7_isDigit, .initialized RX7, .code yX7_isDigit cX7_isDigit 2 (some .boolean), .fieldLink RX7 56 "PriceIndexCalculatorModel" "typed" "I", .methodLink RX7 38 yX7_in, .static yX7_in, .code yX7_in cX7_in 3 (some .boolean)] ++ wsX70)
def wsX7_pass : List Cond := .code yX7_pass cX7_pass 2 none :: ([.fieldLink RX7 65 "PriceIndexCalculatorModel" "isWrong" "Z", .fieldLink RX7 59 "PriceIndexCalculatorModel" "at" "I", .fieldLink RX7 56 "PriceIndexCalculatorModel" "typed" "I", .fieldLink RX7 16 "PriceIndexCalculatorModel" "text" "[B"] ++ wsX70)
def wsX7_read : List Cond := .code yX7_read cX7_read 5 (some .int) :: ([.fieldLink RX7 59 "PriceIndexCalculatorModel" "at" "I", .fieldLink RX7 56 "PriceIndexCalculatorModel" "typed" "I", .fieldLink RX7 65 "PriceIndexCalculatorModel" "isWrong" "Z", .fieldLink RX7 7 "PriceIndexCalculatorModel" "s" "[I", .constant RX7 55 (99999), .fieldLink RX7 20 "PriceIndexCalculatorModel" "quotation" "[I", .methodLink RX7 69 yX7_number, .instanceMethod yX7_number, .selects RX7 yX7_number yX7_number, .initialized RX7, .code yX7_number cX7_number 5 (some .int), .fieldLink RX7 16 "PriceIndexCalculatorModel" "text" "[B", .methodLink RX7 62 yX7_isDigit, .instanceMethod yX7_isDigit, .selects RX7 yX7_isDigit yX7_isDigit, .code yX7_isDigit cX7_isDigit 2 (some .boolean), .methodLink RX7 38 yX7_in, .static yX7_in, .code yX7_in cX7_in 3 (some .boolean), .methodLink RX7 73 yX7_pass, .instanceMethod yX7_pass, .selects RX7 yX7_pass yX7_pass, .code yX7_pass cX7_pass 2 none] ++ wsX70)
def wsX7_importPrices_r1 : List Cond := [Cond.fieldLink RX7 65 "PriceIndexCalculatorModel" "isWrong" "Z", Cond.fieldLink RX7 59 "PriceIndexCalculatorModel" "at" "I", Cond.fieldLink RX7 7 "PriceIndexCalculatorModel" "s" "[I", Cond.fieldLink RX7 20 "PriceIndexCalculatorModel" "quotation" "[I", Cond.fieldLink RX7 56 "PriceIndexCalculatorModel" "typed" "I", Cond.methodLink RX7 77 yX7_read, Cond.instanceMethod yX7_read, Cond.selects RX7 yX7_read yX7_read, Cond.initialized RX7, Cond.code yX7_read cX7_read 5 (some .int), Cond.constant RX7 55 (99999), Cond.methodLink RX7 69 yX7_number, Cond.instanceMethod yX7_number, Cond.selects RX7 yX7_number yX7_number, Cond.code yX7_number cX7_number 5 (some .int), Cond.fieldLink RX7 16 "PriceIndexCalculatorModel" "text" "[B", Cond.methodLink RX7 62 yX7_isDigit, Cond.instanceMethod yX7_isDigit, Cond.selects RX7 yX7_isDigit yX7_isDigit, Cond.code yX7_isDigit cX7_isDigit 2 (some .boolean), Cond.methodLink RX7 38 yX7_in, Cond.static yX7_in, Cond.code yX7_in cX7_in 3 (some .boolean), Cond.methodLink RX7 73 yX7_pass]
def wsX7_importPrices_r2 : List Cond := [Cond.instanceMethod yX7_pass, Cond.selects RX7 yX7_pass yX7_pass, Cond.code yX7_pass cX7_pass 2 none, Cond.methodLink RX7 46 yX7_edit, Cond.instanceMethod yX7_edit, Cond.selects RX7 yX7_edit yX7_edit, Cond.code yX7_edit cX7_edit 2 none, Cond.fieldLink RX7 34 "PriceIndexCalculatorModel" "pasts" "I", Cond.fieldLink RX7 13 "PriceIndexCalculatorModel" "past" "[I"]
def wsX7_importPrices : List Cond := .code yX7_importPrices cX7_importPrices 3 (some .int) :: ((wsX7_importPrices_r1 ++ wsX7_importPrices_r2) ++ wsX70)
def wsX7_oldOf : List Cond := .code yX7_oldOf cX7_oldOf 3 (some .int) :: ([.fieldLink RX7 7 "PriceIndexCalculatorModel" "s" "[I"] ++ wsX70)
def wsX7_takesPart : List Cond := .code yX7_takesPart cX7_takesPart 2 (some .boolean) :: ([.fieldLink RX7 7 "PriceIndexCalculatorModel" "s" "[I", .methodLink RX7 81 yX7_oldOf, .instanceMethod yX7_oldOf, .selects RX7 yX7_oldOf yX7_oldOf, .initialized RX7, .code yX7_oldOf cX7_oldOf 3 (some .int)] ++ wsX70)
def wsX7_replacements : List Cond := .code yX7_replacements cX7_replacements 3 (some .int) :: ([.fieldLink RX7 7 "PriceIndexCalculatorModel" "s" "[I"] ++ wsX70)
def wsX7_isObserved : List Cond := .code yX7_isObserved cX7_isObserved 3 (some .boolean) :: ([.fieldLink RX7 7 "PriceIndexCalculatorModel" "s" "[I"] ++ wsX70)
def wsX7_observed : List Cond := .code yX7_observed cX7_observed 3 (some .float) :: ([.fieldLink RX7 7 "PriceIndexCalculatorModel" "s" "[I"] ++ wsX70)
def wsX7_replaceItem_r1 : List Cond := [Cond.fieldLink RX7 7 "PriceIndexCalculatorModel" "s" "[I", Cond.methodLink RX7 49 yX7_isItem, Cond.instanceMethod yX7_isItem, Cond.selects RX7 yX7_isItem yX7_isItem, Cond.initialized RX7, Cond.code yX7_isItem cX7_isItem 2 (some .boolean), Cond.methodLink RX7 38 yX7_in, Cond.static yX7_in, Cond.code yX7_in cX7_in 3 (some .boolean), Cond.methodLink RX7 52 yX7_isMonth, Cond.static yX7_isMonth, Cond.code yX7_isMonth cX7_isMonth 1 (some .boolean), Cond.methodLink RX7 84 yX7_takesPart, Cond.instanceMethod yX7_takesPart, Cond.selects RX7 yX7_takesPart yX7_takesPart, Cond.code yX7_takesPart cX7_takesPart 2 (some .boolean), Cond.methodLink RX7 81 yX7_oldOf, Cond.instanceMethod yX7_oldOf, Cond.selects RX7 yX7_oldOf yX7_oldOf, Cond.code yX7_oldOf cX7_oldOf 3 (some .int), Cond.methodLink RX7 87 yX7_isObserved, Cond.instanceMethod yX7_isObserved, Cond.selects RX7 yX7_isObserved yX7_isObserved, Cond.code yX7_isObserved cX7_isObserved 3 (some .boolean)]
def wsX7_replaceItem_r2 : List Cond := [Cond.methodLink RX7 46 yX7_edit, Cond.instanceMethod yX7_edit, Cond.selects RX7 yX7_edit yX7_edit, Cond.code yX7_edit cX7_edit 2 none, Cond.fieldLink RX7 34 "PriceIndexCalculatorModel" "pasts" "I", Cond.fieldLink RX7 13 "PriceIndexCalculatorModel" "past" "[I", Cond.methodLink RX7 91 yX7_replacements, Cond.instanceMethod yX7_replacements, Cond.selects RX7 yX7_replacements yX7_replacements, Cond.code yX7_replacements cX7_replacements 3 (some .int)]
def wsX7_replaceItem : List Cond := .code yX7_replaceItem cX7_replaceItem 4 (some .int) :: ((wsX7_replaceItem_r1 ++ wsX7_replaceItem_r2) ++ wsX70)
def wsX7_endReplacement_r1 : List Cond := [Cond.fieldLink RX7 7 "PriceIndexCalculatorModel" "s" "[I", Cond.methodLink RX7 49 yX7_isItem, Cond.instanceMethod yX7_isItem, Cond.selects RX7 yX7_isItem yX7_isItem, Cond.initialized RX7, Cond.code yX7_isItem cX7_isItem 2 (some .boolean), Cond.methodLink RX7 38 yX7_in, Cond.static yX7_in, Cond.code yX7_in cX7_in 3 (some .boolean), Cond.methodLink RX7 84 yX7_takesPart, Cond.instanceMethod yX7_takesPart, Cond.selects RX7 yX7_takesPart yX7_takesPart, Cond.code yX7_takesPart cX7_takesPart 2 (some .boolean), Cond.methodLink RX7 81 yX7_oldOf, Cond.instanceMethod yX7_oldOf, Cond.selects RX7 yX7_oldOf yX7_oldOf, Cond.code yX7_oldOf cX7_oldOf 3 (some .int), Cond.methodLink RX7 46 yX7_edit, Cond.instanceMethod yX7_edit, Cond.selects RX7 yX7_edit yX7_edit, Cond.code yX7_edit cX7_edit 2 none, Cond.fieldLink RX7 34 "PriceIndexCalculatorModel" "pasts" "I", Cond.fieldLink RX7 13 "PriceIndexCalculatorModel" "past" "[I", Cond.methodLink RX7 91 yX7_replacements]
def wsX7_endReplacement_r2 : List Cond := [Cond.instanceMethod yX7_replacements, Cond.selects RX7 yX7_replacements yX7_replacements, Cond.code yX7_replacements cX7_replacements 3 (some .int)]
def wsX7_endReplacement : List Cond := .code yX7_endReplacement cX7_endReplacement 3 (some .int) :: ((wsX7_endReplacement_r1 ++ wsX7_endReplacement_r2) ++ wsX70)
def wsX7_replacementOf : List Cond := .code yX7_replacementOf cX7_replacementOf 2 (some .int) :: ([.fieldLink RX7 7 "PriceIndexCalculatorModel" "s" "[I", .methodLink RX7 49 yX7_isItem, .instanceMethod yX7_isItem, .selects RX7 yX7_isItem yX7_isItem, .initialized RX7, .code yX7_isItem cX7_isItem 2 (some .boolean), .methodLink RX7 38 yX7_in, .static yX7_in, .code yX7_in cX7_in 3 (some .boolean)] ++ wsX70)
def wsX7_setWeight : List Cond := .code yX7_setWeight cX7_setWeight 4 (some .int) :: ([.fieldLink RX7 7 "PriceIndexCalculatorModel" "s" "[I", .methodLink RX7 42 yX7_isStratum, .static yX7_isStratum, .initialized RX7, .code yX7_isStratum cX7_isStratum 1 (some .boolean), .methodLink RX7 38 yX7_in, .static yX7_in, .code yX7_in cX7_in 3 (some .boolean), .methodLink RX7 46 yX7_edit, .instanceMethod yX7_edit, .selects RX7 yX7_edit yX7_edit, .code yX7_edit cX7_edit 2 none, .fieldLink RX7 34 "PriceIndexCalculatorModel" "pasts" "I", .fieldLink RX7 13 "PriceIndexCalculatorModel" "past" "[I"] ++ wsX70)
def wsX7_setFormula : List Cond := .code yX7_setFormula cX7_setFormula 3 (some .int) :: ([.fieldLink RX7 7 "PriceIndexCalculatorModel" "s" "[I", .methodLink RX7 38 yX7_in, .static yX7_in, .initialized RX7, .code yX7_in cX7_in 3 (some .boolean), .methodLink RX7 46 yX7_edit, .instanceMethod yX7_edit, .selects RX7 yX7_edit yX7_edit, .code yX7_edit cX7_edit 2 none, .fieldLink RX7 34 "PriceIndexCalculatorModel" "pasts" "I", .fieldLink RX7 13 "PriceIndexCalculatorModel" "past" "[I"] ++ wsX70)
def wsX7_isEffective : List Cond := .code yX7_isEffective cX7_isEffective 4 (some .boolean) :: ([.fieldLink RX7 7 "PriceIndexCalculatorModel" "s" "[I", .methodLink RX7 81 yX7_oldOf, .instanceMethod yX7_oldOf, .selects RX7 yX7_oldOf yX7_oldOf, .initialized RX7, .code yX7_oldOf cX7_oldOf 3 (some .int), .methodLink RX7 87 yX7_isObserved, .instanceMethod yX7_isObserved, .selects RX7 yX7_isObserved yX7_isObserved, .code yX7_isObserved cX7_isObserved 3 (some .boolean)] ++ wsX70)
def wsX7_effective : List Cond := .code yX7_effective cX7_effective 6 (some .float) :: ([.fieldLink RX7 7 "PriceIndexCalculatorModel" "s" "[I", .methodLink RX7 94 yX7_observed, .instanceMethod yX7_observed, .selects RX7 yX7_observed yX7_observed, .initialized RX7, .code yX7_observed cX7_observed 3 (some .float)] ++ wsX70)
def wsX7_begin : List Cond := .code yX7_begin cX7_begin 1 none :: ([.fieldLink RX7 98 "PriceIndexCalculatorModel" "upper" "F", .fieldLink RX7 102 "PriceIndexCalculatorModel" "lower" "F", .fieldLink RX7 105 "PriceIndexCalculatorModel" "summed" "I"] ++ wsX70)
def wsX7_take : List Cond := .code yX7_take cX7_take 3 none :: ([.fieldLink RX7 105 "PriceIndexCalculatorModel" "summed" "I", .fieldLink RX7 7 "PriceIndexCalculatorModel" "s" "[I", .fieldLink RX7 98 "PriceIndexCalculatorModel" "upper" "F", .fieldLink RX7 102 "PriceIndexCalculatorModel" "lower" "F"] ++ wsX70)
def wsX7_result : List Cond := .code yX7_result cX7_result 1 (some .float) :: ([.fieldLink RX7 7 "PriceIndexCalculatorModel" "s" "[I", .fieldLink RX7 98 "PriceIndexCalculatorModel" "upper" "F", .fieldLink RX7 102 "PriceIndexCalculatorModel" "lower" "F", .fieldLink RX7 105 "PriceIndexCalculatorModel" "summed" "I"] ++ wsX70)
def wsX7_isMatched : List Cond := .code yX7_isMatched cX7_isMatched 5 (some .boolean) :: ([.fieldLink RX7 7 "PriceIndexCalculatorModel" "s" "[I", .methodLink RX7 108 yX7_isEffective, .instanceMethod yX7_isEffective, .selects RX7 yX7_isEffective yX7_isEffective, .initialized RX7, .code yX7_isEffective cX7_isEffective 4 (some .boolean), .methodLink RX7 81 yX7_oldOf, .instanceMethod yX7_oldOf, .selects RX7 yX7_oldOf yX7_oldOf, .code yX7_oldOf cX7_oldOf 3 (some .int), .methodLink RX7 87 yX7_isObserved, .instanceMethod yX7_isObserved, .selects RX7 yX7_isObserved yX7_isObserved, .code yX7_isObserved cX7_isObserved 3 (some .boolean)] ++ wsX70)
def wsX7_movement_r1 : List Cond := [Cond.fieldLink RX7 7 "PriceIndexCalculatorModel" "s" "[I", Cond.fieldLink RX7 105 "PriceIndexCalculatorModel" "summed" "I", Cond.methodLink RX7 111 yX7_begin, Cond.instanceMethod yX7_begin, Cond.selects RX7 yX7_begin yX7_begin, Cond.initialized RX7, Cond.code yX7_begin cX7_begin 1 none, Cond.fieldLink RX7 98 "PriceIndexCalculatorModel" "upper" "F", Cond.fieldLink RX7 102 "PriceIndexCalculatorModel" "lower" "F", Cond.methodLink RX7 114 yX7_isMatched, Cond.instanceMethod yX7_isMatched, Cond.selects RX7 yX7_isMatched yX7_isMatched, Cond.code yX7_isMatched cX7_isMatched 5 (some .boolean), Cond.methodLink RX7 108 yX7_isEffective, Cond.instanceMethod yX7_isEffective, Cond.selects RX7 yX7_isEffective yX7_isEffective, Cond.code yX7_isEffective cX7_isEffective 4 (some .boolean), Cond.methodLink RX7 81 yX7_oldOf, Cond.instanceMethod yX7_oldOf, Cond.selects RX7 yX7_oldOf yX7_oldOf, Cond.code yX7_oldOf cX7_oldOf 3 (some .int), Cond.methodLink RX7 87 yX7_isObserved, Cond.instanceMethod yX7_isObserved, Cond.selects RX7 yX7_isObserved yX7_isObserved]
def wsX7_movement_r2 : List Cond := [Cond.code yX7_isObserved cX7_isObserved 3 (some .boolean), Cond.methodLink RX7 118 yX7_effective, Cond.instanceMethod yX7_effective, Cond.selects RX7 yX7_effective yX7_effective, Cond.code yX7_effective cX7_effective 6 (some .float), Cond.methodLink RX7 94 yX7_observed, Cond.instanceMethod yX7_observed, Cond.selects RX7 yX7_observed yX7_observed, Cond.code yX7_observed cX7_observed 3 (some .float), Cond.methodLink RX7 121 yX7_take, Cond.instanceMethod yX7_take, Cond.selects RX7 yX7_take yX7_take, Cond.code yX7_take cX7_take 3 none, Cond.methodLink RX7 125 yX7_result, Cond.instanceMethod yX7_result, Cond.selects RX7 yX7_result yX7_result, Cond.code yX7_result cX7_result 1 (some .float)]
def wsX7_movement : List Cond := .code yX7_movement cX7_movement 5 (some .float) :: ((wsX7_movement_r1 ++ wsX7_movement_r2) ++ wsX70)
def wsX7_find_r1 : List Cond := [Cond.fieldLink RX7 7 "PriceIndexCalculatorModel" "s" "[I", Cond.fieldLink RX7 31 "PriceIndexCalculatorModel" "isMade" "[Z", Cond.fieldLink RX7 27 "PriceIndexCalculatorModel" "isKnown" "[Z", Cond.fieldLink RX7 23 "PriceIndexCalculatorModel" "known" "[F", Cond.methodLink RX7 108 yX7_isEffective, Cond.instanceMethod yX7_isEffective, Cond.selects RX7 yX7_isEffective yX7_isEffective, Cond.initialized RX7, Cond.code yX7_isEffective cX7_isEffective 4 (some .boolean), Cond.methodLink RX7 81 yX7_oldOf, Cond.instanceMethod yX7_oldOf, Cond.selects RX7 yX7_oldOf yX7_oldOf, Cond.code yX7_oldOf cX7_oldOf 3 (some .int), Cond.methodLink RX7 87 yX7_isObserved, Cond.instanceMethod yX7_isObserved, Cond.selects RX7 yX7_isObserved yX7_isObserved, Cond.code yX7_isObserved cX7_isObserved 3 (some .boolean), Cond.methodLink RX7 118 yX7_effective, Cond.instanceMethod yX7_effective, Cond.selects RX7 yX7_effective yX7_effective, Cond.code yX7_effective cX7_effective 6 (some .float), Cond.methodLink RX7 94 yX7_observed, Cond.instanceMethod yX7_observed, Cond.selects RX7 yX7_observed yX7_observed]
def wsX7_find_r2 : List Cond := [Cond.code yX7_observed cX7_observed 3 (some .float), Cond.methodLink RX7 129 yX7_movement, Cond.instanceMethod yX7_movement, Cond.selects RX7 yX7_movement yX7_movement, Cond.code yX7_movement cX7_movement 5 (some .float), Cond.fieldLink RX7 105 "PriceIndexCalculatorModel" "summed" "I", Cond.methodLink RX7 111 yX7_begin, Cond.instanceMethod yX7_begin, Cond.selects RX7 yX7_begin yX7_begin, Cond.code yX7_begin cX7_begin 1 none, Cond.fieldLink RX7 98 "PriceIndexCalculatorModel" "upper" "F", Cond.fieldLink RX7 102 "PriceIndexCalculatorModel" "lower" "F", Cond.methodLink RX7 114 yX7_isMatched, Cond.instanceMethod yX7_isMatched, Cond.selects RX7 yX7_isMatched yX7_isMatched, Cond.code yX7_isMatched cX7_isMatched 5 (some .boolean), Cond.methodLink RX7 121 yX7_take, Cond.instanceMethod yX7_take, Cond.selects RX7 yX7_take yX7_take, Cond.code yX7_take cX7_take 3 none, Cond.methodLink RX7 125 yX7_result, Cond.instanceMethod yX7_result, Cond.selects RX7 yX7_result yX7_result, Cond.code yX7_result cX7_result 1 (some .float)]
def wsX7_find : List Cond := .code yX7_find cX7_find 6 none :: ((wsX7_find_r1 ++ wsX7_find_r2) ++ wsX70)
def wsJxf58ca_isNaN_12338 : List Cond := .code yJxf58ca_isNaN_12338 cJxf58ca_isNaN_12338 1 (some .boolean) :: ([])
def wsJxf58ca_floatToIntBits_5c35a : List Cond := .code yJxf58ca_floatToIntBits_5c35a cJxf58ca_floatToIntBits_5c35a 1 (some .int) :: ([.methodLink RJxf58ca 74 ⟨"java/lang/Float", "floatToRawIntBits", "(F)I"⟩, .native ⟨"java/lang/Float", "floatToRawIntBits", "(F)I"⟩, .static ⟨"java/lang/Float", "floatToRawIntBits", "(F)I"⟩, .initialized "java/lang/Float", .constant RJxf58ca 77 (2143289344), .methodLink RJxf58ca 59 yJxf58ca_isNaN_12338, .static yJxf58ca_isNaN_12338, .initialized RJxf58ca, .code yJxf58ca_isNaN_12338 cJxf58ca_isNaN_12338 1 (some .boolean)])
def wsX7_knownPriceBits_r1 : List Cond := [Cond.fieldLink RX7 27 "PriceIndexCalculatorModel" "isKnown" "[Z", Cond.fieldLink RX7 23 "PriceIndexCalculatorModel" "known" "[F", Cond.methodLink RX7 49 yX7_isItem, Cond.instanceMethod yX7_isItem, Cond.selects RX7 yX7_isItem yX7_isItem, Cond.initialized RX7, Cond.code yX7_isItem cX7_isItem 2 (some .boolean), Cond.fieldLink RX7 7 "PriceIndexCalculatorModel" "s" "[I", Cond.methodLink RX7 38 yX7_in, Cond.static yX7_in, Cond.code yX7_in cX7_in 3 (some .boolean), Cond.methodLink RX7 52 yX7_isMonth, Cond.static yX7_isMonth, Cond.code yX7_isMonth cX7_isMonth 1 (some .boolean), Cond.methodLink RX7 133 yX7_find, Cond.instanceMethod yX7_find, Cond.selects RX7 yX7_find yX7_find, Cond.code yX7_find cX7_find 6 none, Cond.fieldLink RX7 31 "PriceIndexCalculatorModel" "isMade" "[Z", Cond.methodLink RX7 108 yX7_isEffective, Cond.instanceMethod yX7_isEffective, Cond.selects RX7 yX7_isEffective yX7_isEffective, Cond.code yX7_isEffective cX7_isEffective 4 (some .boolean), Cond.methodLink RX7 81 yX7_oldOf]
def wsX7_knownPriceBits_r2 : List Cond := [Cond.instanceMethod yX7_oldOf, Cond.selects RX7 yX7_oldOf yX7_oldOf, Cond.code yX7_oldOf cX7_oldOf 3 (some .int), Cond.methodLink RX7 87 yX7_isObserved, Cond.instanceMethod yX7_isObserved, Cond.selects RX7 yX7_isObserved yX7_isObserved, Cond.code yX7_isObserved cX7_isObserved 3 (some .boolean), Cond.methodLink RX7 118 yX7_effective, Cond.instanceMethod yX7_effective, Cond.selects RX7 yX7_effective yX7_effective, Cond.code yX7_effective cX7_effective 6 (some .float), Cond.methodLink RX7 94 yX7_observed, Cond.instanceMethod yX7_observed, Cond.selects RX7 yX7_observed yX7_observed, Cond.code yX7_observed cX7_observed 3 (some .float), Cond.methodLink RX7 129 yX7_movement, Cond.instanceMethod yX7_movement, Cond.selects RX7 yX7_movement yX7_movement, Cond.code yX7_movement cX7_movement 5 (some .float), Cond.fieldLink RX7 105 "PriceIndexCalculatorModel" "summed" "I", Cond.methodLink RX7 111 yX7_begin, Cond.instanceMethod yX7_begin, Cond.selects RX7 yX7_begin yX7_begin, Cond.code yX7_begin cX7_begin 1 none]
def wsX7_knownPriceBits_r3 : List Cond := [Cond.fieldLink RX7 98 "PriceIndexCalculatorModel" "upper" "F", Cond.fieldLink RX7 102 "PriceIndexCalculatorModel" "lower" "F", Cond.methodLink RX7 114 yX7_isMatched, Cond.instanceMethod yX7_isMatched, Cond.selects RX7 yX7_isMatched yX7_isMatched, Cond.code yX7_isMatched cX7_isMatched 5 (some .boolean), Cond.methodLink RX7 121 yX7_take, Cond.instanceMethod yX7_take, Cond.selects RX7 yX7_take yX7_take, Cond.code yX7_take cX7_take 3 none, Cond.methodLink RX7 125 yX7_result, Cond.instanceMethod yX7_result, Cond.selects RX7 yX7_result yX7_result, Cond.code yX7_result cX7_result 1 (some .float), Cond.methodLink RX7 136 yJxf58ca_floatToIntBits_5c35a, Cond.static yJxf58ca_floatToIntBits_5c35a, Cond.initialized RJxf58ca, Cond.code yJxf58ca_floatToIntBits_5c35a cJxf58ca_floatToIntBits_5c35a 1 (some .int), Cond.methodLink RJxf58ca 74 ⟨"java/lang/Float", "floatToRawIntBits", "(F)I"⟩, Cond.native ⟨"java/lang/Float", "floatToRawIntBits", "(F)I"⟩, Cond.static ⟨"java/lang/Float", "floatToRawIntBits", "(F)I"⟩, Cond.initialized "java/lang/Float", Cond.constant RJxf58ca 77 (2143289344), Cond.methodLink RJxf58ca 59 yJxf58ca_isNaN_12338]
def wsX7_knownPriceBits_r4 : List Cond := [Cond.static yJxf58ca_isNaN_12338, Cond.code yJxf58ca_isNaN_12338 cJxf58ca_isNaN_12338 1 (some .boolean)]
def wsX7_knownPriceBits : List Cond := .code yX7_knownPriceBits cX7_knownPriceBits 3 (some .int) :: ((wsX7_knownPriceBits_r1 ++ (wsX7_knownPriceBits_r2 ++ (wsX7_knownPriceBits_r3 ++ wsX7_knownPriceBits_r4))) ++ wsX70)
def wsX7_isImputed_r1 : List Cond := [Cond.fieldLink RX7 27 "PriceIndexCalculatorModel" "isKnown" "[Z", Cond.fieldLink RX7 31 "PriceIndexCalculatorModel" "isMade" "[Z", Cond.methodLink RX7 49 yX7_isItem, Cond.instanceMethod yX7_isItem, Cond.selects RX7 yX7_isItem yX7_isItem, Cond.initialized RX7, Cond.code yX7_isItem cX7_isItem 2 (some .boolean), Cond.fieldLink RX7 7 "PriceIndexCalculatorModel" "s" "[I", Cond.methodLink RX7 38 yX7_in, Cond.static yX7_in, Cond.code yX7_in cX7_in 3 (some .boolean), Cond.methodLink RX7 52 yX7_isMonth, Cond.static yX7_isMonth, Cond.code yX7_isMonth cX7_isMonth 1 (some .boolean), Cond.methodLink RX7 133 yX7_find, Cond.instanceMethod yX7_find, Cond.selects RX7 yX7_find yX7_find, Cond.code yX7_find cX7_find 6 none, Cond.fieldLink RX7 23 "PriceIndexCalculatorModel" "known" "[F", Cond.methodLink RX7 108 yX7_isEffective, Cond.instanceMethod yX7_isEffective, Cond.selects RX7 yX7_isEffective yX7_isEffective, Cond.code yX7_isEffective cX7_isEffective 4 (some .boolean), Cond.methodLink RX7 81 yX7_oldOf]
def wsX7_isImputed_r2 : List Cond := [Cond.instanceMethod yX7_oldOf, Cond.selects RX7 yX7_oldOf yX7_oldOf, Cond.code yX7_oldOf cX7_oldOf 3 (some .int), Cond.methodLink RX7 87 yX7_isObserved, Cond.instanceMethod yX7_isObserved, Cond.selects RX7 yX7_isObserved yX7_isObserved, Cond.code yX7_isObserved cX7_isObserved 3 (some .boolean), Cond.methodLink RX7 118 yX7_effective, Cond.instanceMethod yX7_effective, Cond.selects RX7 yX7_effective yX7_effective, Cond.code yX7_effective cX7_effective 6 (some .float), Cond.methodLink RX7 94 yX7_observed, Cond.instanceMethod yX7_observed, Cond.selects RX7 yX7_observed yX7_observed, Cond.code yX7_observed cX7_observed 3 (some .float), Cond.methodLink RX7 129 yX7_movement, Cond.instanceMethod yX7_movement, Cond.selects RX7 yX7_movement yX7_movement, Cond.code yX7_movement cX7_movement 5 (some .float), Cond.fieldLink RX7 105 "PriceIndexCalculatorModel" "summed" "I", Cond.methodLink RX7 111 yX7_begin, Cond.instanceMethod yX7_begin, Cond.selects RX7 yX7_begin yX7_begin, Cond.code yX7_begin cX7_begin 1 none]
def wsX7_isImputed_r3 : List Cond := [Cond.fieldLink RX7 98 "PriceIndexCalculatorModel" "upper" "F", Cond.fieldLink RX7 102 "PriceIndexCalculatorModel" "lower" "F", Cond.methodLink RX7 114 yX7_isMatched, Cond.instanceMethod yX7_isMatched, Cond.selects RX7 yX7_isMatched yX7_isMatched, Cond.code yX7_isMatched cX7_isMatched 5 (some .boolean), Cond.methodLink RX7 121 yX7_take, Cond.instanceMethod yX7_take, Cond.selects RX7 yX7_take yX7_take, Cond.code yX7_take cX7_take 3 none, Cond.methodLink RX7 125 yX7_result, Cond.instanceMethod yX7_result, Cond.selects RX7 yX7_result yX7_result, Cond.code yX7_result cX7_result 1 (some .float)]
def wsX7_isImputed : List Cond := .code yX7_isImputed cX7_isImputed 3 (some .int) :: ((wsX7_isImputed_r1 ++ (wsX7_isImputed_r2 ++ wsX7_isImputed_r3)) ++ wsX70)
def wsX7_imputedCount_r1 : List Cond := [Cond.fieldLink RX7 7 "PriceIndexCalculatorModel" "s" "[I", Cond.fieldLink RX7 31 "PriceIndexCalculatorModel" "isMade" "[Z", Cond.methodLink RX7 52 yX7_isMonth, Cond.static yX7_isMonth, Cond.initialized RX7, Cond.code yX7_isMonth cX7_isMonth 1 (some .boolean), Cond.methodLink RX7 38 yX7_in, Cond.static yX7_in, Cond.code yX7_in cX7_in 3 (some .boolean), Cond.methodLink RX7 133 yX7_find, Cond.instanceMethod yX7_find, Cond.selects RX7 yX7_find yX7_find, Cond.code yX7_find cX7_find 6 none, Cond.fieldLink RX7 27 "PriceIndexCalculatorModel" "isKnown" "[Z", Cond.fieldLink RX7 23 "PriceIndexCalculatorModel" "known" "[F", Cond.methodLink RX7 108 yX7_isEffective, Cond.instanceMethod yX7_isEffective, Cond.selects RX7 yX7_isEffective yX7_isEffective, Cond.code yX7_isEffective cX7_isEffective 4 (some .boolean), Cond.methodLink RX7 81 yX7_oldOf, Cond.instanceMethod yX7_oldOf, Cond.selects RX7 yX7_oldOf yX7_oldOf, Cond.code yX7_oldOf cX7_oldOf 3 (some .int), Cond.methodLink RX7 87 yX7_isObserved]
def wsX7_imputedCount_r2 : List Cond := [Cond.instanceMethod yX7_isObserved, Cond.selects RX7 yX7_isObserved yX7_isObserved, Cond.code yX7_isObserved cX7_isObserved 3 (some .boolean), Cond.methodLink RX7 118 yX7_effective, Cond.instanceMethod yX7_effective, Cond.selects RX7 yX7_effective yX7_effective, Cond.code yX7_effective cX7_effective 6 (some .float), Cond.methodLink RX7 94 yX7_observed, Cond.instanceMethod yX7_observed, Cond.selects RX7 yX7_observed yX7_observed, Cond.code yX7_observed cX7_observed 3 (some .float), Cond.methodLink RX7 129 yX7_movement, Cond.instanceMethod yX7_movement, Cond.selects RX7 yX7_movement yX7_movement, Cond.code yX7_movement cX7_movement 5 (some .float), Cond.fieldLink RX7 105 "PriceIndexCalculatorModel" "summed" "I", Cond.methodLink RX7 111 yX7_begin, Cond.instanceMethod yX7_begin, Cond.selects RX7 yX7_begin yX7_begin, Cond.code yX7_begin cX7_begin 1 none, Cond.fieldLink RX7 98 "PriceIndexCalculatorModel" "upper" "F", Cond.fieldLink RX7 102 "PriceIndexCalculatorModel" "lower" "F", Cond.methodLink RX7 114 yX7_isMatched, Cond.instanceMethod yX7_isMatched]
def wsX7_imputedCount_r3 : List Cond := [Cond.selects RX7 yX7_isMatched yX7_isMatched, Cond.code yX7_isMatched cX7_isMatched 5 (some .boolean), Cond.methodLink RX7 121 yX7_take, Cond.instanceMethod yX7_take, Cond.selects RX7 yX7_take yX7_take, Cond.code yX7_take cX7_take 3 none, Cond.methodLink RX7 125 yX7_result, Cond.instanceMethod yX7_result, Cond.selects RX7 yX7_result yX7_result, Cond.code yX7_result cX7_result 1 (some .float)]
def wsX7_imputedCount : List Cond := .code yX7_imputedCount cX7_imputedCount 4 (some .int) :: ((wsX7_imputedCount_r1 ++ (wsX7_imputedCount_r2 ++ wsX7_imputedCount_r3)) ++ wsX70)
def wsX7_areThere : List Cond := .code yX7_areThere cX7_areThere 3 (some .boolean) :: ([.methodLink RX7 42 yX7_isStratum, .static yX7_isStratum, .initialized RX7, .code yX7_isStratum cX7_isStratum 1 (some .boolean), .methodLink RX7 38 yX7_in, .static yX7_in, .code yX7_in cX7_in 3 (some .boolean), .methodLink RX7 52 yX7_isMonth, .static yX7_isMonth, .code yX7_isMonth cX7_isMonth 1 (some .boolean)])
def wsX7_matchedCount_r1 : List Cond := [Cond.fieldLink RX7 7 "PriceIndexCalculatorModel" "s" "[I", Cond.methodLink RX7 142 yX7_areThere, Cond.static yX7_areThere, Cond.initialized RX7, Cond.code yX7_areThere cX7_areThere 3 (some .boolean), Cond.methodLink RX7 42 yX7_isStratum, Cond.static yX7_isStratum, Cond.code yX7_isStratum cX7_isStratum 1 (some .boolean), Cond.methodLink RX7 38 yX7_in, Cond.static yX7_in, Cond.code yX7_in cX7_in 3 (some .boolean), Cond.methodLink RX7 52 yX7_isMonth, Cond.static yX7_isMonth, Cond.code yX7_isMonth cX7_isMonth 1 (some .boolean), Cond.methodLink RX7 114 yX7_isMatched, Cond.instanceMethod yX7_isMatched, Cond.selects RX7 yX7_isMatched yX7_isMatched, Cond.code yX7_isMatched cX7_isMatched 5 (some .boolean), Cond.methodLink RX7 108 yX7_isEffective, Cond.instanceMethod yX7_isEffective, Cond.selects RX7 yX7_isEffective yX7_isEffective, Cond.code yX7_isEffective cX7_isEffective 4 (some .boolean), Cond.methodLink RX7 81 yX7_oldOf, Cond.instanceMethod yX7_oldOf]
def wsX7_matchedCount_r2 : List Cond := [Cond.selects RX7 yX7_oldOf yX7_oldOf, Cond.code yX7_oldOf cX7_oldOf 3 (some .int), Cond.methodLink RX7 87 yX7_isObserved, Cond.instanceMethod yX7_isObserved, Cond.selects RX7 yX7_isObserved yX7_isObserved, Cond.code yX7_isObserved cX7_isObserved 3 (some .boolean)]
def wsX7_matchedCount : List Cond := .code yX7_matchedCount cX7_matchedCount 6 (some .int) :: ((wsX7_matchedCount_r1 ++ wsX7_matchedCount_r2) ++ wsX70)
def wsX7_movementBits_r1 : List Cond := [Cond.methodLink RX7 142 yX7_areThere, Cond.static yX7_areThere, Cond.initialized RX7, Cond.code yX7_areThere cX7_areThere 3 (some .boolean), Cond.methodLink RX7 42 yX7_isStratum, Cond.static yX7_isStratum, Cond.code yX7_isStratum cX7_isStratum 1 (some .boolean), Cond.methodLink RX7 38 yX7_in, Cond.static yX7_in, Cond.code yX7_in cX7_in 3 (some .boolean), Cond.methodLink RX7 52 yX7_isMonth, Cond.static yX7_isMonth, Cond.code yX7_isMonth cX7_isMonth 1 (some .boolean), Cond.methodLink RX7 129 yX7_movement, Cond.instanceMethod yX7_movement, Cond.selects RX7 yX7_movement yX7_movement, Cond.code yX7_movement cX7_movement 5 (some .float), Cond.fieldLink RX7 7 "PriceIndexCalculatorModel" "s" "[I", Cond.fieldLink RX7 105 "PriceIndexCalculatorModel" "summed" "I", Cond.methodLink RX7 111 yX7_begin, Cond.instanceMethod yX7_begin, Cond.selects RX7 yX7_begin yX7_begin, Cond.code yX7_begin cX7_begin 1 none, Cond.fieldLink RX7 98 "PriceIndexCalculatorModel" "upper" "F"]
def wsX7_movementBits_r2 : List Cond := [Cond.fieldLink RX7 102 "PriceIndexCalculatorModel" "lower" "F", Cond.methodLink RX7 114 yX7_isMatched, Cond.instanceMethod yX7_isMatched, Cond.selects RX7 yX7_isMatched yX7_isMatched, Cond.code yX7_isMatched cX7_isMatched 5 (some .boolean), Cond.methodLink RX7 108 yX7_isEffective, Cond.instanceMethod yX7_isEffective, Cond.selects RX7 yX7_isEffective yX7_isEffective, Cond.code yX7_isEffective cX7_isEffective 4 (some .boolean), Cond.methodLink RX7 81 yX7_oldOf, Cond.instanceMethod yX7_oldOf, Cond.selects RX7 yX7_oldOf yX7_oldOf, Cond.code yX7_oldOf cX7_oldOf 3 (some .int), Cond.methodLink RX7 87 yX7_isObserved, Cond.instanceMethod yX7_isObserved, Cond.selects RX7 yX7_isObserved yX7_isObserved, Cond.code yX7_isObserved cX7_isObserved 3 (some .boolean), Cond.methodLink RX7 118 yX7_effective, Cond.instanceMethod yX7_effective, Cond.selects RX7 yX7_effective yX7_effective, Cond.code yX7_effective cX7_effective 6 (some .float), Cond.methodLink RX7 94 yX7_observed, Cond.instanceMethod yX7_observed, Cond.selects RX7 yX7_observed yX7_observed]
def wsX7_movementBits_r3 : List Cond := [Cond.code yX7_observed cX7_observed 3 (some .float), Cond.methodLink RX7 121 yX7_take, Cond.instanceMethod yX7_take, Cond.selects RX7 yX7_take yX7_take, Cond.code yX7_take cX7_take 3 none, Cond.methodLink RX7 125 yX7_result, Cond.instanceMethod yX7_result, Cond.selects RX7 yX7_result yX7_result, Cond.code yX7_result cX7_result 1 (some .float), Cond.methodLink RX7 136 yJxf58ca_floatToIntBits_5c35a, Cond.static yJxf58ca_floatToIntBits_5c35a, Cond.initialized RJxf58ca, Cond.code yJxf58ca_floatToIntBits_5c35a cJxf58ca_floatToIntBits_5c35a 1 (some .int), Cond.methodLink RJxf58ca 74 ⟨"java/lang/Float", "floatToRawIntBits", "(F)I"⟩, Cond.native ⟨"java/lang/Float", "floatToRawIntBits", "(F)I"⟩, Cond.static ⟨"java/lang/Float", "floatToRawIntBits", "(F)I"⟩, Cond.initialized "java/lang/Float", Cond.constant RJxf58ca 77 (2143289344), Cond.methodLink RJxf58ca 59 yJxf58ca_isNaN_12338, Cond.static yJxf58ca_isNaN_12338, Cond.code yJxf58ca_isNaN_12338 cJxf58ca_isNaN_12338 1 (some .boolean)]
def wsX7_movementBits : List Cond := .code yX7_movementBits cX7_movementBits 4 (some .int) :: ((wsX7_movementBits_r1 ++ (wsX7_movementBits_r2 ++ wsX7_movementBits_r3)) ++ wsX70)
def wsX7_greatestRise_r1 : List Cond := [Cond.fieldLink RX7 7 "PriceIndexCalculatorModel" "s" "[I", Cond.methodLink RX7 142 yX7_areThere, Cond.static yX7_areThere, Cond.initialized RX7, Cond.code yX7_areThere cX7_areThere 3 (some .boolean), Cond.methodLink RX7 42 yX7_isStratum, Cond.static yX7_isStratum, Cond.code yX7_isStratum cX7_isStratum 1 (some .boolean), Cond.methodLink RX7 38 yX7_in, Cond.static yX7_in, Cond.code yX7_in cX7_in 3 (some .boolean), Cond.methodLink RX7 52 yX7_isMonth, Cond.static yX7_isMonth, Cond.code yX7_isMonth cX7_isMonth 1 (some .boolean), Cond.methodLink RX7 114 yX7_isMatched, Cond.instanceMethod yX7_isMatched, Cond.selects RX7 yX7_isMatched yX7_isMatched, Cond.code yX7_isMatched cX7_isMatched 5 (some .boolean), Cond.methodLink RX7 108 yX7_isEffective, Cond.instanceMethod yX7_isEffective, Cond.selects RX7 yX7_isEffective yX7_isEffective, Cond.code yX7_isEffective cX7_isEffective 4 (some .boolean), Cond.methodLink RX7 81 yX7_oldOf, Cond.instanceMethod yX7_oldOf]
def wsX7_greatestRise_r2 : List Cond := [Cond.selects RX7 yX7_oldOf yX7_oldOf, Cond.code yX7_oldOf cX7_oldOf 3 (some .int), Cond.methodLink RX7 87 yX7_isObserved, Cond.instanceMethod yX7_isObserved, Cond.selects RX7 yX7_isObserved yX7_isObserved, Cond.code yX7_isObserved cX7_isObserved 3 (some .boolean), Cond.methodLink RX7 118 yX7_effective, Cond.instanceMethod yX7_effective, Cond.selects RX7 yX7_effective yX7_effective, Cond.code yX7_effective cX7_effective 6 (some .float), Cond.methodLink RX7 94 yX7_observed, Cond.instanceMethod yX7_observed, Cond.selects RX7 yX7_observed yX7_observed, Cond.code yX7_observed cX7_observed 3 (some .float)]
def wsX7_greatestRise : List Cond := .code yX7_greatestRise cX7_greatestRise 9 (some .int) :: ((wsX7_greatestRise_r1 ++ wsX7_greatestRise_r2) ++ wsX70)
def wsX7_hundredths : List Cond := .code yX7_hundredths cX7_hundredths 1 (some .int) :: ([.constantFloat RX7 145 (1120403456), .constantFloat RX7 146 (1056964608)])
def wsX7_hasDirect : List Cond := .code yX7_hasDirect cX7_hasDirect 5 (some .boolean) :: ([.fieldLink RX7 7 "PriceIndexCalculatorModel" "s" "[I", .fieldLink RX7 27 "PriceIndexCalculatorModel" "isKnown" "[Z", .fieldLink RX7 23 "PriceIndexCalculatorModel" "known" "[F", .fieldLink RX7 105 "PriceIndexCalculatorModel" "summed" "I", .constantFloat RX7 145 (1120403456), .fieldLink RX7 147 "PriceIndexCalculatorModel" "found" "F", .methodLink RX7 111 yX7_begin, .instanceMethod yX7_begin, .selects RX7 yX7_begin yX7_begin, .initialized RX7, .code yX7_begin cX7_begin 1 none, .fieldLink RX7 98 "PriceIndexCalculatorModel" "upper" "F", .fieldLink RX7 102 "PriceIndexCalculatorModel" "lower" "F", .methodLink RX7 121 yX7_take, .instanceMethod yX7_take, .selects RX7 yX7_take yX7_take, .code yX7_take cX7_take 3 none, .methodLink RX7 125 yX7_result, .instanceMethod yX7_result, .selects RX7 yX7_result yX7_result, .code yX7_result cX7_result 1 (some .float)] ++ wsX70)
def wsX7_directIndex_r1 : List Cond := [Cond.fieldLink RX7 147 "PriceIndexCalculatorModel" "found" "F", Cond.methodLink RX7 142 yX7_areThere, Cond.static yX7_areThere, Cond.initialized RX7, Cond.code yX7_areThere cX7_areThere 3 (some .boolean), Cond.methodLink RX7 42 yX7_isStratum, Cond.static yX7_isStratum, Cond.code yX7_isStratum cX7_isStratum 1 (some .boolean), Cond.methodLink RX7 38 yX7_in, Cond.static yX7_in, Cond.code yX7_in cX7_in 3 (some .boolean), Cond.methodLink RX7 52 yX7_isMonth, Cond.static yX7_isMonth, Cond.code yX7_isMonth cX7_isMonth 1 (some .boolean), Cond.methodLink RX7 133 yX7_find, Cond.instanceMethod yX7_find, Cond.selects RX7 yX7_find yX7_find, Cond.code yX7_find cX7_find 6 none, Cond.fieldLink RX7 7 "PriceIndexCalculatorModel" "s" "[I", Cond.fieldLink RX7 31 "PriceIndexCalculatorModel" "isMade" "[Z", Cond.fieldLink RX7 27 "PriceIndexCalculatorModel" "isKnown" "[Z", Cond.fieldLink RX7 23 "PriceIndexCalculatorModel" "known" "[F", Cond.methodLink RX7 108 yX7_isEffective, Cond.instanceMethod yX7_isEffective]
def wsX7_directIndex_r2 : List Cond := [Cond.selects RX7 yX7_isEffective yX7_isEffective, Cond.code yX7_isEffective cX7_isEffective 4 (some .boolean), Cond.methodLink RX7 81 yX7_oldOf, Cond.instanceMethod yX7_oldOf, Cond.selects RX7 yX7_oldOf yX7_oldOf, Cond.code yX7_oldOf cX7_oldOf 3 (some .int), Cond.methodLink RX7 87 yX7_isObserved, Cond.instanceMethod yX7_isObserved, Cond.selects RX7 yX7_isObserved yX7_isObserved, Cond.code yX7_isObserved cX7_isObserved 3 (some .boolean), Cond.methodLink RX7 118 yX7_effective, Cond.instanceMethod yX7_effective, Cond.selects RX7 yX7_effective yX7_effective, Cond.code yX7_effective cX7_effective 6 (some .float), Cond.methodLink RX7 94 yX7_observed, Cond.instanceMethod yX7_observed, Cond.selects RX7 yX7_observed yX7_observed, Cond.code yX7_observed cX7_observed 3 (some .float), Cond.methodLink RX7 129 yX7_movement, Cond.instanceMethod yX7_movement, Cond.selects RX7 yX7_movement yX7_movement, Cond.code yX7_movement cX7_movement 5 (some .float), Cond.fieldLink RX7 105 "PriceIndexCalculatorModel" "summed" "I", Cond.methodLink RX7 111 yX7_begin]
def wsX7_directIndex_r3 : List Cond := [Cond.instanceMethod yX7_begin, Cond.selects RX7 yX7_begin yX7_begin, Cond.code yX7_begin cX7_begin 1 none, Cond.fieldLink RX7 98 "PriceIndexCalculatorModel" "upper" "F", Cond.fieldLink RX7 102 "PriceIndexCalculatorModel" "lower" "F", Cond.methodLink RX7 114 yX7_isMatched, Cond.instanceMethod yX7_isMatched, Cond.selects RX7 yX7_isMatched yX7_isMatched, Cond.code yX7_isMatched cX7_isMatched 5 (some .boolean), Cond.methodLink RX7 121 yX7_take, Cond.instanceMethod yX7_take, Cond.selects RX7 yX7_take yX7_take, Cond.code yX7_take cX7_take 3 none, Cond.methodLink RX7 125 yX7_result, Cond.instanceMethod yX7_result, Cond.selects RX7 yX7_result yX7_result, Cond.code yX7_result cX7_result 1 (some .float), Cond.methodLink RX7 150 yX7_hasDirect, Cond.instanceMethod yX7_hasDirect, Cond.selects RX7 yX7_hasDirect yX7_hasDirect, Cond.code yX7_hasDirect cX7_hasDirect 5 (some .boolean), Cond.constantFloat RX7 145 (1120403456), Cond.methodLink RX7 153 yX7_hundredths, Cond.static yX7_hundredths]
def wsX7_directIndex_r4 : List Cond := [Cond.code yX7_hundredths cX7_hundredths 1 (some .int), Cond.constantFloat RX7 146 (1056964608)]
def wsX7_directIndex : List Cond := .code yX7_directIndex cX7_directIndex 4 (some .int) :: ((wsX7_directIndex_r1 ++ (wsX7_directIndex_r2 ++ (wsX7_directIndex_r3 ++ wsX7_directIndex_r4))) ++ wsX70)
def wsX7_chained_r1 : List Cond := [Cond.constantFloat RX7 145 (1120403456), Cond.methodLink RX7 129 yX7_movement, Cond.instanceMethod yX7_movement, Cond.selects RX7 yX7_movement yX7_movement, Cond.initialized RX7, Cond.code yX7_movement cX7_movement 5 (some .float), Cond.fieldLink RX7 7 "PriceIndexCalculatorModel" "s" "[I", Cond.fieldLink RX7 105 "PriceIndexCalculatorModel" "summed" "I", Cond.methodLink RX7 111 yX7_begin, Cond.instanceMethod yX7_begin, Cond.selects RX7 yX7_begin yX7_begin, Cond.code yX7_begin cX7_begin 1 none, Cond.fieldLink RX7 98 "PriceIndexCalculatorModel" "upper" "F", Cond.fieldLink RX7 102 "PriceIndexCalculatorModel" "lower" "F", Cond.methodLink RX7 114 yX7_isMatched, Cond.instanceMethod yX7_isMatched, Cond.selects RX7 yX7_isMatched yX7_isMatched, Cond.code yX7_isMatched cX7_isMatched 5 (some .boolean), Cond.methodLink RX7 108 yX7_isEffective, Cond.instanceMethod yX7_isEffective, Cond.selects RX7 yX7_isEffective yX7_isEffective, Cond.code yX7_isEffective cX7_isEffective 4 (some .boolean), Cond.methodLink RX7 81 yX7_oldOf, Cond.instanceMethod yX7_oldOf]
def wsX7_chained_r2 : List Cond := [Cond.selects RX7 yX7_oldOf yX7_oldOf, Cond.code yX7_oldOf cX7_oldOf 3 (some .int), Cond.methodLink RX7 87 yX7_isObserved, Cond.instanceMethod yX7_isObserved, Cond.selects RX7 yX7_isObserved yX7_isObserved, Cond.code yX7_isObserved cX7_isObserved 3 (some .boolean), Cond.methodLink RX7 118 yX7_effective, Cond.instanceMethod yX7_effective, Cond.selects RX7 yX7_effective yX7_effective, Cond.code yX7_effective cX7_effective 6 (some .float), Cond.methodLink RX7 94 yX7_observed, Cond.instanceMethod yX7_observed, Cond.selects RX7 yX7_observed yX7_observed, Cond.code yX7_observed cX7_observed 3 (some .float), Cond.methodLink RX7 121 yX7_take, Cond.instanceMethod yX7_take, Cond.selects RX7 yX7_take yX7_take, Cond.code yX7_take cX7_take 3 none, Cond.methodLink RX7 125 yX7_result, Cond.instanceMethod yX7_result, Cond.selects RX7 yX7_result yX7_result, Cond.code yX7_result cX7_result 1 (some .float)]
def wsX7_chained : List Cond := .code yX7_chained cX7_chained 6 (some .float) :: ((wsX7_chained_r1 ++ wsX7_chained_r2) ++ wsX70)
def wsX7_chainedIndex_r1 : List Cond := [Cond.methodLink RX7 142 yX7_areThere, Cond.static yX7_areThere, Cond.initialized RX7, Cond.code yX7_areThere cX7_areThere 3 (some .boolean), Cond.methodLink RX7 42 yX7_isStratum, Cond.static yX7_isStratum, Cond.code yX7_isStratum cX7_isStratum 1 (some .boolean), Cond.methodLink RX7 38 yX7_in, Cond.static yX7_in, Cond.code yX7_in cX7_in 3 (some .boolean), Cond.methodLink RX7 52 yX7_isMonth, Cond.static yX7_isMonth, Cond.code yX7_isMonth cX7_isMonth 1 (some .boolean), Cond.methodLink RX7 156 yX7_chained, Cond.instanceMethod yX7_chained, Cond.selects RX7 yX7_chained yX7_chained, Cond.code yX7_chained cX7_chained 6 (some .float), Cond.constantFloat RX7 145 (1120403456), Cond.methodLink RX7 129 yX7_movement, Cond.instanceMethod yX7_movement, Cond.selects RX7 yX7_movement yX7_movement, Cond.code yX7_movement cX7_movement 5 (some .float), Cond.fieldLink RX7 7 "PriceIndexCalculatorModel" "s" "[I", Cond.fieldLink RX7 105 "PriceIndexCalculatorModel" "summed" "I"]
def wsX7_chainedIndex_r2 : List Cond := [Cond.methodLink RX7 111 yX7_begin, Cond.instanceMethod yX7_begin, Cond.selects RX7 yX7_begin yX7_begin, Cond.code yX7_begin cX7_begin 1 none, Cond.fieldLink RX7 98 "PriceIndexCalculatorModel" "upper" "F", Cond.fieldLink RX7 102 "PriceIndexCalculatorModel" "lower" "F", Cond.methodLink RX7 114 yX7_isMatched, Cond.instanceMethod yX7_isMatched, Cond.selects RX7 yX7_isMatched yX7_isMatched, Cond.code yX7_isMatched cX7_isMatched 5 (some .boolean), Cond.methodLink RX7 108 yX7_isEffective, Cond.instanceMethod yX7_isEffective, Cond.selects RX7 yX7_isEffective yX7_isEffective, Cond.code yX7_isEffective cX7_isEffective 4 (some .boolean), Cond.methodLink RX7 81 yX7_oldOf, Cond.instanceMethod yX7_oldOf, Cond.selects RX7 yX7_oldOf yX7_oldOf, Cond.code yX7_oldOf cX7_oldOf 3 (some .int), Cond.methodLink RX7 87 yX7_isObserved, Cond.instanceMethod yX7_isObserved, Cond.selects RX7 yX7_isObserved yX7_isObserved, Cond.code yX7_isObserved cX7_isObserved 3 (some .boolean), Cond.methodLink RX7 118 yX7_effective, Cond.instanceMethod yX7_effective]
def wsX7_chainedIndex_r3 : List Cond := [Cond.selects RX7 yX7_effective yX7_effective, Cond.code yX7_effective cX7_effective 6 (some .float), Cond.methodLink RX7 94 yX7_observed, Cond.instanceMethod yX7_observed, Cond.selects RX7 yX7_observed yX7_observed, Cond.code yX7_observed cX7_observed 3 (some .float), Cond.methodLink RX7 121 yX7_take, Cond.instanceMethod yX7_take, Cond.selects RX7 yX7_take yX7_take, Cond.code yX7_take cX7_take 3 none, Cond.methodLink RX7 125 yX7_result, Cond.instanceMethod yX7_result, Cond.selects RX7 yX7_result yX7_result, Cond.code yX7_result cX7_result 1 (some .float), Cond.methodLink RX7 153 yX7_hundredths, Cond.static yX7_hundredths, Cond.code yX7_hundredths cX7_hundredths 1 (some .int), Cond.constantFloat RX7 146 (1056964608)]
def wsX7_chainedIndex : List Cond := .code yX7_chainedIndex cX7_chainedIndex 4 (some .int) :: ((wsX7_chainedIndex_r1 ++ (wsX7_chainedIndex_r2 ++ wsX7_chainedIndex_r3)) ++ wsX70)
def wsX7_drift_r1 : List Cond := [Cond.constant RX7 159 (1000000), Cond.fieldLink RX7 147 "PriceIndexCalculatorModel" "found" "F", Cond.methodLink RX7 142 yX7_areThere, Cond.static yX7_areThere, Cond.initialized RX7, Cond.code yX7_areThere cX7_areThere 3 (some .boolean), Cond.methodLink RX7 42 yX7_isStratum, Cond.static yX7_isStratum, Cond.code yX7_isStratum cX7_isStratum 1 (some .boolean), Cond.methodLink RX7 38 yX7_in, Cond.static yX7_in, Cond.code yX7_in cX7_in 3 (some .boolean), Cond.methodLink RX7 52 yX7_isMonth, Cond.static yX7_isMonth, Cond.code yX7_isMonth cX7_isMonth 1 (some .boolean), Cond.methodLink RX7 156 yX7_chained, Cond.instanceMethod yX7_chained, Cond.selects RX7 yX7_chained yX7_chained, Cond.code yX7_chained cX7_chained 6 (some .float), Cond.constantFloat RX7 145 (1120403456), Cond.methodLink RX7 129 yX7_movement, Cond.instanceMethod yX7_movement, Cond.selects RX7 yX7_movement yX7_movement, Cond.code yX7_movement cX7_movement 5 (some .float)]
def wsX7_drift_r2 : List Cond := [Cond.fieldLink RX7 7 "PriceIndexCalculatorModel" "s" "[I", Cond.fieldLink RX7 105 "PriceIndexCalculatorModel" "summed" "I", Cond.methodLink RX7 111 yX7_begin, Cond.instanceMethod yX7_begin, Cond.selects RX7 yX7_begin yX7_begin, Cond.code yX7_begin cX7_begin 1 none, Cond.fieldLink RX7 98 "PriceIndexCalculatorModel" "upper" "F", Cond.fieldLink RX7 102 "PriceIndexCalculatorModel" "lower" "F", Cond.methodLink RX7 114 yX7_isMatched, Cond.instanceMethod yX7_isMatched, Cond.selects RX7 yX7_isMatched yX7_isMatched, Cond.code yX7_isMatched cX7_isMatched 5 (some .boolean), Cond.methodLink RX7 108 yX7_isEffective, Cond.instanceMethod yX7_isEffective, Cond.selects RX7 yX7_isEffective yX7_isEffective, Cond.code yX7_isEffective cX7_isEffective 4 (some .boolean), Cond.methodLink RX7 81 yX7_oldOf, Cond.instanceMethod yX7_oldOf, Cond.selects RX7 yX7_oldOf yX7_oldOf, Cond.code yX7_oldOf cX7_oldOf 3 (some .int), Cond.methodLink RX7 87 yX7_isObserved, Cond.instanceMethod yX7_isObserved, Cond.selects RX7 yX7_isObserved yX7_isObserved, Cond.code yX7_isObserved cX7_isObserved 3 (some .boolean)]
def wsX7_drift_r3 : List Cond := [Cond.methodLink RX7 118 yX7_effective, Cond.instanceMethod yX7_effective, Cond.selects RX7 yX7_effective yX7_effective, Cond.code yX7_effective cX7_effective 6 (some .float), Cond.methodLink RX7 94 yX7_observed, Cond.instanceMethod yX7_observed, Cond.selects RX7 yX7_observed yX7_observed, Cond.code yX7_observed cX7_observed 3 (some .float), Cond.methodLink RX7 121 yX7_take, Cond.instanceMethod yX7_take, Cond.selects RX7 yX7_take yX7_take, Cond.code yX7_take cX7_take 3 none, Cond.methodLink RX7 125 yX7_result, Cond.instanceMethod yX7_result, Cond.selects RX7 yX7_result yX7_result, Cond.code yX7_result cX7_result 1 (some .float), Cond.methodLink RX7 153 yX7_hundredths, Cond.static yX7_hundredths, Cond.code yX7_hundredths cX7_hundredths 1 (some .int), Cond.constantFloat RX7 146 (1056964608), Cond.methodLink RX7 133 yX7_find, Cond.instanceMethod yX7_find, Cond.selects RX7 yX7_find yX7_find, Cond.code yX7_find cX7_find 6 none]
def wsX7_drift_r4 : List Cond := [Cond.fieldLink RX7 31 "PriceIndexCalculatorModel" "isMade" "[Z", Cond.fieldLink RX7 27 "PriceIndexCalculatorModel" "isKnown" "[Z", Cond.fieldLink RX7 23 "PriceIndexCalculatorModel" "known" "[F", Cond.methodLink RX7 150 yX7_hasDirect, Cond.instanceMethod yX7_hasDirect, Cond.selects RX7 yX7_hasDirect yX7_hasDirect, Cond.code yX7_hasDirect cX7_hasDirect 5 (some .boolean)]
def wsX7_drift : List Cond := .code yX7_drift cX7_drift 5 (some .int) :: ((wsX7_drift_r1 ++ (wsX7_drift_r2 ++ (wsX7_drift_r3 ++ wsX7_drift_r4))) ++ wsX70)
def wsX7_hasAggregate_r1 : List Cond := [Cond.fieldLink RX7 7 "PriceIndexCalculatorModel" "s" "[I", Cond.fieldLink RX7 147 "PriceIndexCalculatorModel" "found" "F", Cond.methodLink RX7 133 yX7_find, Cond.instanceMethod yX7_find, Cond.selects RX7 yX7_find yX7_find, Cond.initialized RX7, Cond.code yX7_find cX7_find 6 none, Cond.fieldLink RX7 31 "PriceIndexCalculatorModel" "isMade" "[Z", Cond.fieldLink RX7 27 "PriceIndexCalculatorModel" "isKnown" "[Z", Cond.fieldLink RX7 23 "PriceIndexCalculatorModel" "known" "[F", Cond.methodLink RX7 108 yX7_isEffective, Cond.instanceMethod yX7_isEffective, Cond.selects RX7 yX7_isEffective yX7_isEffective, Cond.code yX7_isEffective cX7_isEffective 4 (some .boolean), Cond.methodLink RX7 81 yX7_oldOf, Cond.instanceMethod yX7_oldOf, Cond.selects RX7 yX7_oldOf yX7_oldOf, Cond.code yX7_oldOf cX7_oldOf 3 (some .int), Cond.methodLink RX7 87 yX7_isObserved, Cond.instanceMethod yX7_isObserved, Cond.selects RX7 yX7_isObserved yX7_isObserved, Cond.code yX7_isObserved cX7_isObserved 3 (some .boolean), Cond.methodLink RX7 118 yX7_effective, Cond.instanceMethod yX7_effective]
def wsX7_hasAggregate_r2 : List Cond := [Cond.selects RX7 yX7_effective yX7_effective, Cond.code yX7_effective cX7_effective 6 (some .float), Cond.methodLink RX7 94 yX7_observed, Cond.instanceMethod yX7_observed, Cond.selects RX7 yX7_observed yX7_observed, Cond.code yX7_observed cX7_observed 3 (some .float), Cond.methodLink RX7 129 yX7_movement, Cond.instanceMethod yX7_movement, Cond.selects RX7 yX7_movement yX7_movement, Cond.code yX7_movement cX7_movement 5 (some .float), Cond.fieldLink RX7 105 "PriceIndexCalculatorModel" "summed" "I", Cond.methodLink RX7 111 yX7_begin, Cond.instanceMethod yX7_begin, Cond.selects RX7 yX7_begin yX7_begin, Cond.code yX7_begin cX7_begin 1 none, Cond.fieldLink RX7 98 "PriceIndexCalculatorModel" "upper" "F", Cond.fieldLink RX7 102 "PriceIndexCalculatorModel" "lower" "F", Cond.methodLink RX7 114 yX7_isMatched, Cond.instanceMethod yX7_isMatched, Cond.selects RX7 yX7_isMatched yX7_isMatched, Cond.code yX7_isMatched cX7_isMatched 5 (some .boolean), Cond.methodLink RX7 121 yX7_take, Cond.instanceMethod yX7_take, Cond.selects RX7 yX7_take yX7_take]
def wsX7_hasAggregate_r3 : List Cond := [Cond.code yX7_take cX7_take 3 none, Cond.methodLink RX7 125 yX7_result, Cond.instanceMethod yX7_result, Cond.selects RX7 yX7_result yX7_result, Cond.code yX7_result cX7_result 1 (some .float), Cond.methodLink RX7 150 yX7_hasDirect, Cond.instanceMethod yX7_hasDirect, Cond.selects RX7 yX7_hasDirect yX7_hasDirect, Cond.code yX7_hasDirect cX7_hasDirect 5 (some .boolean), Cond.constantFloat RX7 145 (1120403456)]
def wsX7_hasAggregate : List Cond := .code yX7_hasAggregate cX7_hasAggregate 6 (some .boolean) :: ((wsX7_hasAggregate_r1 ++ (wsX7_hasAggregate_r2 ++ wsX7_hasAggregate_r3)) ++ wsX70)
def wsX7_aggregateIndex_r1 : List Cond := [Cond.fieldLink RX7 147 "PriceIndexCalculatorModel" "found" "F", Cond.methodLink RX7 52 yX7_isMonth, Cond.static yX7_isMonth, Cond.initialized RX7, Cond.code yX7_isMonth cX7_isMonth 1 (some .boolean), Cond.methodLink RX7 38 yX7_in, Cond.static yX7_in, Cond.code yX7_in cX7_in 3 (some .boolean), Cond.methodLink RX7 160 yX7_hasAggregate, Cond.instanceMethod yX7_hasAggregate, Cond.selects RX7 yX7_hasAggregate yX7_hasAggregate, Cond.code yX7_hasAggregate cX7_hasAggregate 6 (some .boolean), Cond.fieldLink RX7 7 "PriceIndexCalculatorModel" "s" "[I", Cond.methodLink RX7 133 yX7_find, Cond.instanceMethod yX7_find, Cond.selects RX7 yX7_find yX7_find, Cond.code yX7_find cX7_find 6 none, Cond.fieldLink RX7 31 "PriceIndexCalculatorModel" "isMade" "[Z", Cond.fieldLink RX7 27 "PriceIndexCalculatorModel" "isKnown" "[Z", Cond.fieldLink RX7 23 "PriceIndexCalculatorModel" "known" "[F", Cond.methodLink RX7 108 yX7_isEffective, Cond.instanceMethod yX7_isEffective, Cond.selects RX7 yX7_isEffective yX7_isEffective, Cond.code yX7_isEffective cX7_isEffective 4 (some .boolean)]
def wsX7_aggregateIndex_r2 : List Cond := [Cond.methodLink RX7 81 yX7_oldOf, Cond.instanceMethod yX7_oldOf, Cond.selects RX7 yX7_oldOf yX7_oldOf, Cond.code yX7_oldOf cX7_oldOf 3 (some .int), Cond.methodLink RX7 87 yX7_isObserved, Cond.instanceMethod yX7_isObserved, Cond.selects RX7 yX7_isObserved yX7_isObserved, Cond.code yX7_isObserved cX7_isObserved 3 (some .boolean), Cond.methodLink RX7 118 yX7_effective, Cond.instanceMethod yX7_effective, Cond.selects RX7 yX7_effective yX7_effective, Cond.code yX7_effective cX7_effective 6 (some .float), Cond.methodLink RX7 94 yX7_observed, Cond.instanceMethod yX7_observed, Cond.selects RX7 yX7_observed yX7_observed, Cond.code yX7_observed cX7_observed 3 (some .float), Cond.methodLink RX7 129 yX7_movement, Cond.instanceMethod yX7_movement, Cond.selects RX7 yX7_movement yX7_movement, Cond.code yX7_movement cX7_movement 5 (some .float), Cond.fieldLink RX7 105 "PriceIndexCalculatorModel" "summed" "I", Cond.methodLink RX7 111 yX7_begin, Cond.instanceMethod yX7_begin, Cond.selects RX7 yX7_begin yX7_begin]
def wsX7_aggregateIndex_r3 : List Cond := [Cond.code yX7_begin cX7_begin 1 none, Cond.fieldLink RX7 98 "PriceIndexCalculatorModel" "upper" "F", Cond.fieldLink RX7 102 "PriceIndexCalculatorModel" "lower" "F", Cond.methodLink RX7 114 yX7_isMatched, Cond.instanceMethod yX7_isMatched, Cond.selects RX7 yX7_isMatched yX7_isMatched, Cond.code yX7_isMatched cX7_isMatched 5 (some .boolean), Cond.methodLink RX7 121 yX7_take, Cond.instanceMethod yX7_take, Cond.selects RX7 yX7_take yX7_take, Cond.code yX7_take cX7_take 3 none, Cond.methodLink RX7 125 yX7_result, Cond.instanceMethod yX7_result, Cond.selects RX7 yX7_result yX7_result, Cond.code yX7_result cX7_result 1 (some .float), Cond.methodLink RX7 150 yX7_hasDirect, Cond.instanceMethod yX7_hasDirect, Cond.selects RX7 yX7_hasDirect yX7_hasDirect, Cond.code yX7_hasDirect cX7_hasDirect 5 (some .boolean), Cond.constantFloat RX7 145 (1120403456), Cond.methodLink RX7 153 yX7_hundredths, Cond.static yX7_hundredths, Cond.code yX7_hundredths cX7_hundredths 1 (some .int), Cond.constantFloat RX7 146 (1056964608)]
def wsX7_aggregateIndex : List Cond := .code yX7_aggregateIndex cX7_aggregateIndex 3 (some .int) :: ((wsX7_aggregateIndex_r1 ++ (wsX7_aggregateIndex_r2 ++ wsX7_aggregateIndex_r3)) ++ wsX70)
def wsX7_aggregateBits_r1 : List Cond := [Cond.fieldLink RX7 147 "PriceIndexCalculatorModel" "found" "F", Cond.methodLink RX7 52 yX7_isMonth, Cond.static yX7_isMonth, Cond.initialized RX7, Cond.code yX7_isMonth cX7_isMonth 1 (some .boolean), Cond.methodLink RX7 38 yX7_in, Cond.static yX7_in, Cond.code yX7_in cX7_in 3 (some .boolean), Cond.methodLink RX7 160 yX7_hasAggregate, Cond.instanceMethod yX7_hasAggregate, Cond.selects RX7 yX7_hasAggregate yX7_hasAggregate, Cond.code yX7_hasAggregate cX7_hasAggregate 6 (some .boolean), Cond.fieldLink RX7 7 "PriceIndexCalculatorModel" "s" "[I", Cond.methodLink RX7 133 yX7_find, Cond.instanceMethod yX7_find, Cond.selects RX7 yX7_find yX7_find, Cond.code yX7_find cX7_find 6 none, Cond.fieldLink RX7 31 "PriceIndexCalculatorModel" "isMade" "[Z", Cond.fieldLink RX7 27 "PriceIndexCalculatorModel" "isKnown" "[Z", Cond.fieldLink RX7 23 "PriceIndexCalculatorModel" "known" "[F", Cond.methodLink RX7 108 yX7_isEffective, Cond.instanceMethod yX7_isEffective, Cond.selects RX7 yX7_isEffective yX7_isEffective, Cond.code yX7_isEffective cX7_isEffective 4 (some .boolean)]
def wsX7_aggregateBits_r2 : List Cond := [Cond.methodLink RX7 81 yX7_oldOf, Cond.instanceMethod yX7_oldOf, Cond.selects RX7 yX7_oldOf yX7_oldOf, Cond.code yX7_oldOf cX7_oldOf 3 (some .int), Cond.methodLink RX7 87 yX7_isObserved, Cond.instanceMethod yX7_isObserved, Cond.selects RX7 yX7_isObserved yX7_isObserved, Cond.code yX7_isObserved cX7_isObserved 3 (some .boolean), Cond.methodLink RX7 118 yX7_effective, Cond.instanceMethod yX7_effective, Cond.selects RX7 yX7_effective yX7_effective, Cond.code yX7_effective cX7_effective 6 (some .float), Cond.methodLink RX7 94 yX7_observed, Cond.instanceMethod yX7_observed, Cond.selects RX7 yX7_observed yX7_observed, Cond.code yX7_observed cX7_observed 3 (some .float), Cond.methodLink RX7 129 yX7_movement, Cond.instanceMethod yX7_movement, Cond.selects RX7 yX7_movement yX7_movement, Cond.code yX7_movement cX7_movement 5 (some .float), Cond.fieldLink RX7 105 "PriceIndexCalculatorModel" "summed" "I", Cond.methodLink RX7 111 yX7_begin, Cond.instanceMethod yX7_begin, Cond.selects RX7 yX7_begin yX7_begin]
def wsX7_aggregateBits_r3 : List Cond := [Cond.code yX7_begin cX7_begin 1 none, Cond.fieldLink RX7 98 "PriceIndexCalculatorModel" "upper" "F", Cond.fieldLink RX7 102 "PriceIndexCalculatorModel" "lower" "F", Cond.methodLink RX7 114 yX7_isMatched, Cond.instanceMethod yX7_isMatched, Cond.selects RX7 yX7_isMatched yX7_isMatched, Cond.code yX7_isMatched cX7_isMatched 5 (some .boolean), Cond.methodLink RX7 121 yX7_take, Cond.instanceMethod yX7_take, Cond.selects RX7 yX7_take yX7_take, Cond.code yX7_take cX7_take 3 none, Cond.methodLink RX7 125 yX7_result, Cond.instanceMethod yX7_result, Cond.selects RX7 yX7_result yX7_result, Cond.code yX7_result cX7_result 1 (some .float), Cond.methodLink RX7 150 yX7_hasDirect, Cond.instanceMethod yX7_hasDirect, Cond.selects RX7 yX7_hasDirect yX7_hasDirect, Cond.code yX7_hasDirect cX7_hasDirect 5 (some .boolean), Cond.constantFloat RX7 145 (1120403456), Cond.methodLink RX7 136 yJxf58ca_floatToIntBits_5c35a, Cond.static yJxf58ca_floatToIntBits_5c35a, Cond.initialized RJxf58ca, Cond.code yJxf58ca_floatToIntBits_5c35a cJxf58ca_floatToIntBits_5c35a 1 (some .int)]
def wsX7_aggregateBits_r4 : List Cond := [Cond.methodLink RJxf58ca 74 ⟨"java/lang/Float", "floatToRawIntBits", "(F)I"⟩, Cond.native ⟨"java/lang/Float", "floatToRawIntBits", "(F)I"⟩, Cond.static ⟨"java/lang/Float", "floatToRawIntBits", "(F)I"⟩, Cond.initialized "java/lang/Float", Cond.constant RJxf58ca 77 (2143289344), Cond.methodLink RJxf58ca 59 yJxf58ca_isNaN_12338, Cond.static yJxf58ca_isNaN_12338, Cond.code yJxf58ca_isNaN_12338 cJxf58ca_isNaN_12338 1 (some .boolean)]
def wsX7_aggregateBits : List Cond := .code yX7_aggregateBits cX7_aggregateBits 3 (some .int) :: ((wsX7_aggregateBits_r1 ++ (wsX7_aggregateBits_r2 ++ (wsX7_aggregateBits_r3 ++ wsX7_aggregateBits_r4))) ++ wsX70)
abbrev vwCl : List vw_C := [(RX0, TX0, 10), (RX1, TX1, 3), (RX2, TX2, 3), (RX3, TX3, 4), (RX4, TX4, 6), (RX6, TX6, 4), (RX7, TX7, 15)]
end
section
/-! MY BASE: the tables' facts in one word, worlds by their addresses, calls of methods that only read, calls of methods that write their own cells -/
abbrev GG : Type := va_G × (Nat → ClassId)
def TYs (t : Nat → ClassId) : List (ClassId × FieldType) := [(t 0, .int), (t 1, .boolean), (t 2, .float), (t 3, .byte), (t 4, .object RX0)]
def KX (G : GG) (U : State) : Prop := va_K G.1 vwCl (TYs G.2) U ∧ va_Nw (.methodLinkNest RX0 57 yX6_cell RX6) U ∧ va_Nw (.methodLinkNest RX2 23 yX6_cell RX6) U ∧ va_Nw (.methodLinkNest RX6 25 yX4_init RX6) U
theorem KX.warm {G : GG} {s U : State} (hW : s.WarmedH U.vm) (h : KX G s) : KX G U := ⟨va_K.moved hW.alike h.1, va_Nw.warmM hW h.2.1, va_Nw.warmM hW h.2.2.1, va_Nw.warmM hW h.2.2.2⟩
theorem KX.calling {G : GG} {U : State} {g : JFrame} {mk : MethodId} {a : Array Value} (h : KX G U) : KX G (U.calling g mk a) := ⟨va_K.moved (u := U) (U := U.calling g mk a) (Vm.Alike.refl U.vm) h.1, va_Nw.same rfl (u := U) (U := U.calling g mk a) rfl h.2.1, va_Nw.same rfl (u := U) (U := U.calling g mk a) rfl h.2.2.1, va_Nw.same rfl (u := U) (U := U.calling g mk a) rfl h.2.2.2⟩
/-- the addresses of a world -/
def adr (w : va_W) : Nat → Prop := fun q => q ∈ w.map Prod.fst
theorem adr_at {w : va_W} {k : Nat} {q : Nat × va_E} (h : w[k]? = some q) : adr w q.1 := List.mem_map.mpr ⟨q, List.mem_of_getElem? h, rfl⟩
theorem adr_of {w : va_W} {q : Nat} (h : adr w q) : ∃ (k : Nat) (e : va_E), w[k]? = some (q, e) := by
  obtain ⟨⟨a, e⟩, h1, h2⟩ := List.mem_map.mp h
  obtain ⟨k, hk⟩ := List.getElem?_of_mem h1
  exact ⟨k, e, by rw [hk]; cases h2; rfl⟩
theorem va_D_of_adr {A B : Nat → Prop} {w w' : va_W} (h : w'.map Prod.fst = w.map Prod.fst) (hB : ∀ q, adr w q → B q) (hD : va_D A w) : va_D B w' := by
  have key : ∀ (k : Nat) (q : Nat × va_E), w'[k]? = some q → ∃ e, w[k]? = some (q.1, e) := by
    intro k q hk
    have h1 : (w'.map Prod.fst)[k]? = some q.1 := by rw [List.getElem?_map, hk]; rfl
    rw [h, List.getElem?_map] at h1
    cases hw : w[k]? with
    | none => rw [hw] at h1; cases h1
    | some z =>
      rw [hw] at h1
      obtain ⟨z1, z2⟩ := z
      have h2 : z1 = q.1 := Option.some.inj h1
      exact ⟨z2, by rw [h2]⟩
  refine ⟨fun i j p q hi hj hpq => ?_, fun k q hk => ?_⟩
  · obtain ⟨e1, h1⟩ := key i p hi
    obtain ⟨e2, h2⟩ := key j q hj
    exact hD.1 i j _ _ h1 h2 hpq
  · obtain ⟨e1, h1⟩ := key k q hk
    exact hB _ (adr_at (q := (q.1, e1)) h1)
theorem va_D.own {A : Nat → Prop} {w : va_W} (hD : va_D A w) : va_D (adr w) w := va_D_of_adr rfl (fun _ h => h) hD
/-- some cells of a world put anew, by their places -/
def sP : va_W → List Nat → va_W → va_W
  | ws, [], _ => ws
  | ws, _ :: _, [] => ws
  | ws, i :: is, c :: cs => sP (ws.set i c) is cs
theorem sP_get : ∀ (is : List Nat) (w1 ws : va_W), is.length = w1.length → ∀ (k : Nat) (q : Nat × va_E), (sP ws is w1)[k]? = some q → (∃ j : Nat, is[j]? = some k ∧ w1[j]? = some q) ∨ (k ∉ is ∧ ws[k]? = some q)
  | [], _, ws, _, k, q, h => Or.inr ⟨List.not_mem_nil, by simpa only [sP] using h⟩
  | i :: is, [], ws, hl, k, q, h => by simp at hl
  | i :: is, c :: cs, ws, hl, k, q, h => by
    rcases sP_get is cs (ws.set i c) (by simpa using hl) k q h with ⟨j, h1, h2⟩ | ⟨h1, h2⟩
    · exact Or.inl ⟨j + 1, h1, h2⟩
    · by_cases hik : i = k
      · subst hik
        rw [List.getElem?_set_self'] at h2
        cases hw : ws[i]? with
        | none => rw [hw] at h2; cases h2
        | some z => rw [hw] at h2; exact Or.inl ⟨0, rfl, h2⟩
      · rw [List.getElem?_set_ne hik] at h2
        refine Or.inr ⟨fun hm => ?_, h2⟩
        rcases List.mem_cons.mp hm with e | e
        · exact hik e.symm
        · exact h1 e
theorem sP_adr : ∀ (is : List Nat) (w1 ws : va_W), is.map (fun i => (ws[i]?).map Prod.fst) = w1.map (fun q => some q.1) → (sP ws is w1).map Prod.fst = ws.map Prod.fst
  | [], _, ws, _ => by simp only [sP]
  | i :: is, [], ws, h => by simp only [sP]
  | i :: is, c :: cs, ws, h => by
    rw [List.map_cons, List.map_cons] at h
    obtain ⟨h1, h2⟩ := List.cons.inj h
    have e : (ws.set i c).map Prod.fst = ws.map Prod.fst := by
      rw [List.map_set]
      apply List.ext_getElem?
      intro n
      by_cases hin : i = n
      · subst hin
        rw [List.getElem?_set_self', List.getElem?_map]
        cases hw : ws[i]? with
        | none => rfl
        | some z => rw [hw] at h1; simp only [Option.map_some, Option.some.injEq] at h1 ⊢; exact congrArg some h1.symm
      · rw [List.getElem?_set_ne hin]
    show (sP (ws.set i c) is cs).map Prod.fst = _
    rw [sP_adr is cs (ws.set i c) ?_, e]
    rw [← h2]
    apply List.map_congr_left
    intro j _
    have : ((ws.set i c).map Prod.fst)[j]? = (ws.map Prod.fst)[j]? := by rw [e]
    rw [List.getElem?_map, List.getElem?_map] at this
    exact this
theorem fr_join {A0 : Nat → Prop} {D : va_G} {cl : List vw_C} {ws wc w1 : va_W} {H H1 : Heap} (hP : va_P D cl ws H) (hD : va_D A0 ws) (isC : List Nat) (hC : isC.map (fun i => ws[i]?) = wc.map some) (hadr : w1.map Prod.fst = wc.map Prod.fst)
    (hk : ∀ q : Nat, q < H.size → ¬ adr wc q → H1[q]? = H[q]?) (hP1 : va_P D cl w1 H1) : va_P D cl (sP ws isC w1) H1 ∧ va_D A0 (sP ws isC w1) := by
  have hlen : isC.length = w1.length := by
    have h1 := congrArg List.length hC
    have h2 := congrArg List.length hadr
    simp only [List.length_map] at h1 h2
    omega
  have at' : ∀ (j : Nat) (q : Nat × va_E), wc[j]? = some q → ∃ i, isC[j]? = some i ∧ ws[i]? = some q := by
    intro j q hq
    have h1 : (isC.map (fun i => ws[i]?))[j]? = some (some q) := by rw [hC, List.getElem?_map, hq]; rfl
    rw [List.getElem?_map] at h1
    cases hi : isC[j]? with
    | none => rw [hi] at h1; cases h1
    | some i => rw [hi] at h1; exact ⟨i, rfl, Option.some.inj h1⟩
  refine ⟨fun k q hq => ?_, va_D_of_adr (sP_adr isC w1 ws ?_) (fun q h => ?_) hD⟩
  · rcases sP_get isC w1 ws hlen k q hq with ⟨j, h1, h2⟩ | ⟨h1, h2⟩
    · exact hP1 j q h2
    · refine (hP k q h2).kept (hk q.1 (hP k q h2).lt fun ha => ?_)
      obtain ⟨j, e, hj⟩ := adr_of ha
      obtain ⟨i, hi, hwi⟩ := at' j _ hj
      have hki := hD.1 k i q (q.1, e) h2 hwi rfl
      subst hki
      exact h1 (List.mem_of_getElem? hi)
  · have e1 : isC.map (fun i => (ws[i]?).map Prod.fst) = (isC.map (fun i => ws[i]?)).map (fun o => o.map Prod.fst) := by rw [List.map_map]; rfl
    rw [e1, hC, List.map_map]
    have e2 : w1.map (fun q => some q.1) = (w1.map Prod.fst).map some := by rw [List.map_map]; rfl
    rw [e2, hadr, List.map_map]
    rfl
  · obtain ⟨k, e, hk⟩ := adr_of h
    exact hD.2 k _ hk
theorem adr_free {A0 : Nat → Prop} {ws wc : va_W} (hD : va_D A0 ws) (isC : List Nat) (hC : isC.map (fun i => ws[i]?) = wc.map some) : ∀ q, adr wc q → A0 q := by
  intro q h
  obtain ⟨k, e, hk⟩ := adr_of h
  have h1 : (isC.map (fun i => ws[i]?))[k]? = some (some (q, e)) := by rw [hC, List.getElem?_map, hk]; rfl
  rw [List.getElem?_map] at h1
  cases hi : isC[k]? with
  | none => rw [hi] at h1; cases h1
  | some i => rw [hi] at h1; exact hD.2 i (q, e) (Option.some.inj h1)
/-- the starts of my contracts: a world that is read; a world that is written -/
def pR (G : GG) (w : va_W) (av : List Value) : Array Value → State → Prop := va_Pc av (fun U => KX G U ∧ va_P G.1 vwCl w U.heap)
def pM (G : GG) (w : va_W) (av : List Value) : Array Value → State → Prop := va_Pc av (fun U => KX G U ∧ va_P G.1 vwCl w U.heap ∧ va_D (fun _ => True) w)
abbrev bM (G : GG) {S : Type} (w : S → va_W) : S → State → Prop := fun u t => va_P G.1 vwCl (w u) t.heap
theorem pR_blind {G : GG} {w : va_W} {av : List Value} : FrameBlind (pR G w av) := fun a U g mk q => ⟨q.1, KX.calling (g := g) (mk := mk) (a := a) q.2.1, q.2.2⟩
theorem pM_blind {G : GG} {w : va_W} {av : List Value} : FrameBlind (pM G w av) := fun a U g mk q => ⟨q.1, KX.calling (g := g) (mk := mk) (a := a) q.2.1, q.2.2.1, q.2.2.2⟩
theorem pR_S {G : GG} {w : va_W} {s : State} {H : Heap} {As : List Value} (hK : KX G s) (hP : va_P G.1 vwCl w H) : PreS s H (pR G w As) As := ⟨pR_blind, fun _ hU hW => ⟨rfl, hK.warm hW, by rw [hU]; exact hP⟩⟩
theorem pR_V {G : GG} {w : va_W} {s : State} {H : Heap} {As : List Value} {b ci q0 : Nat} {q : vw_C} {fs : List Value} (hK : KX G s) (hP : va_P G.1 vwCl w H) (he : w[q0]? = some (b, .inr (ci, fs))) (hc : vwCl[ci]? = some q) : PreV s H q.1 b (pR G w (.ref b :: As)) As := ⟨pR_blind, va_recv hK.1 hP hc he, fun _ hU hW => ⟨rfl, hK.warm hW, by rw [hU]; exact hP⟩⟩
theorem pM_V {G : GG} {w : va_W} {s : State} {H : Heap} {As : List Value} {b ci q0 : Nat} {q : vw_C} {fs : List Value} {A : Nat → Prop} (hK : KX G s) (hP : va_P G.1 vwCl w H) (hD : va_D A w) (he : w[q0]? = some (b, .inr (ci, fs))) (hc : vwCl[ci]? = some q) : PreV s H q.1 b (pM G w (.ref b :: As)) As := ⟨pM_blind, va_recv hK.1 hP hc he, fun _ hU hW => ⟨rfl, hK.warm hW, by rw [hU]; exact hP, hD.weaken (fun _ _ _ _ => trivial)⟩⟩
section MYROWS
variable {p : Program} {l : Launch} {e : Env} {R : Room} {s : State} {m : MethodId} {args : Array Value} {below : List Frame} {meth : Method} {c : Code} {H : Heap} {locs : List Loc} {cells slots : Nat} {Q : State → Prop}
variable {pc : Nat} {ls : Array Slot} {rest st0 : List Value} {a : Array Value} {A : Nat → Prop} {H0 : Heap} {cs : List Choice} {cc : ByteArray}
/-- a call that only reads -/
theorem cr_i {post : Int32 → Prop} (hr : va_Run p l e R s m args below meth c H locs cells slots 0 0 (F0 m pc ls st0) rest (vp_Si post a) (fun _ => False)) (kk : ∀ r : Int32, post r → W p l e R s m args below meth c H locs cells slots Q (F0 m (pc + 3) ls (.int r :: rest))) : W p l e R s m args below meth c H locs cells slots Q (F0 m pc ls st0) := by
  intro T hT X
  obtain ⟨v, st₀, t, T', L, h0, X', hL, e1, e2, ⟨r, hv, hp, hh⟩, st⟩ := hr T hT X
  cases hv
  have hL0 : L = [] := List.eq_nil_iff_forall_not_mem.mpr hL
  rw [hL0, List.append_nil] at X'
  obtain ⟨t2, a1, b1⟩ := kk r hp T' (by rw [e1, hh, h0]) X'
  exact ⟨t2, st t2 a1, b1⟩
theorem cr_f {post : UInt32 → Prop} (hr : va_Run p l e R s m args below meth c H locs cells slots 0 0 (F0 m pc ls st0) rest (vp_Sf post a) (fun _ => False)) (kk : ∀ r : UInt32, post r → W p l e R s m args below meth c H locs cells slots Q (F0 m (pc + 3) ls (.float r :: rest))) : W p l e R s m args below meth c H locs cells slots Q (F0 m pc ls st0) := by
  intro T hT X
  obtain ⟨v, st₀, t, T', L, h0, X', hL, e1, e2, ⟨r, hv, hp, hh⟩, st⟩ := hr T hT X
  cases hv
  have hL0 : L = [] := List.eq_nil_iff_forall_not_mem.mpr hL
  rw [hL0, List.append_nil] at X'
  obtain ⟨t2, a1, b1⟩ := kk r hp T' (by rw [e1, hh, h0]) X'
  exact ⟨t2, st t2 a1, b1⟩
/-- the same, of a method that may draw -/
theorem crD_i {d0 : Drawn} (hd0 : s.drawn.sameBut d0 cs) {post : Int32 → Prop} (hr : va_RunD cs p l e R (s.setDrawn d0) m args below meth c H locs cells slots 0 0 (F0 m pc ls st0) rest (vp_Si post a) (fun _ => False)) (kk : ∀ r : Int32, post r → ∀ d' : Drawn, s.drawn.sameBut d' cs → W p l e R (s.setDrawn d') m args below meth c H locs cells slots Q (F0 m (pc + 3) ls (.int r :: rest))) : W p l e R (s.setDrawn d0) m args below meth c H locs cells slots Q (F0 m pc ls st0) := by
  intro T hT X
  obtain ⟨v, st₀, t, T', L, d', hd', h0, X', hL, e1, e2, ⟨r, hv, hp, hh⟩, st⟩ := hr T hT X
  cases hv
  have hL0 : L = [] := List.eq_nil_iff_forall_not_mem.mpr hL
  rw [hL0, List.append_nil] at X'
  obtain ⟨t2, a1, b1⟩ := kk r hp d' (hd0.trans hd') T' (by rw [e1, hh, h0]) X'
  exact ⟨t2, st t2 a1, b1⟩
theorem crD_f {d0 : Drawn} (hd0 : s.drawn.sameBut d0 cs) {post : UInt32 → Prop} (hr : va_RunD cs p l e R (s.setDrawn d0) m args below meth c H locs cells slots 0 0 (F0 m pc ls st0) rest (vp_Sf post a) (fun _ => False)) (kk : ∀ r : UInt32, post r → ∀ d' : Drawn, s.drawn.sameBut d' cs → W p l e R (s.setDrawn d') m args below meth c H locs cells slots Q (F0 m (pc + 3) ls (.float r :: rest))) : W p l e R (s.setDrawn d0) m args below meth c H locs cells slots Q (F0 m pc ls st0) := by
  intro T hT X
  obtain ⟨v, st₀, t, T', L, d', hd', h0, X', hL, e1, e2, ⟨r, hv, hp, hh⟩, st⟩ := hr T hT X
  cases hv
  have hL0 : L = [] := List.eq_nil_iff_forall_not_mem.mpr hL
  rw [hL0, List.append_nil] at X'
  obtain ⟨t2, a1, b1⟩ := kk r hp d' (hd0.trans hd') T' (by rw [e1, hh, h0]) X'
  exact ⟨t2, st t2 a1, b1⟩
/-- a call that writes its own cells, which stand at the places isC of the caller's -/
theorem cm_v {D : va_G} {cl : List vw_C} {S : Type} {post : S → Prop} {w' : S → va_W} {ws wc : va_W} (hr : va_Run p l e R s m args below meth c H locs cells slots 0 0 (F0 m pc ls st0) rest (va_Qv post (fun u t => va_P D cl (w' u) t.heap) (adr wc) a) (adr wc)) (hP : va_P D cl ws H) (hD : va_D A ws) (hS : va_S A H0 H locs) (isC : List Nat) (hC : isC.map (fun i => ws[i]?) = wc.map some) (hadr : ∀ u, (w' u).map Prod.fst = wc.map Prod.fst)
    (kk : ∀ (u : S) (H1 : Heap) (locs1 : List Loc), post u → va_P D cl (sP ws isC (w' u)) H1 → va_D A (sP ws isC (w' u)) → va_S A H0 H1 locs1 → W p l e R s m args below meth c H1 locs1 cells slots Q (F0 m (pc + 3) ls rest)) : W p l e R s m args below meth c H locs cells slots Q (F0 m pc ls st0) := by
  refine va_callv hr hS (fun q _ h => adr_free hD isC hC q h) (adr_free hD isC hC) (fun u t H1 locs1 ht hvm hw hB hz1 hk1 hS1 => ?_)
  rw [ht] at hB
  obtain ⟨hP1, hD1⟩ := fr_join hP hD isC hC (hadr u) hk1 hB
  exact kk u H1 locs1 hw hP1 hD1 hS1
theorem cm_i {D : va_G} {cl : List vw_C} {S : Type} {post : Int32 → S → Prop} {w' : S → va_W} {ws wc : va_W} (hr : va_Run p l e R s m args below meth c H locs cells slots 0 0 (F0 m pc ls st0) rest (va_Qi post (fun u t => va_P D cl (w' u) t.heap) (adr wc) a) (adr wc)) (hP : va_P D cl ws H) (hD : va_D A ws) (hS : va_S A H0 H locs) (isC : List Nat) (hC : isC.map (fun i => ws[i]?) = wc.map some) (hadr : ∀ u, (w' u).map Prod.fst = wc.map Prod.fst)
    (kk : ∀ (r : Int32) (u : S) (H1 : Heap) (locs1 : List Loc), post r u → va_P D cl (sP ws isC (w' u)) H1 → va_D A (sP ws isC (w' u)) → va_S A H0 H1 locs1 → W p l e R s m args below meth c H1 locs1 cells slots Q (F0 m (pc + 3) ls (.int r :: rest))) : W p l e R s m args below meth c H locs cells slots Q (F0 m pc ls st0) := by
  refine va_calli hr hS (fun q _ h => adr_free hD isC hC q h) (adr_free hD isC hC) (fun r u t H1 locs1 ht hvm hw hB hz1 hk1 hS1 => ?_)
  rw [ht] at hB
  obtain ⟨hP1, hD1⟩ := fr_join hP hD isC hC (hadr u) hk1 hB
  exact kk r u H1 locs1 hw hP1 hD1 hS1
theorem cmD_v {d0 : Drawn} (hd0 : s.drawn.sameBut d0 cs) {D : va_G} {cl : List vw_C} {S : Type} {post : S → Prop} {w' : S → va_W} {ws wc : va_W} (hr : va_RunD cs p l e R (s.setDrawn d0) m args below meth c H locs cells slots 0 0 (F0 m pc ls st0) rest (va_Qv post (fun u t => va_P D cl (w' u) t.heap) (adr wc) a) (adr wc)) (hP : va_P D cl ws H) (hD : va_D A ws) (hS : va_S A H0 H locs) (isC : List Nat) (hC : isC.map (fun i => ws[i]?) = wc.map some) (hadr : ∀ u, (w' u).map Prod.fst = wc.map Prod.fst)
    (kk : ∀ (u : S) (H1 : Heap) (locs1 : List Loc), post u → va_P D cl (sP ws isC (w' u)) H1 → va_D A (sP ws isC (w' u)) → va_S A H0 H1 locs1 → ∀ d' : Drawn, s.drawn.sameBut d' cs → W p l e R (s.setDrawn d') m args below meth c H1 locs1 cells slots Q (F0 m (pc + 3) ls rest)) : W p l e R (s.setDrawn d0) m args below meth c H locs cells slots Q (F0 m pc ls st0) := by
  refine va_callvD hd0 hr hS (fun q _ h => adr_free hD isC hC q h) (adr_free hD isC hC) (fun u t H1 locs1 ht hvm hw hB hz1 hk1 hS1 d' hd' => ?_)
  rw [ht] at hB
  obtain ⟨hP1, hD1⟩ := fr_join hP hD isC hC (hadr u) hk1 hB
  exact kk u H1 locs1 hw hP1 hD1 hS1 d' hd'
theorem cmD_i {d0 : Drawn} (hd0 : s.drawn.sameBut d0 cs) {D : va_G} {cl : List vw_C} {S : Type} {post : Int32 → S → Prop} {w' : S → va_W} {ws wc : va_W} (hr : va_RunD cs p l e R (s.setDrawn d0) m args below meth c H locs cells slots 0 0 (F0 m pc ls st0) rest (va_Qi post (fun u t => va_P D cl (w' u) t.heap) (adr wc) a) (adr wc)) (hP : va_P D cl ws H) (hD : va_D A ws) (hS : va_S A H0 H locs) (isC : List Nat) (hC : isC.map (fun i => ws[i]?) = wc.map some) (hadr : ∀ u, (w' u).map Prod.fst = wc.map Prod.fst)
    (kk : ∀ (r : Int32) (u : S) (H1 : Heap) (locs1 : List Loc), post r u → va_P D cl (sP ws isC (w' u)) H1 → va_D A (sP ws isC (w' u)) → va_S A H0 H1 locs1 → ∀ d' : Drawn, s.drawn.sameBut d' cs → W p l e R (s.setDrawn d') m args below meth c H1 locs1 cells slots Q (F0 m (pc + 3) ls (.int r :: rest))) : W p l e R (s.setDrawn d0) m args below meth c H locs cells slots Q (F0 m pc ls st0) := by
  refine va_calliD hd0 hr hS (fun q _ h => adr_free hD isC hC q h) (adr_free hD isC hC) (fun r u t H1 locs1 ht hvm hw hB hz1 hk1 hS1 d' hd' => ?_)
  rw [ht] at hB
  obtain ⟨hP1, hD1⟩ := fr_join hP hD isC hC (hadr u) hk1 hB
  exact kk r u H1 locs1 hw hP1 hD1 hS1 d' hd'
theorem cmD_f {d0 : Drawn} (hd0 : s.drawn.sameBut d0 cs) {D : va_G} {cl : List vw_C} {S : Type} {post : UInt32 → S → Prop} {w' : S → va_W} {ws wc : va_W} (hr : va_RunD cs p l e R (s.setDrawn d0) m args below meth c H locs cells slots 0 0 (F0 m pc ls st0) rest (va_Qf post (fun u t => va_P D cl (w' u) t.heap) (adr wc) a) (adr wc)) (hP : va_P D cl ws H) (hD : va_D A ws) (hS : va_S A H0 H locs) (isC : List Nat) (hC : isC.map (fun i => ws[i]?) = wc.map some) (hadr : ∀ u, (w' u).map Prod.fst = wc.map Prod.fst)
    (kk : ∀ (r : UInt32) (u : S) (H1 : Heap) (locs1 : List Loc), post r u → va_P D cl (sP ws isC (w' u)) H1 → va_D A (sP ws isC (w' u)) → va_S A H0 H1 locs1 → ∀ d' : Drawn, s.drawn.sameBut d' cs → W p l e R (s.setDrawn d') m args below meth c H1 locs1 cells slots Q (F0 m (pc + 3) ls (.float r :: rest))) : W p l e R (s.setDrawn d0) m args below meth c H locs cells slots Q (F0 m pc ls st0) := by
  refine va_callfD hd0 hr hS (fun q _ h => adr_free hD isC hC q h) (adr_free hD isC hC) (fun r u t H1 locs1 ht hvm hw hB hz1 hk1 hS1 d' hd' => ?_)
  rw [ht] at hB
  obtain ⟨hP1, hD1⟩ := fr_join hP hD isC hC (hadr u) hk1 hB
  exact kk r u H1 locs1 hw hP1 hD1 hS1 d' hd'
/-- the top of the stack by another name -/
theorem eq_i {x y : Int32} (h : x = y) (k : W p l e R s m args below meth c H locs cells slots Q (F0 m pc ls (.int y :: rest))) : W p l e R s m args below meth c H locs cells slots Q (F0 m pc ls (.int x :: rest)) := by rw [h]; exact k
theorem eq_f {x y : UInt32} (h : x = y) (k : W p l e R s m args below meth c H locs cells slots Q (F0 m pc ls (.float y :: rest))) : W p l e R s m args below meth c H locs cells slots Q (F0 m pc ls (.float x :: rest)) := by rw [h]; exact k
/-- numbers that are natural ones -/
theorem n_add {x y : Nat} (hexec : p.tables.exec = Jvm.exec) (hb : c.code = cc) (hdg : decode cc pc = .ok (.iadd, 1)) (k : W p l e R s m args below meth c H locs cells slots Q (F0 m (pc + 1) ls (.int (nI (x + y)) :: rest))) : W p l e R s m args below meth c H locs cells slots Q (F0 m pc ls (.int (nI y) :: .int (nI x) :: rest)) := lv_iadd hexec hb hdg (eq_i (nI_add x y) k)
theorem n_mul {x y : Nat} (hexec : p.tables.exec = Jvm.exec) (hb : c.code = cc) (hdg : decode cc pc = .ok (.imul, 1)) (k : W p l e R s m args below meth c H locs cells slots Q (F0 m (pc + 1) ls (.int (nI (x * y)) :: rest))) : W p l e R s m args below meth c H locs cells slots Q (F0 m pc ls (.int (nI y) :: .int (nI x) :: rest)) := lv_imul hexec hb hdg (eq_i (pk_mul x y) k)
theorem n_sub {x y : Nat} (hexec : p.tables.exec = Jvm.exec) (hb : c.code = cc) (h : y ≤ x) (hdg : decode cc pc = .ok (.isub, 1)) (k : W p l e R s m args below meth c H locs cells slots Q (F0 m (pc + 1) ls (.int (nI (x - y)) :: rest))) : W p l e R s m args below meth c H locs cells slots Q (F0 m pc ls (.int (nI y) :: .int (nI x) :: rest)) := lv_isub hexec hb hdg (eq_i (pk_sub h) k)
variable {D : va_G} {cl : List vw_C} {ws : va_W} {tys : List (ClassId × FieldType)} {b : Nat}
theorem n_iald (hexec : p.tables.exec = Jvm.exec) (hb : c.code = cc) (hK : va_K D cl tys s) (hP : va_P D cl ws H) (q0 t0 : Nat) {cA : ClassId} {n : Nat} {f : Nat → Int32} (ha : ws[q0]? = some (b, .inl (cA, n, .inl f))) (ht : tys[t0]? = some (cA, .int)) {j : Nat} (hj : j < n) (hn : n < 2 ^ 31) (hdg : decode cc pc = .ok (.iaload, 1)) (kk : W p l e R s m args below meth c H locs cells slots Q (F0 m (pc + 1) ls (.int (f j) :: rest))) : W p l e R s m args below meth c H locs cells slots Q (F0 m pc ls (.int (nI j) :: .ref b :: rest)) := by
  refine va_iald hexec hb hK hP q0 t0 ha ht (vp_in_nI hj hn) hdg ?_
  rw [nI_clamp (Nat.lt_trans hj hn)]
  exact kk
theorem n_zald (hexec : p.tables.exec = Jvm.exec) (hb : c.code = cc) (hK : va_K D cl tys s) (hP : va_P D cl ws H) (q0 t0 : Nat) {cA : ClassId} {n : Nat} {f : Nat → Int32} (ha : ws[q0]? = some (b, .inl (cA, n, .inl f))) (ht : tys[t0]? = some (cA, .boolean)) {j : Nat} (hj : j < n) (hn : n < 2 ^ 31) (hdg : decode cc pc = .ok (.baload, 1)) (kk : W p l e R s m args below meth c H locs cells slots Q (F0 m (pc + 1) ls (.int (f j) :: rest))) : W p l e R s m args below meth c H locs cells slots Q (F0 m pc ls (.int (nI j) :: .ref b :: rest)) := by
  refine va_zald hexec hb hK hP q0 t0 ha ht (vp_in_nI hj hn) hdg ?_
  rw [nI_clamp (Nat.lt_trans hj hn)]
  exact kk
theorem n_bald (hexec : p.tables.exec = Jvm.exec) (hb : c.code = cc) (hK : va_K D cl tys s) (hP : va_P D cl ws H) (q0 t0 : Nat) {cA : ClassId} {n : Nat} {f : Nat → Int32} (ha : ws[q0]? = some (b, .inl (cA, n, .inl f))) (ht : tys[t0]? = some (cA, .byte)) {j : Nat} (hj : j < n) (hn : n < 2 ^ 31) (hdg : decode cc pc = .ok (.baload, 1)) (kk : W p l e R s m args below meth c H locs cells slots Q (F0 m (pc + 1) ls (.int (f j) :: rest))) : W p l e R s m args below meth c H locs cells slots Q (F0 m pc ls (.int (nI j) :: .ref b :: rest)) := by
  refine va_bald hexec hb hK hP q0 t0 ha ht (vp_in_nI hj hn) hdg ?_
  rw [nI_clamp (Nat.lt_trans hj hn)]
  exact kk
theorem n_fald (hexec : p.tables.exec = Jvm.exec) (hb : c.code = cc) (hK : va_K D cl tys s) (hP : va_P D cl ws H) (q0 t0 : Nat) {cA : ClassId} {n : Nat} {f : Nat → UInt32} (ha : ws[q0]? = some (b, .inl (cA, n, .inr (.inr (.inl f))))) (ht : tys[t0]? = some (cA, .float)) {j : Nat} (hj : j < n) (hn : n < 2 ^ 31) (hdg : decode cc pc = .ok (.faload, 1)) (kk : W p l e R s m args below meth c H locs cells slots Q (F0 m (pc + 1) ls (.float (f j) :: rest))) : W p l e R s m args below meth c H locs cells slots Q (F0 m pc ls (.int (nI j) :: .ref b :: rest)) := by
  refine va_fald hexec hb hK hP q0 t0 ha ht (vp_in_nI hj hn) hdg ?_
  rw [nI_clamp (Nat.lt_trans hj hn)]
  exact kk
theorem n_iast (hexec : p.tables.exec = Jvm.exec) (hb : c.code = cc) (hK : va_K D cl tys s) (hP : va_P D cl ws H) (hD : va_D A ws) (hS : va_S A H0 H locs) (q0 t0 : Nat) {cA : ClassId} {n : Nat} {f : Nat → Int32} (ha : ws[q0]? = some (b, .inl (cA, n, .inl f))) (ht : tys[t0]? = some (cA, .int)) {j : Nat} {x : Int32} (hj : j < n) (hn : n < 2 ^ 31) (hdg : decode cc pc = .ok (.iastore, 1))
    (kk : ∀ (H1 : Heap) (locs1 : List Loc), va_P D cl (ws.set q0 (b, .inl (cA, n, .inl (upd f j x)))) H1 → va_D A (ws.set q0 (b, .inl (cA, n, .inl (upd f j x)))) → va_S A H0 H1 locs1 → W p l e R s m args below meth c H1 locs1 cells slots Q (F0 m (pc + 1) ls rest)) : W p l e R s m args below meth c H locs cells slots Q (F0 m pc ls (.int x :: .int (nI j) :: .ref b :: rest)) := by
  refine va_iast hexec hb hK hP hD hS q0 t0 ha ht (vp_in_nI hj hn) hdg ?_
  rw [nI_clamp (Nat.lt_trans hj hn)]
  exact kk
theorem n_zast (hexec : p.tables.exec = Jvm.exec) (hb : c.code = cc) (hK : va_K D cl tys s) (hP : va_P D cl ws H) (hD : va_D A ws) (hS : va_S A H0 H locs) (q0 t0 : Nat) {cA : ClassId} {n : Nat} {f : Nat → Int32} (ha : ws[q0]? = some (b, .inl (cA, n, .inl f))) (ht : tys[t0]? = some (cA, .boolean)) {j : Nat} {x : Int32} (hx1 : x = 0 ∨ x = 1) (hj : j < n) (hn : n < 2 ^ 31) (hdg : decode cc pc = .ok (.bastore, 1))
    (kk : ∀ (H1 : Heap) (locs1 : List Loc), va_P D cl (ws.set q0 (b, .inl (cA, n, .inl (upd f j x)))) H1 → va_D A (ws.set q0 (b, .inl (cA, n, .inl (upd f j x)))) → va_S A H0 H1 locs1 → W p l e R s m args below meth c H1 locs1 cells slots Q (F0 m (pc + 1) ls rest)) : W p l e R s m args below meth c H locs cells slots Q (F0 m pc ls (.int x :: .int (nI j) :: .ref b :: rest)) := by
  refine va_zast hexec hb hK hP hD hS q0 t0 ha ht (vp_in_nI hj hn) hdg ?_
  have e1 : vp_nar .boolean x = x := by rcases hx1 with h | h <;> subst h <;> decide +kernel
  rw [nI_clamp (Nat.lt_trans hj hn), e1]
  exact kk
theorem n_bast (hexec : p.tables.exec = Jvm.exec) (hb : c.code = cc) (hK : va_K D cl tys s) (hP : va_P D cl ws H) (hD : va_D A ws) (hS : va_S A H0 H locs) (q0 t0 : Nat) {cA : ClassId} {n : Nat} {f : Nat → Int32} (ha : ws[q0]? = some (b, .inl (cA, n, .inl f))) (ht : tys[t0]? = some (cA, .byte)) {j : Nat} {x : Int32} (hj : j < n) (hn : n < 2 ^ 31) (hdg : decode cc pc = .ok (.bastore, 1))
    (kk : ∀ (H1 : Heap) (locs1 : List Loc), va_P D cl (ws.set q0 (b, .inl (cA, n, .inl (upd f j (vp_nar .byte x))))) H1 → va_D A (ws.set q0 (b, .inl (cA, n, .inl (upd f j (vp_nar .byte x))))) → va_S A H0 H1 locs1 → W p l e R s m args below meth c H1 locs1 cells slots Q (F0 m (pc + 1) ls rest)) : W p l e R s m args below meth c H locs cells slots Q (F0 m pc ls (.int x :: .int (nI j) :: .ref b :: rest)) := by
  refine va_bast hexec hb hK hP hD hS q0 t0 ha ht (vp_in_nI hj hn) hdg ?_
  rw [nI_clamp (Nat.lt_trans hj hn)]
  exact kk
theorem n_fast (hexec : p.tables.exec = Jvm.exec) (hb : c.code = cc) (hK : va_K D cl tys s) (hP : va_P D cl ws H) (hD : va_D A ws) (hS : va_S A H0 H locs) (q0 t0 : Nat) {cA : ClassId} {n : Nat} {f : Nat → UInt32} (ha : ws[q0]? = some (b, .inl (cA, n, .inr (.inr (.inl f))))) (ht : tys[t0]? = some (cA, .float)) {j : Nat} {x : UInt32} (hj : j < n) (hn : n < 2 ^ 31) (hdg : decode cc pc = .ok (.fastore, 1))
    (kk : ∀ (H1 : Heap) (locs1 : List Loc), va_P D cl (ws.set q0 (b, .inl (cA, n, .inr (.inr (.inl (vf_upd f j x)))))) H1 → va_D A (ws.set q0 (b, .inl (cA, n, .inr (.inr (.inl (vf_upd f j x)))))) → va_S A H0 H1 locs1 → W p l e R s m args below meth c H1 locs1 cells slots Q (F0 m (pc + 1) ls rest)) : W p l e R s m args below meth c H locs cells slots Q (F0 m pc ls (.float x :: .int (nI j) :: .ref b :: rest)) := by
  refine va_fast hexec hb hK hP hD hS q0 t0 ha ht (vp_in_nI hj hn) hdg ?_
  rw [nI_clamp (Nat.lt_trans hj hn)]
  exact kk
/-- branches over natural numbers and truth values -/
theorem n_icmp_lt {x y : Nat} {off : Int} {tgt : Nat} (hexec : p.tables.exec = Jvm.exec) (hb : c.code = cc) (h1 : x < 2 ^ 31) (h2 : y < 2 ^ 31) (hdg : decode cc pc = .ok (.if_icmp .lt off, 3)) (ht : (pc : Int) + off = (tgt : Int)) (kt : x < y → W p l e R s m args below meth c H locs cells slots Q (F0 m tgt ls rest)) (kf : y ≤ x → W p l e R s m args below meth c H locs cells slots Q (F0 m (pc + 3) ls rest)) : W p l e R s m args below meth c H locs cells slots Q (F0 m pc ls (.int (nI y) :: .int (nI x) :: rest)) := lv_icmp_lt hexec hb hdg ht (fun h => kt ((nI_ltI h1 h2).mp h)) (fun h => kf (Nat.le_of_not_lt fun q => h ((nI_ltI h1 h2).mpr q)))
theorem n_icmp_ge {x y : Nat} {off : Int} {tgt : Nat} (hexec : p.tables.exec = Jvm.exec) (hb : c.code = cc) (h1 : x < 2 ^ 31) (h2 : y < 2 ^ 31) (hdg : decode cc pc = .ok (.if_icmp .ge off, 3)) (ht : (pc : Int) + off = (tgt : Int)) (kt : y ≤ x → W p l e R s m args below meth c H locs cells slots Q (F0 m tgt ls rest)) (kf : x < y → W p l e R s m args below meth c H locs cells slots Q (F0 m (pc + 3) ls rest)) : W p l e R s m args below meth c H locs cells slots Q (F0 m pc ls (.int (nI y) :: .int (nI x) :: rest)) := lv_icmp_ge hexec hb hdg ht (fun h => kt ((nI_leI h2 h1).mp h)) (fun h => kf (Nat.lt_of_not_le fun q => h ((nI_leI h2 h1).mpr q)))
theorem n_icmp_le {x y : Nat} {off : Int} {tgt : Nat} (hexec : p.tables.exec = Jvm.exec) (hb : c.code = cc) (h1 : x < 2 ^ 31) (h2 : y < 2 ^ 31) (hdg : decode cc pc = .ok (.if_icmp .le off, 3)) (ht : (pc : Int) + off = (tgt : Int)) (kt : x ≤ y → W p l e R s m args below meth c H locs cells slots Q (F0 m tgt ls rest)) (kf : y < x → W p l e R s m args below meth c H locs cells slots Q (F0 m (pc + 3) ls rest)) : W p l e R s m args below meth c H locs cells slots Q (F0 m pc ls (.int (nI y) :: .int (nI x) :: rest)) := lv_icmp_le hexec hb hdg ht (fun h => kt ((nI_leI h1 h2).mp h)) (fun h => kf (Nat.lt_of_not_le fun q => h ((nI_leI h1 h2).mpr q)))
theorem n_icmp_gt {x y : Nat} {off : Int} {tgt : Nat} (hexec : p.tables.exec = Jvm.exec) (hb : c.code = cc) (h1 : x < 2 ^ 31) (h2 : y < 2 ^ 31) (hdg : decode cc pc = .ok (.if_icmp .gt off, 3)) (ht : (pc : Int) + off = (tgt : Int)) (kt : y < x → W p l e R s m args below meth c H locs cells slots Q (F0 m tgt ls rest)) (kf : x ≤ y → W p l e R s m args below meth c H locs cells slots Q (F0 m (pc + 3) ls rest)) : W p l e R s m args below meth c H locs cells slots Q (F0 m pc ls (.int (nI y) :: .int (nI x) :: rest)) := lv_icmp_gt hexec hb hdg ht (fun h => kt ((nI_ltI h2 h1).mp h)) (fun h => kf (Nat.le_of_not_lt fun q => h ((nI_ltI h2 h1).mpr q)))
theorem n_icmp_eq {x y : Nat} {off : Int} {tgt : Nat} (hexec : p.tables.exec = Jvm.exec) (hb : c.code = cc) (h1 : x < 2 ^ 31) (h2 : y < 2 ^ 31) (hdg : decode cc pc = .ok (.if_icmp .eq off, 3)) (ht : (pc : Int) + off = (tgt : Int)) (kt : x = y → W p l e R s m args below meth c H locs cells slots Q (F0 m tgt ls rest)) (kf : x ≠ y → W p l e R s m args below meth c H locs cells slots Q (F0 m (pc + 3) ls rest)) : W p l e R s m args below meth c H locs cells slots Q (F0 m pc ls (.int (nI y) :: .int (nI x) :: rest)) := lv_icmp_eq hexec hb hdg ht (fun h => kt ((nI_eq h1 h2).mp h)) (fun h => kf (fun q => h ((nI_eq h1 h2).mpr q)))
theorem n_icmp_ne {x y : Nat} {off : Int} {tgt : Nat} (hexec : p.tables.exec = Jvm.exec) (hb : c.code = cc) (h1 : x < 2 ^ 31) (h2 : y < 2 ^ 31) (hdg : decode cc pc = .ok (.if_icmp .ne off, 3)) (ht : (pc : Int) + off = (tgt : Int)) (kt : x ≠ y → W p l e R s m args below meth c H locs cells slots Q (F0 m tgt ls rest)) (kf : x = y → W p l e R s m args below meth c H locs cells slots Q (F0 m (pc + 3) ls rest)) : W p l e R s m args below meth c H locs cells slots Q (F0 m pc ls (.int (nI y) :: .int (nI x) :: rest)) := lv_icmp_ne hexec hb hdg ht (fun h => kt (fun q => h ((nI_eq h1 h2).mpr q))) (fun h => kf ((nI_eq h1 h2).mp h))
theorem n_if_eq {x : Nat} {off : Int} {tgt : Nat} (hexec : p.tables.exec = Jvm.exec) (hb : c.code = cc) (h1 : x < 2 ^ 31) (hdg : decode cc pc = .ok (.ifCond .eq off, 3)) (ht : (pc : Int) + off = (tgt : Int)) (kt : x = 0 → W p l e R s m args below meth c H locs cells slots Q (F0 m tgt ls rest)) (kf : 0 < x → W p l e R s m args below meth c H locs cells slots Q (F0 m (pc + 3) ls rest)) : W p l e R s m args below meth c H locs cells slots Q (F0 m pc ls (.int (nI x) :: rest)) := lv_if_eq hexec hb hdg ht (fun h => kt ((nI_eq h1 (by omega)).mp (h.trans nI_0.symm))) (fun h => kf (Nat.pos_of_ne_zero fun q => h (by rw [q]; exact nI_0)))
theorem n_if_ne {x : Nat} {off : Int} {tgt : Nat} (hexec : p.tables.exec = Jvm.exec) (hb : c.code = cc) (h1 : x < 2 ^ 31) (hdg : decode cc pc = .ok (.ifCond .ne off, 3)) (ht : (pc : Int) + off = (tgt : Int)) (kt : 0 < x → W p l e R s m args below meth c H locs cells slots Q (F0 m tgt ls rest)) (kf : x = 0 → W p l e R s m args below meth c H locs cells slots Q (F0 m (pc + 3) ls rest)) : W p l e R s m args below meth c H locs cells slots Q (F0 m pc ls (.int (nI x) :: rest)) := lv_if_ne hexec hb hdg ht (fun h => kt (Nat.pos_of_ne_zero fun q => h (by rw [q]; exact nI_0))) (fun h => kf ((nI_eq h1 (by omega)).mp (h.trans nI_0.symm)))
theorem n_if_le {x : Nat} {off : Int} {tgt : Nat} (hexec : p.tables.exec = Jvm.exec) (hb : c.code = cc) (h1 : x < 2 ^ 31) (hdg : decode cc pc = .ok (.ifCond .le off, 3)) (ht : (pc : Int) + off = (tgt : Int)) (kt : x = 0 → W p l e R s m args below meth c H locs cells slots Q (F0 m tgt ls rest)) (kf : 0 < x → W p l e R s m args below meth c H locs cells slots Q (F0 m (pc + 3) ls rest)) : W p l e R s m args below meth c H locs cells slots Q (F0 m pc ls (.int (nI x) :: rest)) := lv_if_le hexec hb hdg ht (fun h => kt (Nat.le_zero.mp ((nI_leI h1 (by omega)).mp (by rw [nI_0]; exact h)))) (fun h => kf (Nat.pos_of_ne_zero fun q => h (by rw [q, nI_0]; exact Int32.le_refl 0)))
def bI (b : Bool) : Int32 := if b then 1 else 0
theorem nb_if_eq {B : Bool} {off : Int} {tgt : Nat} (hexec : p.tables.exec = Jvm.exec) (hb : c.code = cc) (hdg : decode cc pc = .ok (.ifCond .eq off, 3)) (ht : (pc : Int) + off = (tgt : Int)) (kt : B = false → W p l e R s m args below meth c H locs cells slots Q (F0 m tgt ls rest)) (kf : B = true → W p l e R s m args below meth c H locs cells slots Q (F0 m (pc + 3) ls rest)) : W p l e R s m args below meth c H locs cells slots Q (F0 m pc ls (.int (bI B) :: rest)) := lv_if_eq hexec hb hdg ht (fun h => kt (by cases B; rfl; exact absurd h (by decide))) (fun h => kf (by cases B; exact absurd rfl h; rfl))
theorem nb_if_ne {B : Bool} {off : Int} {tgt : Nat} (hexec : p.tables.exec = Jvm.exec) (hb : c.code = cc) (hdg : decode cc pc = .ok (.ifCond .ne off, 3)) (ht : (pc : Int) + off = (tgt : Int)) (kt : B = true → W p l e R s m args below meth c H locs cells slots Q (F0 m tgt ls rest)) (kf : B = false → W p l e R s m args below meth c H locs cells slots Q (F0 m (pc + 3) ls rest)) : W p l e R s m args below meth c H locs cells slots Q (F0 m pc ls (.int (bI B) :: rest)) := lv_if_ne hexec hb hdg ht (fun h => kt (by cases B; exact absurd rfl h; rfl)) (fun h => kf (by cases B; rfl; exact absurd h (by decide)))
/-- a loop that counts up to N, over a heap that stays -/
theorem lpR {S : Type} (N : Nat) (I : Nat → S → Prop) (L : Nat → S → List (Nat × Value)) {nL : Nat} {stk : List Value}
    (hexit : ∀ (u : S) (ls : Array Slot), I N u → lv_has ls nL (L N u) → W p l e R s m args below meth c H locs cells slots Q (F0 m pc ls stk))
    (hstep : ∀ (i : Nat) (u : S) (ls : Array Slot), i < N → I i u → lv_has ls nL (L i u) → (∀ (u' : S) (ls' : Array Slot), I (i + 1) u' → lv_has ls' nL (L (i + 1) u') → W p l e R s m args below meth c H locs cells slots Q (F0 m pc ls' stk)) → W p l e R s m args below meth c H locs cells slots Q (F0 m pc ls stk))
    (i0 : Nat) (u0 : S) (hi : i0 ≤ N) (h0 : I i0 u0) (hl : lv_has ls nL (L i0 u0)) : W p l e R s m args below meth c H locs cells slots Q (F0 m pc ls stk) := by
  have key : ∀ (d i : Nat) (u : S) (ls : Array Slot), i + d = N → I i u → lv_has ls nL (L i u) → W p l e R s m args below meth c H locs cells slots Q (F0 m pc ls stk) := by
    intro d
    induction d with
    | zero => intro i u ls hd hI hl; obtain rfl : i = N := hd; exact hexit u ls hI hl
    | succ d ih => intro i u ls hd hI hl; exact hstep i u ls (by omega) hI hl (fun u' ls' h1 h2 => ih (i + 1) u' ls' (by omega) h1 h2)
  exact key (N - i0) i0 u0 ls (by omega) h0 hl
/-- the same, over a heap that moves -/
theorem lpM {S : Type} (N : Nat) (I : Nat → S → Heap → List Loc → Prop) (L : Nat → S → List (Nat × Value)) {nL : Nat} {stk : List Value}
    (hexit : ∀ (u : S) (H : Heap) (locs : List Loc) (ls : Array Slot), I N u H locs → lv_has ls nL (L N u) → W p l e R s m args below meth c H locs cells slots Q (F0 m pc ls stk))
    (hstep : ∀ (i : Nat) (u : S) (H : Heap) (locs : List Loc) (ls : Array Slot), i < N → I i u H locs → lv_has ls nL (L i u) → (∀ (u' : S) (H' : Heap) (locs' : List Loc) (ls' : Array Slot), I (i + 1) u' H' locs' → lv_has ls' nL (L (i + 1) u') → W p l e R s m args below meth c H' locs' cells slots Q (F0 m pc ls' stk)) → W p l e R s m args below meth c H locs cells slots Q (F0 m pc ls stk))
    (i0 : Nat) (u0 : S) (hi : i0 ≤ N) (h0 : I i0 u0 H locs) (hl : lv_has ls nL (L i0 u0)) : W p l e R s m args below meth c H locs cells slots Q (F0 m pc ls stk) := by
  have key : ∀ (d i : Nat) (u : S) (H : Heap) (locs : List Loc) (ls : Array Slot), i + d = N → I i u H locs → lv_has ls nL (L i u) → W p l e R s m args below meth c H locs cells slots Q (F0 m pc ls stk) := by
    intro d
    induction d with
    | zero => intro i u H locs ls hd hI hl; obtain rfl : i = N := hd; exact hexit u H locs ls hI hl
    | succ d ih => intro i u H locs ls hd hI hl; exact hstep i u H locs ls (by omega) hI hl (fun u' H' locs' ls' h1 h2 => ih (i + 1) u' H' locs' ls' (by omega) h1 h2)
  exact key (N - i0) i0 u0 H locs ls (by omega) h0 hl
/-- the same, where the run may draw -/
theorem lpD {d0 : Drawn} (hd0 : s.drawn.sameBut d0 cs) {S : Type} (N : Nat) (I : Nat → S → Heap → List Loc → Prop) (L : Nat → S → List (Nat × Value)) {nL : Nat} {stk : List Value}
    (hexit : ∀ (u : S) (H : Heap) (locs : List Loc) (ls : Array Slot) (d0 : Drawn), s.drawn.sameBut d0 cs → I N u H locs → lv_has ls nL (L N u) → W p l e R (s.setDrawn d0) m args below meth c H locs cells slots Q (F0 m pc ls stk))
    (hstep : ∀ (i : Nat) (u : S) (H : Heap) (locs : List Loc) (ls : Array Slot) (d0 : Drawn), s.drawn.sameBut d0 cs → i < N → I i u H locs → lv_has ls nL (L i u) → (∀ (u' : S) (H' : Heap) (locs' : List Loc) (ls' : Array Slot) (d0 : Drawn), s.drawn.sameBut d0 cs → I (i + 1) u' H' locs' → lv_has ls' nL (L (i + 1) u') → W p l e R (s.setDrawn d0) m args below meth c H' locs' cells slots Q (F0 m pc ls' stk)) → W p l e R (s.setDrawn d0) m args below meth c H locs cells slots Q (F0 m pc ls stk))
    (i0 : Nat) (u0 : S) (hi : i0 ≤ N) (h0 : I i0 u0 H locs) (hl : lv_has ls nL (L i0 u0)) : W p l e R (s.setDrawn d0) m args below meth c H locs cells slots Q (F0 m pc ls stk) := by
  have key : ∀ (d i : Nat) (u : S) (H : Heap) (locs : List Loc) (ls : Array Slot) (d0 : Drawn), s.drawn.sameBut d0 cs → i + d = N → I i u H locs → lv_has ls nL (L i u) → W p l e R (s.setDrawn d0) m args below meth c H locs cells slots Q (F0 m pc ls stk) := by
    intro d
    induction d with
    | zero => intro i u H locs ls d0 hd0 hd hI hl; obtain rfl : i = N := hd; exact hexit u H locs ls d0 hd0 hI hl
    | succ d ih => intro i u H locs ls d0 hd0 hd hI hl; exact hstep i u H locs ls d0 hd0 (by omega) hI hl (fun u' H' locs' ls' d1 hd1 h1 h2 => ih (i + 1) u' H' locs' ls' d1 hd1 (by omega) h1 h2)
  exact key (N - i0) i0 u0 H locs ls d0 hd0 (by omega) h0 hl
/-- a place where ways meet: what holds there first, then the ways -/
theorem cutR {S : Type} (pc2 : Nat) (I : S → Prop) (L : S → List (Nat × Value)) (K : S → List Value) {nL : Nat}
    (k : ∀ (u : S) (ls : Array Slot), I u → lv_has ls nL (L u) → W p l e R s m args below meth c H locs cells slots Q (F0 m pc2 ls (K u)))
    (g : (∀ (u : S) (ls : Array Slot), I u → lv_has ls nL (L u) → W p l e R s m args below meth c H locs cells slots Q (F0 m pc2 ls (K u))) → W p l e R s m args below meth c H locs cells slots Q (F0 m pc ls rest)) : W p l e R s m args below meth c H locs cells slots Q (F0 m pc ls rest) := g k
theorem cutM {S : Type} (pc2 : Nat) (I : S → Heap → List Loc → Prop) (L : S → List (Nat × Value)) (K : S → List Value) {nL : Nat}
    (k : ∀ (u : S) (H : Heap) (locs : List Loc) (ls : Array Slot), I u H locs → lv_has ls nL (L u) → W p l e R s m args below meth c H locs cells slots Q (F0 m pc2 ls (K u)))
    (g : (∀ (u : S) (H : Heap) (locs : List Loc) (ls : Array Slot), I u H locs → lv_has ls nL (L u) → W p l e R s m args below meth c H locs cells slots Q (F0 m pc2 ls (K u))) → W p l e R s m args below meth c H locs cells slots Q (F0 m pc ls rest)) : W p l e R s m args below meth c H locs cells slots Q (F0 m pc ls rest) := g k
theorem cutD {S : Type} (pc2 : Nat) (I : S → Heap → List Loc → Prop) (L : S → List (Nat × Value)) (K : S → List Value) {nL : Nat} {d0 : Drawn}
    (k : ∀ (u : S) (H : Heap) (locs : List Loc) (ls : Array Slot) (d0 : Drawn), s.drawn.sameBut d0 cs → I u H locs → lv_has ls nL (L u) → W p l e R (s.setDrawn d0) m args below meth c H locs cells slots Q (F0 m pc2 ls (K u)))
    (g : (∀ (u : S) (H : Heap) (locs : List Loc) (ls : Array Slot) (d0 : Drawn), s.drawn.sameBut d0 cs → I u H locs → lv_has ls nL (L u) → W p l e R (s.setDrawn d0) m args below meth c H locs cells slots Q (F0 m pc2 ls (K u))) → W p l e R (s.setDrawn d0) m args below meth c H locs cells slots Q (F0 m pc ls rest)) : W p l e R (s.setDrawn d0) m args below meth c H locs cells slots Q (F0 m pc ls rest) := g k
end MYROWS
end
section
theorem dX5_nan_0 : decode cX5_nan 0 = .ok (.ldc 7, 2) := by decide +kernel
theorem dX5_nan_2 : decode cX5_nan 2 = .ok (.freturn, 1) := by decide +kernel
theorem dX5_isNan_0 : decode cX5_isNan 0 = .ok (.fload_n 0, 1) := by decide +kernel
theorem dX5_isNan_1 : decode cX5_isNan 1 = .ok (.fconst 0, 1) := by decide +kernel
theorem dX5_isNan_2 : decode cX5_isNan 2 = .ok (.fcmp .g, 1) := by decide +kernel
theorem dX5_isNan_3 : decode cX5_isNan 3 = .ok (.ifCond .ge 7, 3) := by decide +kernel
theorem dX5_isNan_6 : decode cX5_isNan 6 = .ok (.iconst 1, 1) := by decide +kernel
theorem dX5_isNan_7 : decode cX5_isNan 7 = .ok (.goto 4, 3) := by decide +kernel
theorem dX5_isNan_10 : decode cX5_isNan 10 = .ok (.iconst 0, 1) := by decide +kernel
theorem dX5_isNan_11 : decode cX5_isNan 11 = .ok (.ireturn, 1) := by decide +kernel
theorem dX5_isInfinite_0 : decode cX5_isInfinite 0 = .ok (.fload_n 0, 1) := by decide +kernel
theorem dX5_isInfinite_1 : decode cX5_isInfinite 1 = .ok (.ldc 8, 2) := by decide +kernel
theorem dX5_isInfinite_3 : decode cX5_isInfinite 3 = .ok (.fcmp .l, 1) := by decide +kernel
theorem dX5_isInfinite_4 : decode cX5_isInfinite 4 = .ok (.ifCond .le 7, 3) := by decide +kernel
theorem dX5_isInfinite_7 : decode cX5_isInfinite 7 = .ok (.iconst 1, 1) := by decide +kernel
theorem dX5_isInfinite_8 : decode cX5_isInfinite 8 = .ok (.goto 4, 3) := by decide +kernel
theorem dX5_isInfinite_11 : decode cX5_isInfinite 11 = .ok (.iconst 0, 1) := by decide +kernel
theorem dX5_isInfinite_12 : decode cX5_isInfinite 12 = .ok (.ireturn, 1) := by decide +kernel
set_option maxRecDepth 20000 in
theorem ggX5_plus_X5_isNan : GoodIn wsX5_plus wsX5_isNan := goodIn_r _ [4] (by decide +kernel) (by decide +kernel)
set_option maxRecDepth 20000 in
theorem gX5_plus_X5_isNan : GoodIn wsX5_plus (va_wsS RX5 9 yX5_isNan wsX5_isNan) := goodIn_app (goodIn_of _ (by decide +kernel)) ggX5_plus_X5_isNan
set_option maxRecDepth 20000 in
theorem ggX5_plus_X5_nan : GoodIn wsX5_plus wsX5_nan := goodIn_r _ [7, 8] (by decide +kernel) (by decide +kernel)
set_option maxRecDepth 20000 in
theorem gX5_plus_X5_nan : GoodIn wsX5_plus (va_wsS RX5 15 yX5_nan wsX5_nan) := goodIn_app (goodIn_of _ (by decide +kernel)) ggX5_plus_X5_nan
theorem dX5_plus_0 : decode cX5_plus 0 = .ok (.fload_n 0, 1) := by decide +kernel
theorem dX5_plus_1 : decode cX5_plus 1 = .ok (.invokestatic 9, 3) := by decide +kernel
theorem dX5_plus_4 : decode cX5_plus 4 = .ok (.ifCond .ne 10, 3) := by decide +kernel
theorem dX5_plus_7 : decode cX5_plus 7 = .ok (.fload_n 1, 1) := by decide +kernel
theorem dX5_plus_8 : decode cX5_plus 8 = .ok (.invokestatic 9, 3) := by decide +kernel
theorem dX5_plus_11 : decode cX5_plus 11 = .ok (.ifCond .eq 7, 3) := by decide +kernel
theorem dX5_plus_14 : decode cX5_plus 14 = .ok (.invokestatic 15, 3) := by decide +kernel
theorem dX5_plus_17 : decode cX5_plus 17 = .ok (.freturn, 1) := by decide +kernel
theorem dX5_plus_18 : decode cX5_plus 18 = .ok (.fload_n 0, 1) := by decide +kernel
theorem dX5_plus_19 : decode cX5_plus 19 = .ok (.fload_n 1, 1) := by decide +kernel
theorem dX5_plus_20 : decode cX5_plus 20 = .ok (.fadd, 1) := by decide +kernel
theorem dX5_plus_21 : decode cX5_plus 21 = .ok (.freturn, 1) := by decide +kernel
set_option maxRecDepth 20000 in
theorem ggX5_times_X5_isNan : GoodIn wsX5_times wsX5_isNan := goodIn_r _ [4] (by decide +kernel) (by decide +kernel)
set_option maxRecDepth 20000 in
theorem gX5_times_X5_isNan : GoodIn wsX5_times (va_wsS RX5 9 yX5_isNan wsX5_isNan) := goodIn_app (goodIn_of _ (by decide +kernel)) ggX5_times_X5_isNan
set_option maxRecDepth 20000 in
theorem ggX5_times_X5_isInfinite : GoodIn wsX5_times wsX5_isInfinite := goodIn_r _ [7, 8] (by decide +kernel) (by decide +kernel)
set_option maxRecDepth 20000 in
theorem gX5_times_X5_isInfinite : GoodIn wsX5_times (va_wsS RX5 19 yX5_isInfinite wsX5_isInfinite) := goodIn_app (goodIn_of _ (by decide +kernel)) ggX5_times_X5_isInfinite
set_option maxRecDepth 20000 in
theorem ggX5_times_X5_nan : GoodIn wsX5_times wsX5_nan := goodIn_r _ [11, 12] (by decide +kernel) (by decide +kernel)
set_option maxRecDepth 20000 in
theorem gX5_times_X5_nan : GoodIn wsX5_times (va_wsS RX5 15 yX5_nan wsX5_nan) := goodIn_app (goodIn_of _ (by decide +kernel)) ggX5_times_X5_nan
theorem dX5_times_0 : decode cX5_times 0 = .ok (.fload_n 0, 1) := by decide +kernel
theorem dX5_times_1 : decode cX5_times 1 = .ok (.invokestatic 9, 3) := by decide +kernel
theorem dX5_times_4 : decode cX5_times 4 = .ok (.ifCond .ne 36, 3) := by decide +kernel
theorem dX5_times_7 : decode cX5_times 7 = .ok (.fload_n 1, 1) := by decide +kernel
theorem dX5_times_8 : decode cX5_times 8 = .ok (.invokestatic 9, 3) := by decide +kernel
theorem dX5_times_11 : decode cX5_times 11 = .ok (.ifCond .ne 29, 3) := by decide +kernel
theorem dX5_times_14 : decode cX5_times 14 = .ok (.fload_n 0, 1) := by decide +kernel
theorem dX5_times_15 : decode cX5_times 15 = .ok (.fconst 0, 1) := by decide +kernel
theorem dX5_times_16 : decode cX5_times 16 = .ok (.fcmp .l, 1) := by decide +kernel
theorem dX5_times_17 : decode cX5_times 17 = .ok (.ifCond .ne 10, 3) := by decide +kernel
theorem dX5_times_20 : decode cX5_times 20 = .ok (.fload_n 1, 1) := by decide +kernel
theorem dX5_times_21 : decode cX5_times 21 = .ok (.invokestatic 19, 3) := by decide +kernel
theorem dX5_times_24 : decode cX5_times 24 = .ok (.ifCond .ne 16, 3) := by decide +kernel
theorem dX5_times_27 : decode cX5_times 27 = .ok (.fload_n 0, 1) := by decide +kernel
theorem dX5_times_28 : decode cX5_times 28 = .ok (.invokestatic 19, 3) := by decide +kernel
theorem dX5_times_31 : decode cX5_times 31 = .ok (.ifCond .eq 13, 3) := by decide +kernel
theorem dX5_times_34 : decode cX5_times 34 = .ok (.fload_n 1, 1) := by decide +kernel
theorem dX5_times_35 : decode cX5_times 35 = .ok (.fconst 0, 1) := by decide +kernel
theorem dX5_times_36 : decode cX5_times 36 = .ok (.fcmp .l, 1) := by decide +kernel
theorem dX5_times_37 : decode cX5_times 37 = .ok (.ifCond .ne 7, 3) := by decide +kernel
theorem dX5_times_40 : decode cX5_times 40 = .ok (.invokestatic 15, 3) := by decide +kernel
theorem dX5_times_43 : decode cX5_times 43 = .ok (.freturn, 1) := by decide +kernel
theorem dX5_times_44 : decode cX5_times 44 = .ok (.fload_n 0, 1) := by decide +kernel
theorem dX5_times_45 : decode cX5_times 45 = .ok (.fload_n 1, 1) := by decide +kernel
theorem dX5_times_46 : decode cX5_times 46 = .ok (.fmul, 1) := by decide +kernel
theorem dX5_times_47 : decode cX5_times 47 = .ok (.freturn, 1) := by decide +kernel
set_option maxRecDepth 20000 in
theorem ggX5_over_X5_isNan : GoodIn wsX5_over wsX5_isNan := goodIn_r _ [4] (by decide +kernel) (by decide +kernel)
set_option maxRecDepth 20000 in
theorem gX5_over_X5_isNan : GoodIn wsX5_over (va_wsS RX5 9 yX5_isNan wsX5_isNan) := goodIn_app (goodIn_of _ (by decide +kernel)) ggX5_over_X5_isNan
set_option maxRecDepth 20000 in
theorem ggX5_over_X5_isInfinite : GoodIn wsX5_over wsX5_isInfinite := goodIn_r _ [7, 8] (by decide +kernel) (by decide +kernel)
set_option maxRecDepth 20000 in
theorem gX5_over_X5_isInfinite : GoodIn wsX5_over (va_wsS RX5 19 yX5_isInfinite wsX5_isInfinite) := goodIn_app (goodIn_of _ (by decide +kernel)) ggX5_over_X5_isInfinite
set_option maxRecDepth 20000 in
theorem ggX5_over_X5_nan : GoodIn wsX5_over wsX5_nan := goodIn_r _ [11, 12] (by decide +kernel) (by decide +kernel)
set_option maxRecDepth 20000 in
theorem gX5_over_X5_nan : GoodIn wsX5_over (va_wsS RX5 15 yX5_nan wsX5_nan) := goodIn_app (goodIn_of _ (by decide +kernel)) ggX5_over_X5_nan
theorem dX5_over_0 : decode cX5_over 0 = .ok (.fload_n 0, 1) := by decide +kernel
theorem dX5_over_1 : decode cX5_over 1 = .ok (.invokestatic 9, 3) := by decide +kernel
theorem dX5_over_4 : decode cX5_over 4 = .ok (.ifCond .ne 36, 3) := by decide +kernel
theorem dX5_over_7 : decode cX5_over 7 = .ok (.fload_n 1, 1) := by decide +kernel
theorem dX5_over_8 : decode cX5_over 8 = .ok (.invokestatic 9, 3) := by decide +kernel
theorem dX5_over_11 : decode cX5_over 11 = .ok (.ifCond .ne 29, 3) := by decide +kernel
theorem dX5_over_14 : decode cX5_over 14 = .ok (.fload_n 0, 1) := by decide +kernel
theorem dX5_over_15 : decode cX5_over 15 = .ok (.fconst 0, 1) := by decide +kernel
theorem dX5_over_16 : decode cX5_over 16 = .ok (.fcmp .l, 1) := by decide +kernel
theorem dX5_over_17 : decode cX5_over 17 = .ok (.ifCond .ne 9, 3) := by decide +kernel
theorem dX5_over_20 : decode cX5_over 20 = .ok (.fload_n 1, 1) := by decide +kernel
theorem dX5_over_21 : decode cX5_over 21 = .ok (.fconst 0, 1) := by decide +kernel
theorem dX5_over_22 : decode cX5_over 22 = .ok (.fcmp .l, 1) := by decide +kernel
theorem dX5_over_23 : decode cX5_over 23 = .ok (.ifCond .eq 17, 3) := by decide +kernel
theorem dX5_over_26 : decode cX5_over 26 = .ok (.fload_n 0, 1) := by decide +kernel
theorem dX5_over_27 : decode cX5_over 27 = .ok (.invokestatic 19, 3) := by decide +kernel
theorem dX5_over_30 : decode cX5_over 30 = .ok (.ifCond .eq 14, 3) := by decide +kernel
theorem dX5_over_33 : decode cX5_over 33 = .ok (.fload_n 1, 1) := by decide +kernel
theorem dX5_over_34 : decode cX5_over 34 = .ok (.invokestatic 19, 3) := by decide +kernel
theorem dX5_over_37 : decode cX5_over 37 = .ok (.ifCond .eq 7, 3) := by decide +kernel
theorem dX5_over_40 : decode cX5_over 40 = .ok (.invokestatic 15, 3) := by decide +kernel
theorem dX5_over_43 : decode cX5_over 43 = .ok (.freturn, 1) := by decide +kernel
theorem dX5_over_44 : decode cX5_over 44 = .ok (.fload_n 0, 1) := by decide +kernel
theorem dX5_over_45 : decode cX5_over 45 = .ok (.fload_n 1, 1) := by decide +kernel
theorem dX5_over_46 : decode cX5_over 46 = .ok (.fdiv, 1) := by decide +kernel
theorem dX5_over_47 : decode cX5_over 47 = .ok (.freturn, 1) := by decide +kernel
set_option maxRecDepth 20000 in
theorem ggX5_hundredths_X5_isNan : GoodIn wsX5_hundredths wsX5_isNan := goodIn_r _ [6] (by decide +kernel) (by decide +kernel)
set_option maxRecDepth 20000 in
theorem gX5_hundredths_X5_isNan : GoodIn wsX5_hundredths (va_wsS RX5 9 yX5_isNan wsX5_isNan) := goodIn_app (goodIn_of _ (by decide +kernel)) ggX5_hundredths_X5_isNan
theorem dX5_hundredths_0 : decode cX5_hundredths 0 = .ok (.fload_n 0, 1) := by decide +kernel
theorem dX5_hundredths_1 : decode cX5_hundredths 1 = .ok (.invokestatic 9, 3) := by decide +kernel
theorem dX5_hundredths_4 : decode cX5_hundredths 4 = .ok (.ifCond .eq 7, 3) := by decide +kernel
theorem dX5_hundredths_7 : decode cX5_hundredths 7 = .ok (.iconst 0, 1) := by decide +kernel
theorem dX5_hundredths_8 : decode cX5_hundredths 8 = .ok (.goto 11, 3) := by decide +kernel
theorem dX5_hundredths_11 : decode cX5_hundredths 11 = .ok (.fload_n 0, 1) := by decide +kernel
theorem dX5_hundredths_12 : decode cX5_hundredths 12 = .ok (.ldc 22, 2) := by decide +kernel
theorem dX5_hundredths_14 : decode cX5_hundredths 14 = .ok (.fmul, 1) := by decide +kernel
theorem dX5_hundredths_15 : decode cX5_hundredths 15 = .ok (.ldc 23, 2) := by decide +kernel
theorem dX5_hundredths_17 : decode cX5_hundredths 17 = .ok (.fadd, 1) := by decide +kernel
theorem dX5_hundredths_18 : decode cX5_hundredths 18 = .ok (.f2i, 1) := by decide +kernel
theorem dX5_hundredths_19 : decode cX5_hundredths 19 = .ok (.ireturn, 1) := by decide +kernel
set_option maxRecDepth 20000 in
theorem ggX5_bits_X5_isNan : GoodIn wsX5_bits wsX5_isNan := goodIn_r _ [7] (by decide +kernel) (by decide +kernel)
set_option maxRecDepth 20000 in
theorem gX5_bits_X5_isNan : GoodIn wsX5_bits (va_wsS RX5 9 yX5_isNan wsX5_isNan) := goodIn_app (goodIn_of _ (by decide +kernel)) ggX5_bits_X5_isNan
set_option maxRecDepth 20000 in
theorem ggX5_bits_X5_isInfinite : GoodIn wsX5_bits wsX5_isInfinite := goodIn_r _ [10, 11] (by decide +kernel) (by decide +kernel)
set_option maxRecDepth 20000 in
theorem gX5_bits_X5_isInfinite : GoodIn wsX5_bits (va_wsS RX5 19 yX5_isInfinite wsX5_isInfinite) := goodIn_app (goodIn_of _ (by decide +kernel)) ggX5_bits_X5_isInfinite
theorem dX5_bits_0 : decode cX5_bits 0 = .ok (.fload_n 0, 1) := by decide +kernel
theorem dX5_bits_1 : decode cX5_bits 1 = .ok (.invokestatic 9, 3) := by decide +kernel
theorem dX5_bits_4 : decode cX5_bits 4 = .ok (.ifCond .eq 6, 3) := by decide +kernel
theorem dX5_bits_7 : decode cX5_bits 7 = .ok (.ldc 24, 2) := by decide +kernel
theorem dX5_bits_9 : decode cX5_bits 9 = .ok (.ireturn, 1) := by decide +kernel
theorem dX5_bits_10 : decode cX5_bits 10 = .ok (.fload_n 0, 1) := by decide +kernel
theorem dX5_bits_11 : decode cX5_bits 11 = .ok (.invokestatic 19, 3) := by decide +kernel
theorem dX5_bits_14 : decode cX5_bits 14 = .ok (.ifCond .eq 6, 3) := by decide +kernel
theorem dX5_bits_17 : decode cX5_bits 17 = .ok (.ldc 25, 2) := by decide +kernel
theorem dX5_bits_19 : decode cX5_bits 19 = .ok (.ireturn, 1) := by decide +kernel
theorem dX5_bits_20 : decode cX5_bits 20 = .ok (.fload_n 0, 1) := by decide +kernel
theorem dX5_bits_21 : decode cX5_bits 21 = .ok (.fstore_n 1, 1) := by decide +kernel
theorem dX5_bits_22 : decode cX5_bits 22 = .ok (.iconst 0, 1) := by decide +kernel
theorem dX5_bits_23 : decode cX5_bits 23 = .ok (.istore_n 2, 1) := by decide +kernel
theorem dX5_bits_24 : decode cX5_bits 24 = .ok (.iload_n 2, 1) := by decide +kernel
theorem dX5_bits_25 : decode cX5_bits 25 = .ok (.bipush 127, 2) := by decide +kernel
theorem dX5_bits_27 : decode cX5_bits 27 = .ok (.if_icmp .ge 19, 3) := by decide +kernel
theorem dX5_bits_30 : decode cX5_bits 30 = .ok (.fload_n 1, 1) := by decide +kernel
theorem dX5_bits_31 : decode cX5_bits 31 = .ok (.fconst 2, 1) := by decide +kernel
theorem dX5_bits_32 : decode cX5_bits 32 = .ok (.fcmp .l, 1) := by decide +kernel
theorem dX5_bits_33 : decode cX5_bits 33 = .ok (.ifCond .lt 13, 3) := by decide +kernel
theorem dX5_bits_36 : decode cX5_bits 36 = .ok (.fload_n 1, 1) := by decide +kernel
theorem dX5_bits_37 : decode cX5_bits 37 = .ok (.fconst 2, 1) := by decide +kernel
theorem dX5_bits_38 : decode cX5_bits 38 = .ok (.fdiv, 1) := by decide +kernel
theorem dX5_bits_39 : decode cX5_bits 39 = .ok (.fstore_n 1, 1) := by decide +kernel
theorem dX5_bits_40 : decode cX5_bits 40 = .ok (.iinc 2 1, 3) := by decide +kernel
theorem dX5_bits_43 : decode cX5_bits 43 = .ok (.goto (-19), 3) := by decide +kernel
theorem dX5_bits_46 : decode cX5_bits 46 = .ok (.iload_n 2, 1) := by decide +kernel
theorem dX5_bits_47 : decode cX5_bits 47 = .ok (.bipush (-126), 2) := by decide +kernel
theorem dX5_bits_49 : decode cX5_bits 49 = .ok (.if_icmp .le 19, 3) := by decide +kernel
theorem dX5_bits_52 : decode cX5_bits 52 = .ok (.fload_n 1, 1) := by decide +kernel
theorem dX5_bits_53 : decode cX5_bits 53 = .ok (.fconst 1, 1) := by decide +kernel
theorem dX5_bits_54 : decode cX5_bits 54 = .ok (.fcmp .g, 1) := by decide +kernel
theorem dX5_bits_55 : decode cX5_bits 55 = .ok (.ifCond .ge 13, 3) := by decide +kernel
theorem dX5_bits_58 : decode cX5_bits 58 = .ok (.fload_n 1, 1) := by decide +kernel
theorem dX5_bits_59 : decode cX5_bits 59 = .ok (.fconst 2, 1) := by decide +kernel
theorem dX5_bits_60 : decode cX5_bits 60 = .ok (.fmul, 1) := by decide +kernel
theorem dX5_bits_61 : decode cX5_bits 61 = .ok (.fstore_n 1, 1) := by decide +kernel
theorem dX5_bits_62 : decode cX5_bits 62 = .ok (.iinc 2 (-1), 3) := by decide +kernel
theorem dX5_bits_65 : decode cX5_bits 65 = .ok (.goto (-19), 3) := by decide +kernel
theorem dX5_bits_68 : decode cX5_bits 68 = .ok (.iload_n 2, 1) := by decide +kernel
theorem dX5_bits_69 : decode cX5_bits 69 = .ok (.bipush (-126), 2) := by decide +kernel
theorem dX5_bits_71 : decode cX5_bits 71 = .ok (.isub, 1) := by decide +kernel
theorem dX5_bits_72 : decode cX5_bits 72 = .ok (.bipush 23, 2) := by decide +kernel
theorem dX5_bits_74 : decode cX5_bits 74 = .ok (.ishl, 1) := by decide +kernel
theorem dX5_bits_75 : decode cX5_bits 75 = .ok (.fload_n 1, 1) := by decide +kernel
theorem dX5_bits_76 : decode cX5_bits 76 = .ok (.ldc 26, 2) := by decide +kernel
theorem dX5_bits_78 : decode cX5_bits 78 = .ok (.fmul, 1) := by decide +kernel
theorem dX5_bits_79 : decode cX5_bits 79 = .ok (.f2i, 1) := by decide +kernel
theorem dX5_bits_80 : decode cX5_bits 80 = .ok (.iadd, 1) := by decide +kernel
theorem dX5_bits_81 : decode cX5_bits 81 = .ok (.ireturn, 1) := by decide +kernel
set_option maxRecDepth 20000 in
theorem ggX6_init_X0_init : GoodIn wsX6_init wsX0_init := goodIn_r _ [22, 23, 2, 3, 24, 25, 26, 27, 28, 29, 30, 31, 32, 66, 67, 68, 69, 70, 71, 72, 73, 74, 75] (by decide +kernel) (by decide +kernel)
set_option maxRecDepth 20000 in
theorem gX6_init_X0_init : GoodIn wsX6_init (wsX0_init) := ggX6_init_X0_init
set_option maxRecDepth 20000 in
theorem ggX6_init_X1_init : GoodIn wsX6_init wsX1_init := goodIn_r _ [35, 36, 2, 3, 37, 38, 5, 6, 39, 21, 22, 23, 24, 25, 26, 27, 28, 29, 30, 31, 32, 80, 81, 82, 66, 67, 68, 69, 70, 71, 72, 73, 74, 75] (by decide +kernel) (by decide +kernel)
set_option maxRecDepth 20000 in
theorem gX6_init_X1_init : GoodIn wsX6_init (wsX1_init) := ggX6_init_X1_init
set_option maxRecDepth 20000 in
theorem ggX6_init_X4_init : GoodIn wsX6_init wsX4_init := goodIn_r _ [41, 42, 2, 3, 24, 43, 44, 45, 46, 83, 84, 85, 86, 87, 88] (by decide +kernel) (by decide +kernel)
set_option maxRecDepth 20000 in
theorem gX6_init_X4_init_n25 : GoodIn wsX6_init (wsX4_init) := ggX6_init_X4_init
set_option maxRecDepth 20000 in
theorem ggX6_init_X3_init : GoodIn wsX6_init wsX3_init := goodIn_r _ [49, 50, 2, 3, 51, 52, 53, 54, 55, 56, 57, 58, 59, 60, 61, 62, 63, 64, 65, 89, 90, 91, 92, 93, 94, 95] (by decide +kernel) (by decide +kernel)
set_option maxRecDepth 20000 in
theorem gX6_init_X3_init : GoodIn wsX6_init (wsX3_init) := ggX6_init_X3_init
end
section
theorem dX0_init_0 : decode cX0_init 0 = .ok (.aload_n 0, 1) := by decide +kernel
theorem dX0_init_1 : decode cX0_init 1 = .ok (.invokespecial 3, 3) := by decide +kernel
theorem dX0_init_4 : decode cX0_init 4 = .ok (.aload_n 0, 1) := by decide +kernel
theorem dX0_init_5 : decode cX0_init 5 = .ok (.iconst 4, 1) := by decide +kernel
theorem dX0_init_6 : decode cX0_init 6 = .ok (.newarray .int, 2) := by decide +kernel
theorem dX0_init_8 : decode cX0_init 8 = .ok (.putfield 9, 3) := by decide +kernel
theorem dX0_init_11 : decode cX0_init 11 = .ok (.aload_n 0, 1) := by decide +kernel
theorem dX0_init_12 : decode cX0_init 12 = .ok (.bipush 12, 2) := by decide +kernel
theorem dX0_init_14 : decode cX0_init 14 = .ok (.newarray .int, 2) := by decide +kernel
theorem dX0_init_16 : decode cX0_init 16 = .ok (.putfield 15, 3) := by decide +kernel
theorem dX0_init_19 : decode cX0_init 19 = .ok (.aload_n 0, 1) := by decide +kernel
theorem dX0_init_20 : decode cX0_init 20 = .ok (.bipush 12, 2) := by decide +kernel
theorem dX0_init_22 : decode cX0_init 22 = .ok (.newarray .int, 2) := by decide +kernel
theorem dX0_init_24 : decode cX0_init 24 = .ok (.putfield 18, 3) := by decide +kernel
theorem dX0_init_27 : decode cX0_init 27 = .ok (.aload_n 0, 1) := by decide +kernel
theorem dX0_init_28 : decode cX0_init 28 = .ok (.bipush 12, 2) := by decide +kernel
theorem dX0_init_30 : decode cX0_init 30 = .ok (.newarray .int, 2) := by decide +kernel
theorem dX0_init_32 : decode cX0_init 32 = .ok (.putfield 21, 3) := by decide +kernel
theorem dX0_init_35 : decode cX0_init 35 = .ok (.aload_n 0, 1) := by decide +kernel
theorem dX0_init_36 : decode cX0_init 36 = .ok (.bipush 12, 2) := by decide +kernel
theorem dX0_init_38 : decode cX0_init 38 = .ok (.newarray .int, 2) := by decide +kernel
theorem dX0_init_40 : decode cX0_init 40 = .ok (.putfield 24, 3) := by decide +kernel
theorem dX0_init_43 : decode cX0_init 43 = .ok (.aload_n 0, 1) := by decide +kernel
theorem dX0_init_44 : decode cX0_init 44 = .ok (.bipush 12, 2) := by decide +kernel
theorem dX0_init_46 : decode cX0_init 46 = .ok (.newarray .int, 2) := by decide +kernel
theorem dX0_init_48 : decode cX0_init 48 = .ok (.putfield 27, 3) := by decide +kernel
theorem dX0_init_51 : decode cX0_init 51 = .ok (.aload_n 0, 1) := by decide +kernel
theorem dX0_init_52 : decode cX0_init 52 = .ok (.bipush 12, 2) := by decide +kernel
theorem dX0_init_54 : decode cX0_init 54 = .ok (.newarray .int, 2) := by decide +kernel
theorem dX0_init_56 : decode cX0_init 56 = .ok (.putfield 30, 3) := by decide +kernel
theorem dX0_init_59 : decode cX0_init 59 = .ok (.aload_n 0, 1) := by decide +kernel
theorem dX0_init_60 : decode cX0_init 60 = .ok (.sipush 288, 3) := by decide +kernel
theorem dX0_init_63 : decode cX0_init 63 = .ok (.newarray .int, 2) := by decide +kernel
theorem dX0_init_65 : decode cX0_init 65 = .ok (.putfield 33, 3) := by decide +kernel
theorem dX0_init_68 : decode cX0_init 68 = .ok (.iconst 0, 1) := by decide +kernel
theorem dX0_init_69 : decode cX0_init 69 = .ok (.istore_n 1, 1) := by decide +kernel
theorem dX0_init_70 : decode cX0_init 70 = .ok (.iload_n 1, 1) := by decide +kernel
theorem dX0_init_71 : decode cX0_init 71 = .ok (.iconst 4, 1) := by decide +kernel
theorem dX0_init_72 : decode cX0_init 72 = .ok (.if_icmp .ge 17, 3) := by decide +kernel
theorem dX0_init_75 : decode cX0_init 75 = .ok (.aload_n 0, 1) := by decide +kernel
theorem dX0_init_76 : decode cX0_init 76 = .ok (.getfield 9, 3) := by decide +kernel
theorem dX0_init_79 : decode cX0_init 79 = .ok (.iload_n 1, 1) := by decide +kernel
theorem dX0_init_80 : decode cX0_init 80 = .ok (.bipush 25, 2) := by decide +kernel
theorem dX0_init_82 : decode cX0_init 82 = .ok (.iastore, 1) := by decide +kernel
theorem dX0_init_83 : decode cX0_init 83 = .ok (.iinc 1 1, 3) := by decide +kernel
theorem dX0_init_86 : decode cX0_init 86 = .ok (.goto (-16), 3) := by decide +kernel
theorem dX0_init_89 : decode cX0_init 89 = .ok (.iconst 0, 1) := by decide +kernel
theorem dX0_init_90 : decode cX0_init 90 = .ok (.istore_n 1, 1) := by decide +kernel
theorem dX0_init_91 : decode cX0_init 91 = .ok (.iload_n 1, 1) := by decide +kernel
theorem dX0_init_92 : decode cX0_init 92 = .ok (.bipush 12, 2) := by decide +kernel
theorem dX0_init_94 : decode cX0_init 94 = .ok (.if_icmp .ge 23, 3) := by decide +kernel
theorem dX0_init_97 : decode cX0_init 97 = .ok (.aload_n 0, 1) := by decide +kernel
theorem dX0_init_98 : decode cX0_init 98 = .ok (.getfield 24, 3) := by decide +kernel
theorem dX0_init_101 : decode cX0_init 101 = .ok (.iload_n 1, 1) := by decide +kernel
theorem dX0_init_102 : decode cX0_init 102 = .ok (.iconst (-1), 1) := by decide +kernel
theorem dX0_init_103 : decode cX0_init 103 = .ok (.iastore, 1) := by decide +kernel
theorem dX0_init_104 : decode cX0_init 104 = .ok (.aload_n 0, 1) := by decide +kernel
theorem dX0_init_105 : decode cX0_init 105 = .ok (.getfield 27, 3) := by decide +kernel
theorem dX0_init_108 : decode cX0_init 108 = .ok (.iload_n 1, 1) := by decide +kernel
theorem dX0_init_109 : decode cX0_init 109 = .ok (.iconst (-1), 1) := by decide +kernel
theorem dX0_init_110 : decode cX0_init 110 = .ok (.iastore, 1) := by decide +kernel
theorem dX0_init_111 : decode cX0_init 111 = .ok (.iinc 1 1, 3) := by decide +kernel
theorem dX0_init_114 : decode cX0_init 114 = .ok (.goto (-23), 3) := by decide +kernel
theorem dX0_init_117 : decode cX0_init 117 = .ok (.return_, 1) := by decide +kernel
theorem dX0_copyFrom_0 : decode cX0_copyFrom 0 = .ok (.aload_n 0, 1) := by decide +kernel
theorem dX0_copyFrom_1 : decode cX0_copyFrom 1 = .ok (.aload_n 1, 1) := by decide +kernel
theorem dX0_copyFrom_2 : decode cX0_copyFrom 2 = .ok (.getfield 36, 3) := by decide +kernel
theorem dX0_copyFrom_5 : decode cX0_copyFrom 5 = .ok (.putfield 36, 3) := by decide +kernel
theorem dX0_copyFrom_8 : decode cX0_copyFrom 8 = .ok (.aload_n 0, 1) := by decide +kernel
theorem dX0_copyFrom_9 : decode cX0_copyFrom 9 = .ok (.aload_n 1, 1) := by decide +kernel
theorem dX0_copyFrom_10 : decode cX0_copyFrom 10 = .ok (.getfield 40, 3) := by decide +kernel
theorem dX0_copyFrom_13 : decode cX0_copyFrom 13 = .ok (.putfield 40, 3) := by decide +kernel
theorem dX0_copyFrom_16 : decode cX0_copyFrom 16 = .ok (.aload_n 1, 1) := by decide +kernel
theorem dX0_copyFrom_17 : decode cX0_copyFrom 17 = .ok (.getfield 9, 3) := by decide +kernel
theorem dX0_copyFrom_20 : decode cX0_copyFrom 20 = .ok (.iconst 0, 1) := by decide +kernel
theorem dX0_copyFrom_21 : decode cX0_copyFrom 21 = .ok (.aload_n 0, 1) := by decide +kernel
theorem dX0_copyFrom_22 : decode cX0_copyFrom 22 = .ok (.getfield 9, 3) := by decide +kernel
theorem dX0_copyFrom_25 : decode cX0_copyFrom 25 = .ok (.iconst 0, 1) := by decide +kernel
theorem dX0_copyFrom_26 : decode cX0_copyFrom 26 = .ok (.iconst 4, 1) := by decide +kernel
theorem dX0_copyFrom_27 : decode cX0_copyFrom 27 = .ok (.invokestatic 43, 3) := by decide +kernel
theorem dX0_copyFrom_30 : decode cX0_copyFrom 30 = .ok (.aload_n 1, 1) := by decide +kernel
theorem dX0_copyFrom_31 : decode cX0_copyFrom 31 = .ok (.getfield 15, 3) := by decide +kernel
theorem dX0_copyFrom_34 : decode cX0_copyFrom 34 = .ok (.iconst 0, 1) := by decide +kernel
theorem dX0_copyFrom_35 : decode cX0_copyFrom 35 = .ok (.aload_n 0, 1) := by decide +kernel
theorem dX0_copyFrom_36 : decode cX0_copyFrom 36 = .ok (.getfield 15, 3) := by decide +kernel
theorem dX0_copyFrom_39 : decode cX0_copyFrom 39 = .ok (.iconst 0, 1) := by decide +kernel
theorem dX0_copyFrom_40 : decode cX0_copyFrom 40 = .ok (.bipush 12, 2) := by decide +kernel
theorem dX0_copyFrom_42 : decode cX0_copyFrom 42 = .ok (.invokestatic 43, 3) := by decide +kernel
theorem dX0_copyFrom_45 : decode cX0_copyFrom 45 = .ok (.aload_n 1, 1) := by decide +kernel
theorem dX0_copyFrom_46 : decode cX0_copyFrom 46 = .ok (.getfield 18, 3) := by decide +kernel
theorem dX0_copyFrom_49 : decode cX0_copyFrom 49 = .ok (.iconst 0, 1) := by decide +kernel
theorem dX0_copyFrom_50 : decode cX0_copyFrom 50 = .ok (.aload_n 0, 1) := by decide +kernel
theorem dX0_copyFrom_51 : decode cX0_copyFrom 51 = .ok (.getfield 18, 3) := by decide +kernel
theorem dX0_copyFrom_54 : decode cX0_copyFrom 54 = .ok (.iconst 0, 1) := by decide +kernel
theorem dX0_copyFrom_55 : decode cX0_copyFrom 55 = .ok (.bipush 12, 2) := by decide +kernel
theorem dX0_copyFrom_57 : decode cX0_copyFrom 57 = .ok (.invokestatic 43, 3) := by decide +kernel
theorem dX0_copyFrom_60 : decode cX0_copyFrom 60 = .ok (.aload_n 1, 1) := by decide +kernel
theorem dX0_copyFrom_61 : decode cX0_copyFrom 61 = .ok (.getfield 21, 3) := by decide +kernel
theorem dX0_copyFrom_64 : decode cX0_copyFrom 64 = .ok (.iconst 0, 1) := by decide +kernel
theorem dX0_copyFrom_65 : decode cX0_copyFrom 65 = .ok (.aload_n 0, 1) := by decide +kernel
theorem dX0_copyFrom_66 : decode cX0_copyFrom 66 = .ok (.getfield 21, 3) := by decide +kernel
theorem dX0_copyFrom_69 : decode cX0_copyFrom 69 = .ok (.iconst 0, 1) := by decide +kernel
theorem dX0_copyFrom_70 : decode cX0_copyFrom 70 = .ok (.bipush 12, 2) := by decide +kernel
theorem dX0_copyFrom_72 : decode cX0_copyFrom 72 = .ok (.invokestatic 43, 3) := by decide +kernel
theorem dX0_copyFrom_75 : decode cX0_copyFrom 75 = .ok (.aload_n 1, 1) := by decide +kernel
theorem dX0_copyFrom_76 : decode cX0_copyFrom 76 = .ok (.getfield 24, 3) := by decide +kernel
theorem dX0_copyFrom_79 : decode cX0_copyFrom 79 = .ok (.iconst 0, 1) := by decide +kernel
theorem dX0_copyFrom_80 : decode cX0_copyFrom 80 = .ok (.aload_n 0, 1) := by decide +kernel
theorem dX0_copyFrom_81 : decode cX0_copyFrom 81 = .ok (.getfield 24, 3) := by decide +kernel
theorem dX0_copyFrom_84 : decode cX0_copyFrom 84 = .ok (.iconst 0, 1) := by decide +kernel
theorem dX0_copyFrom_85 : decode cX0_copyFrom 85 = .ok (.bipush 12, 2) := by decide +kernel
theorem dX0_copyFrom_87 : decode cX0_copyFrom 87 = .ok (.invokestatic 43, 3) := by decide +kernel
theorem dX0_copyFrom_90 : decode cX0_copyFrom 90 = .ok (.aload_n 1, 1) := by decide +kernel
theorem dX0_copyFrom_91 : decode cX0_copyFrom 91 = .ok (.getfield 27, 3) := by decide +kernel
theorem dX0_copyFrom_94 : decode cX0_copyFrom 94 = .ok (.iconst 0, 1) := by decide +kernel
theorem dX0_copyFrom_95 : decode cX0_copyFrom 95 = .ok (.aload_n 0, 1) := by decide +kernel
theorem dX0_copyFrom_96 : decode cX0_copyFrom 96 = .ok (.getfield 27, 3) := by decide +kernel
theorem dX0_copyFrom_99 : decode cX0_copyFrom 99 = .ok (.iconst 0, 1) := by decide +kernel
theorem dX0_copyFrom_100 : decode cX0_copyFrom 100 = .ok (.bipush 12, 2) := by decide +kernel
theorem dX0_copyFrom_102 : decode cX0_copyFrom 102 = .ok (.invokestatic 43, 3) := by decide +kernel
theorem dX0_copyFrom_105 : decode cX0_copyFrom 105 = .ok (.aload_n 1, 1) := by decide +kernel
theorem dX0_copyFrom_106 : decode cX0_copyFrom 106 = .ok (.getfield 30, 3) := by decide +kernel
theorem dX0_copyFrom_109 : decode cX0_copyFrom 109 = .ok (.iconst 0, 1) := by decide +kernel
theorem dX0_copyFrom_110 : decode cX0_copyFrom 110 = .ok (.aload_n 0, 1) := by decide +kernel
theorem dX0_copyFrom_111 : decode cX0_copyFrom 111 = .ok (.getfield 30, 3) := by decide +kernel
theorem dX0_copyFrom_114 : decode cX0_copyFrom 114 = .ok (.iconst 0, 1) := by decide +kernel
theorem dX0_copyFrom_115 : decode cX0_copyFrom 115 = .ok (.bipush 12, 2) := by decide +kernel
theorem dX0_copyFrom_117 : decode cX0_copyFrom 117 = .ok (.invokestatic 43, 3) := by decide +kernel
theorem dX0_copyFrom_120 : decode cX0_copyFrom 120 = .ok (.aload_n 1, 1) := by decide +kernel
theorem dX0_copyFrom_121 : decode cX0_copyFrom 121 = .ok (.getfield 33, 3) := by decide +kernel
theorem dX0_copyFrom_124 : decode cX0_copyFrom 124 = .ok (.iconst 0, 1) := by decide +kernel
theorem dX0_copyFrom_125 : decode cX0_copyFrom 125 = .ok (.aload_n 0, 1) := by decide +kernel
theorem dX0_copyFrom_126 : decode cX0_copyFrom 126 = .ok (.getfield 33, 3) := by decide +kernel
theorem dX0_copyFrom_129 : decode cX0_copyFrom 129 = .ok (.iconst 0, 1) := by decide +kernel
theorem dX0_copyFrom_130 : decode cX0_copyFrom 130 = .ok (.sipush 288, 3) := by decide +kernel
theorem dX0_copyFrom_133 : decode cX0_copyFrom 133 = .ok (.invokestatic 43, 3) := by decide +kernel
theorem dX0_copyFrom_136 : decode cX0_copyFrom 136 = .ok (.return_, 1) := by decide +kernel
theorem dX0_append_0 : decode cX0_append 0 = .ok (.aload_n 0, 1) := by decide +kernel
theorem dX0_append_1 : decode cX0_append 1 = .ok (.getfield 36, 3) := by decide +kernel
theorem dX0_append_4 : decode cX0_append 4 = .ok (.istore 4, 2) := by decide +kernel
theorem dX0_append_6 : decode cX0_append 6 = .ok (.aload_n 0, 1) := by decide +kernel
theorem dX0_append_7 : decode cX0_append 7 = .ok (.getfield 15, 3) := by decide +kernel
theorem dX0_append_10 : decode cX0_append 10 = .ok (.iload 4, 2) := by decide +kernel
theorem dX0_append_12 : decode cX0_append 12 = .ok (.iload_n 1, 1) := by decide +kernel
theorem dX0_append_13 : decode cX0_append 13 = .ok (.iastore, 1) := by decide +kernel
theorem dX0_append_14 : decode cX0_append 14 = .ok (.aload_n 0, 1) := by decide +kernel
theorem dX0_append_15 : decode cX0_append 15 = .ok (.getfield 18, 3) := by decide +kernel
theorem dX0_append_18 : decode cX0_append 18 = .ok (.iload 4, 2) := by decide +kernel
theorem dX0_append_20 : decode cX0_append 20 = .ok (.iload_n 2, 1) := by decide +kernel
theorem dX0_append_21 : decode cX0_append 21 = .ok (.iastore, 1) := by decide +kernel
theorem dX0_append_22 : decode cX0_append 22 = .ok (.aload_n 0, 1) := by decide +kernel
theorem dX0_append_23 : decode cX0_append 23 = .ok (.getfield 21, 3) := by decide +kernel
theorem dX0_append_26 : decode cX0_append 26 = .ok (.iload 4, 2) := by decide +kernel
theorem dX0_append_28 : decode cX0_append 28 = .ok (.iload_n 3, 1) := by decide +kernel
theorem dX0_append_29 : decode cX0_append 29 = .ok (.iastore, 1) := by decide +kernel
theorem dX0_append_30 : decode cX0_append 30 = .ok (.aload_n 0, 1) := by decide +kernel
theorem dX0_append_31 : decode cX0_append 31 = .ok (.iload 4, 2) := by decide +kernel
theorem dX0_append_33 : decode cX0_append 33 = .ok (.iconst 1, 1) := by decide +kernel
theorem dX0_append_34 : decode cX0_append 34 = .ok (.iadd, 1) := by decide +kernel
theorem dX0_append_35 : decode cX0_append 35 = .ok (.putfield 36, 3) := by decide +kernel
theorem dX0_append_38 : decode cX0_append 38 = .ok (.iload 4, 2) := by decide +kernel
theorem dX0_append_40 : decode cX0_append 40 = .ok (.ireturn, 1) := by decide +kernel
theorem dX0_isLinked_0 : decode cX0_isLinked 0 = .ok (.aload_n 0, 1) := by decide +kernel
theorem dX0_isLinked_1 : decode cX0_isLinked 1 = .ok (.getfield 24, 3) := by decide +kernel
theorem dX0_isLinked_4 : decode cX0_isLinked 4 = .ok (.iload_n 1, 1) := by decide +kernel
theorem dX0_isLinked_5 : decode cX0_isLinked 5 = .ok (.iaload, 1) := by decide +kernel
theorem dX0_isLinked_6 : decode cX0_isLinked 6 = .ok (.iconst (-1), 1) := by decide +kernel
theorem dX0_isLinked_7 : decode cX0_isLinked 7 = .ok (.if_icmp .ne 13, 3) := by decide +kernel
theorem dX0_isLinked_10 : decode cX0_isLinked 10 = .ok (.aload_n 0, 1) := by decide +kernel
theorem dX0_isLinked_11 : decode cX0_isLinked 11 = .ok (.getfield 27, 3) := by decide +kernel
theorem dX0_isLinked_14 : decode cX0_isLinked 14 = .ok (.iload_n 1, 1) := by decide +kernel
theorem dX0_isLinked_15 : decode cX0_isLinked 15 = .ok (.iaload, 1) := by decide +kernel
theorem dX0_isLinked_16 : decode cX0_isLinked 16 = .ok (.iconst (-1), 1) := by decide +kernel
theorem dX0_isLinked_17 : decode cX0_isLinked 17 = .ok (.if_icmp .eq 7, 3) := by decide +kernel
theorem dX0_isLinked_20 : decode cX0_isLinked 20 = .ok (.iconst 1, 1) := by decide +kernel
theorem dX0_isLinked_21 : decode cX0_isLinked 21 = .ok (.goto 4, 3) := by decide +kernel
theorem dX0_isLinked_24 : decode cX0_isLinked 24 = .ok (.iconst 0, 1) := by decide +kernel
theorem dX0_isLinked_25 : decode cX0_isLinked 25 = .ok (.ireturn, 1) := by decide +kernel
set_option maxRecDepth 20000 in
theorem ggX0_canLink_X0_isLinked : GoodIn wsX0_canLink wsX0_isLinked := goodIn_r _ [6, 7, 8, 18, 19, 20, 21, 22, 23, 24, 25, 26, 27] (by decide +kernel) (by decide +kernel)
set_option maxRecDepth 20000 in
theorem gX0_canLink_X0_isLinked : GoodIn wsX0_canLink (wsV RX0 49 RX0 yX0_isLinked wsX0_isLinked) := goodIn_app (goodIn_of _ (by decide +kernel)) ggX0_canLink_X0_isLinked
set_option maxRecDepth 20000 in
theorem ggX0_canLink_X0_hasObserved : GoodIn wsX0_canLink wsX0_hasObserved := goodIn_r _ [12, 13, 14, 15, 16, 17, 18, 19, 20, 21, 22, 23, 24, 25, 26, 27] (by decide +kernel) (by decide +kernel)
set_option maxRecDepth 20000 in
theorem gX0_canLink_X0_hasObserved : GoodIn wsX0_canLink (wsV RX0 53 RX0 yX0_hasObserved wsX0_hasObserved) := goodIn_app (goodIn_of _ (by decide +kernel)) ggX0_canLink_X0_hasObserved
theorem dX0_canLink_0 : decode cX0_canLink 0 = .ok (.aload_n 0, 1) := by decide +kernel
theorem dX0_canLink_1 : decode cX0_canLink 1 = .ok (.getfield 15, 3) := by decide +kernel
theorem dX0_canLink_4 : decode cX0_canLink 4 = .ok (.iload_n 1, 1) := by decide +kernel
theorem dX0_canLink_5 : decode cX0_canLink 5 = .ok (.iaload, 1) := by decide +kernel
theorem dX0_canLink_6 : decode cX0_canLink 6 = .ok (.aload_n 0, 1) := by decide +kernel
theorem dX0_canLink_7 : decode cX0_canLink 7 = .ok (.getfield 15, 3) := by decide +kernel
theorem dX0_canLink_10 : decode cX0_canLink 10 = .ok (.iload_n 2, 1) := by decide +kernel
theorem dX0_canLink_11 : decode cX0_canLink 11 = .ok (.iaload, 1) := by decide +kernel
theorem dX0_canLink_12 : decode cX0_canLink 12 = .ok (.if_icmp .ne 41, 3) := by decide +kernel
theorem dX0_canLink_15 : decode cX0_canLink 15 = .ok (.aload_n 0, 1) := by decide +kernel
theorem dX0_canLink_16 : decode cX0_canLink 16 = .ok (.iload_n 1, 1) := by decide +kernel
theorem dX0_canLink_17 : decode cX0_canLink 17 = .ok (.invokevirtual 49, 3) := by decide +kernel
theorem dX0_canLink_20 : decode cX0_canLink 20 = .ok (.ifCond .ne 33, 3) := by decide +kernel
theorem dX0_canLink_23 : decode cX0_canLink 23 = .ok (.aload_n 0, 1) := by decide +kernel
theorem dX0_canLink_24 : decode cX0_canLink 24 = .ok (.iload_n 2, 1) := by decide +kernel
theorem dX0_canLink_25 : decode cX0_canLink 25 = .ok (.invokevirtual 49, 3) := by decide +kernel
theorem dX0_canLink_28 : decode cX0_canLink 28 = .ok (.ifCond .ne 25, 3) := by decide +kernel
theorem dX0_canLink_31 : decode cX0_canLink 31 = .ok (.aload_n 0, 1) := by decide +kernel
theorem dX0_canLink_32 : decode cX0_canLink 32 = .ok (.iload_n 1, 1) := by decide +kernel
theorem dX0_canLink_33 : decode cX0_canLink 33 = .ok (.iload_n 3, 1) := by decide +kernel
theorem dX0_canLink_34 : decode cX0_canLink 34 = .ok (.invokevirtual 53, 3) := by decide +kernel
theorem dX0_canLink_37 : decode cX0_canLink 37 = .ok (.ifCond .eq 16, 3) := by decide +kernel
theorem dX0_canLink_40 : decode cX0_canLink 40 = .ok (.aload_n 0, 1) := by decide +kernel
theorem dX0_canLink_41 : decode cX0_canLink 41 = .ok (.iload_n 2, 1) := by decide +kernel
theorem dX0_canLink_42 : decode cX0_canLink 42 = .ok (.iload_n 3, 1) := by decide +kernel
theorem dX0_canLink_43 : decode cX0_canLink 43 = .ok (.invokevirtual 53, 3) := by decide +kernel
theorem dX0_canLink_46 : decode cX0_canLink 46 = .ok (.ifCond .eq 7, 3) := by decide +kernel
theorem dX0_canLink_49 : decode cX0_canLink 49 = .ok (.iconst 1, 1) := by decide +kernel
theorem dX0_canLink_50 : decode cX0_canLink 50 = .ok (.goto 4, 3) := by decide +kernel
theorem dX0_canLink_53 : decode cX0_canLink 53 = .ok (.iconst 0, 1) := by decide +kernel
theorem dX0_canLink_54 : decode cX0_canLink 54 = .ok (.ireturn, 1) := by decide +kernel
theorem dX0_link_0 : decode cX0_link 0 = .ok (.aload_n 0, 1) := by decide +kernel
theorem dX0_link_1 : decode cX0_link 1 = .ok (.getfield 24, 3) := by decide +kernel
theorem dX0_link_4 : decode cX0_link 4 = .ok (.iload_n 1, 1) := by decide +kernel
theorem dX0_link_5 : decode cX0_link 5 = .ok (.iload_n 2, 1) := by decide +kernel
theorem dX0_link_6 : decode cX0_link 6 = .ok (.iastore, 1) := by decide +kernel
theorem dX0_link_7 : decode cX0_link 7 = .ok (.aload_n 0, 1) := by decide +kernel
theorem dX0_link_8 : decode cX0_link 8 = .ok (.getfield 27, 3) := by decide +kernel
theorem dX0_link_11 : decode cX0_link 11 = .ok (.iload_n 2, 1) := by decide +kernel
theorem dX0_link_12 : decode cX0_link 12 = .ok (.iload_n 1, 1) := by decide +kernel
theorem dX0_link_13 : decode cX0_link 13 = .ok (.iastore, 1) := by decide +kernel
theorem dX0_link_14 : decode cX0_link 14 = .ok (.aload_n 0, 1) := by decide +kernel
theorem dX0_link_15 : decode cX0_link 15 = .ok (.getfield 30, 3) := by decide +kernel
theorem dX0_link_18 : decode cX0_link 18 = .ok (.iload_n 1, 1) := by decide +kernel
theorem dX0_link_19 : decode cX0_link 19 = .ok (.iload_n 3, 1) := by decide +kernel
theorem dX0_link_20 : decode cX0_link 20 = .ok (.iastore, 1) := by decide +kernel
theorem dX0_link_21 : decode cX0_link 21 = .ok (.return_, 1) := by decide +kernel
theorem dX0_unlink_0 : decode cX0_unlink 0 = .ok (.aload_n 0, 1) := by decide +kernel
theorem dX0_unlink_1 : decode cX0_unlink 1 = .ok (.getfield 27, 3) := by decide +kernel
theorem dX0_unlink_4 : decode cX0_unlink 4 = .ok (.iload_n 1, 1) := by decide +kernel
theorem dX0_unlink_5 : decode cX0_unlink 5 = .ok (.iaload, 1) := by decide +kernel
theorem dX0_unlink_6 : decode cX0_unlink 6 = .ok (.iconst (-1), 1) := by decide +kernel
theorem dX0_unlink_7 : decode cX0_unlink 7 = .ok (.if_icmp .ne 7, 3) := by decide +kernel
theorem dX0_unlink_10 : decode cX0_unlink 10 = .ok (.iload_n 1, 1) := by decide +kernel
theorem dX0_unlink_11 : decode cX0_unlink 11 = .ok (.goto 9, 3) := by decide +kernel
theorem dX0_unlink_14 : decode cX0_unlink 14 = .ok (.aload_n 0, 1) := by decide +kernel
theorem dX0_unlink_15 : decode cX0_unlink 15 = .ok (.getfield 27, 3) := by decide +kernel
theorem dX0_unlink_18 : decode cX0_unlink 18 = .ok (.iload_n 1, 1) := by decide +kernel
theorem dX0_unlink_19 : decode cX0_unlink 19 = .ok (.iaload, 1) := by decide +kernel
theorem dX0_unlink_20 : decode cX0_unlink 20 = .ok (.istore_n 2, 1) := by decide +kernel
theorem dX0_unlink_21 : decode cX0_unlink 21 = .ok (.aload_n 0, 1) := by decide +kernel
theorem dX0_unlink_22 : decode cX0_unlink 22 = .ok (.getfield 24, 3) := by decide +kernel
theorem dX0_unlink_25 : decode cX0_unlink 25 = .ok (.iload_n 2, 1) := by decide +kernel
theorem dX0_unlink_26 : decode cX0_unlink 26 = .ok (.iaload, 1) := by decide +kernel
theorem dX0_unlink_27 : decode cX0_unlink 27 = .ok (.istore_n 3, 1) := by decide +kernel
theorem dX0_unlink_28 : decode cX0_unlink 28 = .ok (.aload_n 0, 1) := by decide +kernel
theorem dX0_unlink_29 : decode cX0_unlink 29 = .ok (.getfield 24, 3) := by decide +kernel
theorem dX0_unlink_32 : decode cX0_unlink 32 = .ok (.iload_n 2, 1) := by decide +kernel
theorem dX0_unlink_33 : decode cX0_unlink 33 = .ok (.iconst (-1), 1) := by decide +kernel
theorem dX0_unlink_34 : decode cX0_unlink 34 = .ok (.iastore, 1) := by decide +kernel
theorem dX0_unlink_35 : decode cX0_unlink 35 = .ok (.iload_n 3, 1) := by decide +kernel
theorem dX0_unlink_36 : decode cX0_unlink 36 = .ok (.iconst (-1), 1) := by decide +kernel
theorem dX0_unlink_37 : decode cX0_unlink 37 = .ok (.if_icmp .eq 10, 3) := by decide +kernel
theorem dX0_unlink_40 : decode cX0_unlink 40 = .ok (.aload_n 0, 1) := by decide +kernel
theorem dX0_unlink_41 : decode cX0_unlink 41 = .ok (.getfield 27, 3) := by decide +kernel
theorem dX0_unlink_44 : decode cX0_unlink 44 = .ok (.iload_n 3, 1) := by decide +kernel
theorem dX0_unlink_45 : decode cX0_unlink 45 = .ok (.iconst (-1), 1) := by decide +kernel
theorem dX0_unlink_46 : decode cX0_unlink 46 = .ok (.iastore, 1) := by decide +kernel
theorem dX0_unlink_47 : decode cX0_unlink 47 = .ok (.return_, 1) := by decide +kernel
theorem dX0_linkCount_0 : decode cX0_linkCount 0 = .ok (.iconst 0, 1) := by decide +kernel
theorem dX0_linkCount_1 : decode cX0_linkCount 1 = .ok (.istore_n 1, 1) := by decide +kernel
theorem dX0_linkCount_2 : decode cX0_linkCount 2 = .ok (.iconst 0, 1) := by decide +kernel
theorem dX0_linkCount_3 : decode cX0_linkCount 3 = .ok (.istore_n 2, 1) := by decide +kernel
theorem dX0_linkCount_4 : decode cX0_linkCount 4 = .ok (.iload_n 2, 1) := by decide +kernel
theorem dX0_linkCount_5 : decode cX0_linkCount 5 = .ok (.aload_n 0, 1) := by decide +kernel
theorem dX0_linkCount_6 : decode cX0_linkCount 6 = .ok (.getfield 36, 3) := by decide +kernel
theorem dX0_linkCount_9 : decode cX0_linkCount 9 = .ok (.if_icmp .ge 22, 3) := by decide +kernel
theorem dX0_linkCount_12 : decode cX0_linkCount 12 = .ok (.aload_n 0, 1) := by decide +kernel
theorem dX0_linkCount_13 : decode cX0_linkCount 13 = .ok (.getfield 24, 3) := by decide +kernel
theorem dX0_linkCount_16 : decode cX0_linkCount 16 = .ok (.iload_n 2, 1) := by decide +kernel
theorem dX0_linkCount_17 : decode cX0_linkCount 17 = .ok (.iaload, 1) := by decide +kernel
theorem dX0_linkCount_18 : decode cX0_linkCount 18 = .ok (.iconst (-1), 1) := by decide +kernel
theorem dX0_linkCount_19 : decode cX0_linkCount 19 = .ok (.if_icmp .eq 6, 3) := by decide +kernel
theorem dX0_linkCount_22 : decode cX0_linkCount 22 = .ok (.iinc 1 1, 3) := by decide +kernel
theorem dX0_linkCount_25 : decode cX0_linkCount 25 = .ok (.iinc 2 1, 3) := by decide +kernel
theorem dX0_linkCount_28 : decode cX0_linkCount 28 = .ok (.goto (-24), 3) := by decide +kernel
theorem dX0_linkCount_31 : decode cX0_linkCount 31 = .ok (.iload_n 1, 1) := by decide +kernel
theorem dX0_linkCount_32 : decode cX0_linkCount 32 = .ok (.ireturn, 1) := by decide +kernel
set_option maxRecDepth 20000 in
theorem ggX0_hasObserved_X6_cell : GoodIn wsX0_hasObserved wsX6_cell := goodIn_r _ [5] (by decide +kernel) (by decide +kernel)
set_option maxRecDepth 20000 in
theorem gX0_hasObserved_X6_cell_n57 : GoodIn wsX0_hasObserved (wsX6_cell) := ggX0_hasObserved_X6_cell
theorem dX0_hasObserved_0 : decode cX0_hasObserved 0 = .ok (.aload_n 0, 1) := by decide +kernel
theorem dX0_hasObserved_1 : decode cX0_hasObserved 1 = .ok (.getfield 21, 3) := by decide +kernel
theorem dX0_hasObserved_4 : decode cX0_hasObserved 4 = .ok (.iload_n 1, 1) := by decide +kernel
theorem dX0_hasObserved_5 : decode cX0_hasObserved 5 = .ok (.iaload, 1) := by decide +kernel
theorem dX0_hasObserved_6 : decode cX0_hasObserved 6 = .ok (.iload_n 2, 1) := by decide +kernel
theorem dX0_hasObserved_7 : decode cX0_hasObserved 7 = .ok (.bipush 12, 2) := by decide +kernel
theorem dX0_hasObserved_9 : decode cX0_hasObserved 9 = .ok (.irem, 1) := by decide +kernel
theorem dX0_hasObserved_10 : decode cX0_hasObserved 10 = .ok (.ishr, 1) := by decide +kernel
theorem dX0_hasObserved_11 : decode cX0_hasObserved 11 = .ok (.iconst 1, 1) := by decide +kernel
theorem dX0_hasObserved_12 : decode cX0_hasObserved 12 = .ok (.iand, 1) := by decide +kernel
theorem dX0_hasObserved_13 : decode cX0_hasObserved 13 = .ok (.iconst 1, 1) := by decide +kernel
theorem dX0_hasObserved_14 : decode cX0_hasObserved 14 = .ok (.if_icmp .ne 7, 3) := by decide +kernel
theorem dX0_hasObserved_17 : decode cX0_hasObserved 17 = .ok (.iconst 1, 1) := by decide +kernel
theorem dX0_hasObserved_18 : decode cX0_hasObserved 18 = .ok (.goto 4, 3) := by decide +kernel
theorem dX0_hasObserved_21 : decode cX0_hasObserved 21 = .ok (.iconst 0, 1) := by decide +kernel
theorem dX0_hasObserved_22 : decode cX0_hasObserved 22 = .ok (.istore_n 3, 1) := by decide +kernel
theorem dX0_hasObserved_23 : decode cX0_hasObserved 23 = .ok (.iload_n 3, 1) := by decide +kernel
theorem dX0_hasObserved_24 : decode cX0_hasObserved 24 = .ok (.ifCond .eq 20, 3) := by decide +kernel
theorem dX0_hasObserved_27 : decode cX0_hasObserved 27 = .ok (.aload_n 0, 1) := by decide +kernel
theorem dX0_hasObserved_28 : decode cX0_hasObserved 28 = .ok (.getfield 33, 3) := by decide +kernel
theorem dX0_hasObserved_31 : decode cX0_hasObserved 31 = .ok (.iload_n 1, 1) := by decide +kernel
theorem dX0_hasObserved_32 : decode cX0_hasObserved 32 = .ok (.iload_n 2, 1) := by decide +kernel
theorem dX0_hasObserved_33 : decode cX0_hasObserved 33 = .ok (.invokestatic 57, 3) := by decide +kernel
theorem dX0_hasObserved_36 : decode cX0_hasObserved 36 = .ok (.iaload, 1) := by decide +kernel
theorem dX0_hasObserved_37 : decode cX0_hasObserved 37 = .ok (.ifCond .le 7, 3) := by decide +kernel
theorem dX0_hasObserved_40 : decode cX0_hasObserved 40 = .ok (.iconst 1, 1) := by decide +kernel
theorem dX0_hasObserved_41 : decode cX0_hasObserved 41 = .ok (.goto 4, 3) := by decide +kernel
theorem dX0_hasObserved_44 : decode cX0_hasObserved 44 = .ok (.iconst 0, 1) := by decide +kernel
theorem dX0_hasObserved_45 : decode cX0_hasObserved 45 = .ok (.ireturn, 1) := by decide +kernel
set_option maxRecDepth 20000 in
theorem ggX0_observed_X6_cell : GoodIn wsX0_observed wsX6_cell := goodIn_r _ [5] (by decide +kernel) (by decide +kernel)
set_option maxRecDepth 20000 in
theorem gX0_observed_X6_cell_n57 : GoodIn wsX0_observed (wsX6_cell) := ggX0_observed_X6_cell
set_option maxRecDepth 20000 in
theorem ggX0_observed_X5_over : GoodIn wsX0_observed wsX5_over := goodIn_r _ [9, 10, 11, 8, 12, 13, 14, 15, 16, 17, 18, 19, 20] (by decide +kernel) (by decide +kernel)
set_option maxRecDepth 20000 in
theorem gX0_observed_X5_over : GoodIn wsX0_observed (va_wsS RX0 61 yX5_over wsX5_over) := goodIn_app (goodIn_of _ (by decide +kernel)) ggX0_observed_X5_over
theorem dX0_observed_0 : decode cX0_observed 0 = .ok (.aload_n 0, 1) := by decide +kernel
theorem dX0_observed_1 : decode cX0_observed 1 = .ok (.getfield 33, 3) := by decide +kernel
theorem dX0_observed_4 : decode cX0_observed 4 = .ok (.iload_n 1, 1) := by decide +kernel
theorem dX0_observed_5 : decode cX0_observed 5 = .ok (.iload_n 2, 1) := by decide +kernel
theorem dX0_observed_6 : decode cX0_observed 6 = .ok (.invokestatic 57, 3) := by decide +kernel
theorem dX0_observed_9 : decode cX0_observed 9 = .ok (.iaload, 1) := by decide +kernel
theorem dX0_observed_10 : decode cX0_observed 10 = .ok (.i2f, 1) := by decide +kernel
theorem dX0_observed_11 : decode cX0_observed 11 = .ok (.aload_n 0, 1) := by decide +kernel
theorem dX0_observed_12 : decode cX0_observed 12 = .ok (.getfield 18, 3) := by decide +kernel
theorem dX0_observed_15 : decode cX0_observed 15 = .ok (.iload_n 1, 1) := by decide +kernel
theorem dX0_observed_16 : decode cX0_observed 16 = .ok (.iaload, 1) := by decide +kernel
theorem dX0_observed_17 : decode cX0_observed 17 = .ok (.i2f, 1) := by decide +kernel
theorem dX0_observed_18 : decode cX0_observed 18 = .ok (.invokestatic 61, 3) := by decide +kernel
theorem dX0_observed_21 : decode cX0_observed 21 = .ok (.freturn, 1) := by decide +kernel
theorem dX0_isPricedByNewItem_0 : decode cX0_isPricedByNewItem 0 = .ok (.aload_n 0, 1) := by decide +kernel
theorem dX0_isPricedByNewItem_1 : decode cX0_isPricedByNewItem 1 = .ok (.getfield 24, 3) := by decide +kernel
theorem dX0_isPricedByNewItem_4 : decode cX0_isPricedByNewItem 4 = .ok (.iload_n 1, 1) := by decide +kernel
theorem dX0_isPricedByNewItem_5 : decode cX0_isPricedByNewItem 5 = .ok (.iaload, 1) := by decide +kernel
theorem dX0_isPricedByNewItem_6 : decode cX0_isPricedByNewItem 6 = .ok (.iconst (-1), 1) := by decide +kernel
theorem dX0_isPricedByNewItem_7 : decode cX0_isPricedByNewItem 7 = .ok (.if_icmp .eq 17, 3) := by decide +kernel
theorem dX0_isPricedByNewItem_10 : decode cX0_isPricedByNewItem 10 = .ok (.iload_n 2, 1) := by decide +kernel
theorem dX0_isPricedByNewItem_11 : decode cX0_isPricedByNewItem 11 = .ok (.aload_n 0, 1) := by decide +kernel
theorem dX0_isPricedByNewItem_12 : decode cX0_isPricedByNewItem 12 = .ok (.getfield 30, 3) := by decide +kernel
theorem dX0_isPricedByNewItem_15 : decode cX0_isPricedByNewItem 15 = .ok (.iload_n 1, 1) := by decide +kernel
theorem dX0_isPricedByNewItem_16 : decode cX0_isPricedByNewItem 16 = .ok (.iaload, 1) := by decide +kernel
theorem dX0_isPricedByNewItem_17 : decode cX0_isPricedByNewItem 17 = .ok (.if_icmp .le 7, 3) := by decide +kernel
theorem dX0_isPricedByNewItem_20 : decode cX0_isPricedByNewItem 20 = .ok (.iconst 1, 1) := by decide +kernel
theorem dX0_isPricedByNewItem_21 : decode cX0_isPricedByNewItem 21 = .ok (.goto 4, 3) := by decide +kernel
theorem dX0_isPricedByNewItem_24 : decode cX0_isPricedByNewItem 24 = .ok (.iconst 0, 1) := by decide +kernel
theorem dX0_isPricedByNewItem_25 : decode cX0_isPricedByNewItem 25 = .ok (.ireturn, 1) := by decide +kernel
set_option maxRecDepth 20000 in
theorem ggX0_hasEffective_X0_isPricedByNewItem : GoodIn wsX0_hasEffective wsX0_isPricedByNewItem := goodIn_r _ [8, 2, 3, 18, 19, 20, 21, 22, 23, 24, 25, 26, 27] (by decide +kernel) (by decide +kernel)
set_option maxRecDepth 20000 in
theorem gX0_hasEffective_X0_isPricedByNewItem : GoodIn wsX0_hasEffective (wsV RX0 67 RX0 yX0_isPricedByNewItem wsX0_isPricedByNewItem) := goodIn_app (goodIn_of _ (by decide +kernel)) ggX0_hasEffective_X0_isPricedByNewItem
set_option maxRecDepth 20000 in
theorem ggX0_hasEffective_X0_hasObserved : GoodIn wsX0_hasEffective wsX0_hasObserved := goodIn_r _ [12, 13, 14, 15, 16, 17, 18, 19, 20, 21, 22, 23, 24, 25, 26, 27] (by decide +kernel) (by decide +kernel)
set_option maxRecDepth 20000 in
theorem gX0_hasEffective_X0_hasObserved : GoodIn wsX0_hasEffective (wsV RX0 53 RX0 yX0_hasObserved wsX0_hasObserved) := goodIn_app (goodIn_of _ (by decide +kernel)) ggX0_hasEffective_X0_hasObserved
theorem dX0_hasEffective_0 : decode cX0_hasEffective 0 = .ok (.aload_n 0, 1) := by decide +kernel
theorem dX0_hasEffective_1 : decode cX0_hasEffective 1 = .ok (.getfield 27, 3) := by decide +kernel
theorem dX0_hasEffective_4 : decode cX0_hasEffective 4 = .ok (.iload_n 1, 1) := by decide +kernel
theorem dX0_hasEffective_5 : decode cX0_hasEffective 5 = .ok (.iaload, 1) := by decide +kernel
theorem dX0_hasEffective_6 : decode cX0_hasEffective 6 = .ok (.iconst (-1), 1) := by decide +kernel
theorem dX0_hasEffective_7 : decode cX0_hasEffective 7 = .ok (.if_icmp .eq 5, 3) := by decide +kernel
theorem dX0_hasEffective_10 : decode cX0_hasEffective 10 = .ok (.iconst 0, 1) := by decide +kernel
theorem dX0_hasEffective_11 : decode cX0_hasEffective 11 = .ok (.ireturn, 1) := by decide +kernel
theorem dX0_hasEffective_12 : decode cX0_hasEffective 12 = .ok (.aload_n 0, 1) := by decide +kernel
theorem dX0_hasEffective_13 : decode cX0_hasEffective 13 = .ok (.iload_n 1, 1) := by decide +kernel
theorem dX0_hasEffective_14 : decode cX0_hasEffective 14 = .ok (.iload_n 2, 1) := by decide +kernel
theorem dX0_hasEffective_15 : decode cX0_hasEffective 15 = .ok (.invokevirtual 67, 3) := by decide +kernel
theorem dX0_hasEffective_18 : decode cX0_hasEffective 18 = .ok (.ifCond .ne 10, 3) := by decide +kernel
theorem dX0_hasEffective_21 : decode cX0_hasEffective 21 = .ok (.aload_n 0, 1) := by decide +kernel
theorem dX0_hasEffective_22 : decode cX0_hasEffective 22 = .ok (.iload_n 1, 1) := by decide +kernel
theorem dX0_hasEffective_23 : decode cX0_hasEffective 23 = .ok (.iload_n 2, 1) := by decide +kernel
theorem dX0_hasEffective_24 : decode cX0_hasEffective 24 = .ok (.invokevirtual 53, 3) := by decide +kernel
theorem dX0_hasEffective_27 : decode cX0_hasEffective 27 = .ok (.ireturn, 1) := by decide +kernel
theorem dX0_hasEffective_28 : decode cX0_hasEffective 28 = .ok (.aload_n 0, 1) := by decide +kernel
theorem dX0_hasEffective_29 : decode cX0_hasEffective 29 = .ok (.getfield 24, 3) := by decide +kernel
theorem dX0_hasEffective_32 : decode cX0_hasEffective 32 = .ok (.iload_n 1, 1) := by decide +kernel
theorem dX0_hasEffective_33 : decode cX0_hasEffective 33 = .ok (.iaload, 1) := by decide +kernel
theorem dX0_hasEffective_34 : decode cX0_hasEffective 34 = .ok (.istore_n 3, 1) := by decide +kernel
theorem dX0_hasEffective_35 : decode cX0_hasEffective 35 = .ok (.aload_n 0, 1) := by decide +kernel
theorem dX0_hasEffective_36 : decode cX0_hasEffective 36 = .ok (.iload_n 1, 1) := by decide +kernel
theorem dX0_hasEffective_37 : decode cX0_hasEffective 37 = .ok (.aload_n 0, 1) := by decide +kernel
theorem dX0_hasEffective_38 : decode cX0_hasEffective 38 = .ok (.getfield 30, 3) := by decide +kernel
theorem dX0_hasEffective_41 : decode cX0_hasEffective 41 = .ok (.iload_n 1, 1) := by decide +kernel
theorem dX0_hasEffective_42 : decode cX0_hasEffective 42 = .ok (.iaload, 1) := by decide +kernel
theorem dX0_hasEffective_43 : decode cX0_hasEffective 43 = .ok (.invokevirtual 53, 3) := by decide +kernel
theorem dX0_hasEffective_46 : decode cX0_hasEffective 46 = .ok (.ifCond .eq 30, 3) := by decide +kernel
theorem dX0_hasEffective_49 : decode cX0_hasEffective 49 = .ok (.aload_n 0, 1) := by decide +kernel
theorem dX0_hasEffective_50 : decode cX0_hasEffective 50 = .ok (.iload_n 3, 1) := by decide +kernel
theorem dX0_hasEffective_51 : decode cX0_hasEffective 51 = .ok (.aload_n 0, 1) := by decide +kernel
theorem dX0_hasEffective_52 : decode cX0_hasEffective 52 = .ok (.getfield 30, 3) := by decide +kernel
theorem dX0_hasEffective_55 : decode cX0_hasEffective 55 = .ok (.iload_n 1, 1) := by decide +kernel
theorem dX0_hasEffective_56 : decode cX0_hasEffective 56 = .ok (.iaload, 1) := by decide +kernel
theorem dX0_hasEffective_57 : decode cX0_hasEffective 57 = .ok (.invokevirtual 53, 3) := by decide +kernel
theorem dX0_hasEffective_60 : decode cX0_hasEffective 60 = .ok (.ifCond .eq 16, 3) := by decide +kernel
theorem dX0_hasEffective_63 : decode cX0_hasEffective 63 = .ok (.aload_n 0, 1) := by decide +kernel
theorem dX0_hasEffective_64 : decode cX0_hasEffective 64 = .ok (.iload_n 3, 1) := by decide +kernel
theorem dX0_hasEffective_65 : decode cX0_hasEffective 65 = .ok (.iload_n 2, 1) := by decide +kernel
theorem dX0_hasEffective_66 : decode cX0_hasEffective 66 = .ok (.invokevirtual 53, 3) := by decide +kernel
theorem dX0_hasEffective_69 : decode cX0_hasEffective 69 = .ok (.ifCond .eq 7, 3) := by decide +kernel
theorem dX0_hasEffective_72 : decode cX0_hasEffective 72 = .ok (.iconst 1, 1) := by decide +kernel
theorem dX0_hasEffective_73 : decode cX0_hasEffective 73 = .ok (.goto 4, 3) := by decide +kernel
theorem dX0_hasEffective_76 : decode cX0_hasEffective 76 = .ok (.iconst 0, 1) := by decide +kernel
theorem dX0_hasEffective_77 : decode cX0_hasEffective 77 = .ok (.ireturn, 1) := by decide +kernel
set_option maxRecDepth 20000 in
theorem ggX0_effective_X0_isPricedByNewItem : GoodIn wsX0_effective wsX0_isPricedByNewItem := goodIn_r _ [7, 1, 2, 35, 36, 37, 38, 39, 40, 41, 42, 43, 44] (by decide +kernel) (by decide +kernel)
set_option maxRecDepth 20000 in
theorem gX0_effective_X0_isPricedByNewItem : GoodIn wsX0_effective (wsV RX0 67 RX0 yX0_isPricedByNewItem wsX0_isPricedByNewItem) := goodIn_app (goodIn_of _ (by decide +kernel)) ggX0_effective_X0_isPricedByNewItem
set_option maxRecDepth 20000 in
theorem ggX0_effective_X0_observed : GoodIn wsX0_effective wsX0_observed := goodIn_r _ [11, 12, 13, 14, 15, 16, 17, 18, 19, 20, 21, 22, 23, 24, 25, 26, 27, 28, 29, 30, 31, 35, 36, 37, 38, 39, 40, 41, 42, 43, 44] (by decide +kernel) (by decide +kernel)
set_option maxRecDepth 20000 in
theorem gX0_effective_X0_observed : GoodIn wsX0_effective (wsV RX0 70 RX0 yX0_observed wsX0_observed) := goodIn_app (goodIn_of _ (by decide +kernel)) ggX0_effective_X0_observed
set_option maxRecDepth 20000 in
theorem ggX0_effective_X5_over : GoodIn wsX0_effective wsX5_over := goodIn_r _ [20, 21, 22, 19, 23, 24, 25, 26, 27, 28, 29, 30, 31] (by decide +kernel) (by decide +kernel)
set_option maxRecDepth 20000 in
theorem gX0_effective_X5_over : GoodIn wsX0_effective (va_wsS RX0 61 yX5_over wsX5_over) := goodIn_app (goodIn_of _ (by decide +kernel)) ggX0_effective_X5_over
set_option maxRecDepth 20000 in
theorem ggX0_effective_X5_times : GoodIn wsX0_effective wsX5_times := goodIn_r _ [34, 21, 22, 19, 23, 24, 25, 26, 27, 28, 29, 30, 31] (by decide +kernel) (by decide +kernel)
set_option maxRecDepth 20000 in
theorem gX0_effective_X5_times : GoodIn wsX0_effective (va_wsS RX0 74 yX5_times wsX5_times) := goodIn_app (goodIn_of _ (by decide +kernel)) ggX0_effective_X5_times
theorem dX0_effective_0 : decode cX0_effective 0 = .ok (.aload_n 0, 1) := by decide +kernel
theorem dX0_effective_1 : decode cX0_effective 1 = .ok (.iload_n 1, 1) := by decide +kernel
theorem dX0_effective_2 : decode cX0_effective 2 = .ok (.iload_n 2, 1) := by decide +kernel
theorem dX0_effective_3 : decode cX0_effective 3 = .ok (.invokevirtual 67, 3) := by decide +kernel
theorem dX0_effective_6 : decode cX0_effective 6 = .ok (.ifCond .ne 10, 3) := by decide +kernel
theorem dX0_effective_9 : decode cX0_effective 9 = .ok (.aload_n 0, 1) := by decide +kernel
theorem dX0_effective_10 : decode cX0_effective 10 = .ok (.iload_n 1, 1) := by decide +kernel
theorem dX0_effective_11 : decode cX0_effective 11 = .ok (.iload_n 2, 1) := by decide +kernel
theorem dX0_effective_12 : decode cX0_effective 12 = .ok (.invokevirtual 70, 3) := by decide +kernel
theorem dX0_effective_15 : decode cX0_effective 15 = .ok (.freturn, 1) := by decide +kernel
theorem dX0_effective_16 : decode cX0_effective 16 = .ok (.aload_n 0, 1) := by decide +kernel
theorem dX0_effective_17 : decode cX0_effective 17 = .ok (.getfield 24, 3) := by decide +kernel
theorem dX0_effective_20 : decode cX0_effective 20 = .ok (.iload_n 1, 1) := by decide +kernel
theorem dX0_effective_21 : decode cX0_effective 21 = .ok (.iaload, 1) := by decide +kernel
theorem dX0_effective_22 : decode cX0_effective 22 = .ok (.istore_n 3, 1) := by decide +kernel
theorem dX0_effective_23 : decode cX0_effective 23 = .ok (.aload_n 0, 1) := by decide +kernel
theorem dX0_effective_24 : decode cX0_effective 24 = .ok (.iload_n 1, 1) := by decide +kernel
theorem dX0_effective_25 : decode cX0_effective 25 = .ok (.aload_n 0, 1) := by decide +kernel
theorem dX0_effective_26 : decode cX0_effective 26 = .ok (.getfield 30, 3) := by decide +kernel
theorem dX0_effective_29 : decode cX0_effective 29 = .ok (.iload_n 1, 1) := by decide +kernel
theorem dX0_effective_30 : decode cX0_effective 30 = .ok (.iaload, 1) := by decide +kernel
theorem dX0_effective_31 : decode cX0_effective 31 = .ok (.invokevirtual 70, 3) := by decide +kernel
theorem dX0_effective_34 : decode cX0_effective 34 = .ok (.aload_n 0, 1) := by decide +kernel
theorem dX0_effective_35 : decode cX0_effective 35 = .ok (.iload_n 3, 1) := by decide +kernel
theorem dX0_effective_36 : decode cX0_effective 36 = .ok (.aload_n 0, 1) := by decide +kernel
theorem dX0_effective_37 : decode cX0_effective 37 = .ok (.getfield 30, 3) := by decide +kernel
theorem dX0_effective_40 : decode cX0_effective 40 = .ok (.iload_n 1, 1) := by decide +kernel
theorem dX0_effective_41 : decode cX0_effective 41 = .ok (.iaload, 1) := by decide +kernel
theorem dX0_effective_42 : decode cX0_effective 42 = .ok (.invokevirtual 70, 3) := by decide +kernel
theorem dX0_effective_45 : decode cX0_effective 45 = .ok (.invokestatic 61, 3) := by decide +kernel
theorem dX0_effective_48 : decode cX0_effective 48 = .ok (.fstore 4, 2) := by decide +kernel
theorem dX0_effective_50 : decode cX0_effective 50 = .ok (.aload_n 0, 1) := by decide +kernel
theorem dX0_effective_51 : decode cX0_effective 51 = .ok (.iload_n 3, 1) := by decide +kernel
theorem dX0_effective_52 : decode cX0_effective 52 = .ok (.iload_n 2, 1) := by decide +kernel
theorem dX0_effective_53 : decode cX0_effective 53 = .ok (.invokevirtual 70, 3) := by decide +kernel
theorem dX0_effective_56 : decode cX0_effective 56 = .ok (.fload 4, 2) := by decide +kernel
theorem dX0_effective_58 : decode cX0_effective 58 = .ok (.invokestatic 74, 3) := by decide +kernel
theorem dX0_effective_61 : decode cX0_effective 61 = .ok (.freturn, 1) := by decide +kernel
set_option maxRecDepth 20000 in
theorem ggX1_init_X0_init : GoodIn wsX1_init wsX0_init := goodIn_r _ [10, 11, 2, 3, 12, 13, 14, 15, 16, 17, 18, 19, 20, 24, 25, 26, 27, 28, 29, 30, 31, 32, 33] (by decide +kernel) (by decide +kernel)
set_option maxRecDepth 20000 in
theorem gX1_init_X0_init : GoodIn wsX1_init (wsX0_init) := ggX1_init_X0_init
end
section
theorem dX2_init_0 : decode cX2_init 0 = .ok (.aload_n 0, 1) := by decide +kernel
theorem dX2_init_1 : decode cX2_init 1 = .ok (.invokespecial 3, 3) := by decide +kernel
theorem dX2_init_4 : decode cX2_init 4 = .ok (.aload_n 0, 1) := by decide +kernel
theorem dX2_init_5 : decode cX2_init 5 = .ok (.sipush 288, 3) := by decide +kernel
theorem dX2_init_8 : decode cX2_init 8 = .ok (.newarray .boolean, 2) := by decide +kernel
theorem dX2_init_10 : decode cX2_init 10 = .ok (.putfield 9, 3) := by decide +kernel
theorem dX2_init_13 : decode cX2_init 13 = .ok (.aload_n 0, 1) := by decide +kernel
theorem dX2_init_14 : decode cX2_init 14 = .ok (.sipush 288, 3) := by decide +kernel
theorem dX2_init_17 : decode cX2_init 17 = .ok (.newarray .float, 2) := by decide +kernel
theorem dX2_init_19 : decode cX2_init 19 = .ok (.putfield 15, 3) := by decide +kernel
theorem dX2_init_22 : decode cX2_init 22 = .ok (.aload_n 0, 1) := by decide +kernel
theorem dX2_init_23 : decode cX2_init 23 = .ok (.aload_n 1, 1) := by decide +kernel
theorem dX2_init_24 : decode cX2_init 24 = .ok (.putfield 19, 3) := by decide +kernel
theorem dX2_init_27 : decode cX2_init 27 = .ok (.return_, 1) := by decide +kernel
set_option maxRecDepth 20000 in
theorem ggX2_has_X6_cell : GoodIn wsX2_has wsX6_cell := goodIn_r _ [4] (by decide +kernel) (by decide +kernel)
set_option maxRecDepth 20000 in
theorem gX2_has_X6_cell_n23 : GoodIn wsX2_has (wsX6_cell) := ggX2_has_X6_cell
theorem dX2_has_0 : decode cX2_has 0 = .ok (.aload_n 0, 1) := by decide +kernel
theorem dX2_has_1 : decode cX2_has 1 = .ok (.getfield 9, 3) := by decide +kernel
theorem dX2_has_4 : decode cX2_has 4 = .ok (.iload_n 1, 1) := by decide +kernel
theorem dX2_has_5 : decode cX2_has 5 = .ok (.iload_n 2, 1) := by decide +kernel
theorem dX2_has_6 : decode cX2_has 6 = .ok (.invokestatic 23, 3) := by decide +kernel
theorem dX2_has_9 : decode cX2_has 9 = .ok (.baload, 1) := by decide +kernel
theorem dX2_has_10 : decode cX2_has 10 = .ok (.ireturn, 1) := by decide +kernel
set_option maxRecDepth 20000 in
theorem ggX2_get_X6_cell : GoodIn wsX2_get wsX6_cell := goodIn_r _ [4] (by decide +kernel) (by decide +kernel)
set_option maxRecDepth 20000 in
theorem gX2_get_X6_cell_n23 : GoodIn wsX2_get (wsX6_cell) := ggX2_get_X6_cell
theorem dX2_get_0 : decode cX2_get 0 = .ok (.aload_n 0, 1) := by decide +kernel
theorem dX2_get_1 : decode cX2_get 1 = .ok (.getfield 15, 3) := by decide +kernel
theorem dX2_get_4 : decode cX2_get 4 = .ok (.iload_n 1, 1) := by decide +kernel
theorem dX2_get_5 : decode cX2_get 5 = .ok (.iload_n 2, 1) := by decide +kernel
theorem dX2_get_6 : decode cX2_get 6 = .ok (.invokestatic 23, 3) := by decide +kernel
theorem dX2_get_9 : decode cX2_get 9 = .ok (.faload, 1) := by decide +kernel
theorem dX2_get_10 : decode cX2_get 10 = .ok (.freturn, 1) := by decide +kernel
set_option maxRecDepth 20000 in
theorem ggX2_put_X6_cell : GoodIn wsX2_put wsX6_cell := goodIn_r _ [5] (by decide +kernel) (by decide +kernel)
set_option maxRecDepth 20000 in
theorem gX2_put_X6_cell_n23 : GoodIn wsX2_put (wsX6_cell) := ggX2_put_X6_cell
theorem dX2_put_0 : decode cX2_put 0 = .ok (.aload_n 0, 1) := by decide +kernel
theorem dX2_put_1 : decode cX2_put 1 = .ok (.getfield 9, 3) := by decide +kernel
theorem dX2_put_4 : decode cX2_put 4 = .ok (.iload_n 1, 1) := by decide +kernel
theorem dX2_put_5 : decode cX2_put 5 = .ok (.iload_n 2, 1) := by decide +kernel
theorem dX2_put_6 : decode cX2_put 6 = .ok (.invokestatic 23, 3) := by decide +kernel
theorem dX2_put_9 : decode cX2_put 9 = .ok (.iconst 1, 1) := by decide +kernel
theorem dX2_put_10 : decode cX2_put 10 = .ok (.bastore, 1) := by decide +kernel
theorem dX2_put_11 : decode cX2_put 11 = .ok (.aload_n 0, 1) := by decide +kernel
theorem dX2_put_12 : decode cX2_put 12 = .ok (.getfield 15, 3) := by decide +kernel
theorem dX2_put_15 : decode cX2_put 15 = .ok (.iload_n 1, 1) := by decide +kernel
theorem dX2_put_16 : decode cX2_put 16 = .ok (.iload_n 2, 1) := by decide +kernel
theorem dX2_put_17 : decode cX2_put 17 = .ok (.invokestatic 23, 3) := by decide +kernel
theorem dX2_put_20 : decode cX2_put 20 = .ok (.fload_n 3, 1) := by decide +kernel
theorem dX2_put_21 : decode cX2_put 21 = .ok (.fastore, 1) := by decide +kernel
theorem dX2_put_22 : decode cX2_put 22 = .ok (.return_, 1) := by decide +kernel
set_option maxRecDepth 20000 in
theorem ggX2_remove_X6_cell : GoodIn wsX2_remove wsX6_cell := goodIn_r _ [4] (by decide +kernel) (by decide +kernel)
set_option maxRecDepth 20000 in
theorem gX2_remove_X6_cell_n23 : GoodIn wsX2_remove (wsX6_cell) := ggX2_remove_X6_cell
theorem dX2_remove_0 : decode cX2_remove 0 = .ok (.aload_n 0, 1) := by decide +kernel
theorem dX2_remove_1 : decode cX2_remove 1 = .ok (.getfield 9, 3) := by decide +kernel
theorem dX2_remove_4 : decode cX2_remove 4 = .ok (.iload_n 1, 1) := by decide +kernel
theorem dX2_remove_5 : decode cX2_remove 5 = .ok (.iload_n 2, 1) := by decide +kernel
theorem dX2_remove_6 : decode cX2_remove 6 = .ok (.invokestatic 23, 3) := by decide +kernel
theorem dX2_remove_9 : decode cX2_remove 9 = .ok (.iconst 0, 1) := by decide +kernel
theorem dX2_remove_10 : decode cX2_remove 10 = .ok (.bastore, 1) := by decide +kernel
theorem dX2_remove_11 : decode cX2_remove 11 = .ok (.return_, 1) := by decide +kernel
set_option maxRecDepth 20000 in
theorem ggX2_isMatched_X6_cell : GoodIn wsX2_isMatched wsX6_cell := goodIn_r _ [6] (by decide +kernel) (by decide +kernel)
set_option maxRecDepth 20000 in
theorem gX2_isMatched_X6_cell_n23 : GoodIn wsX2_isMatched (wsX6_cell) := ggX2_isMatched_X6_cell
theorem dX2_isMatched_0 : decode cX2_isMatched 0 = .ok (.aload_n 0, 1) := by decide +kernel
theorem dX2_isMatched_1 : decode cX2_isMatched 1 = .ok (.getfield 19, 3) := by decide +kernel
theorem dX2_isMatched_4 : decode cX2_isMatched 4 = .ok (.getfield 27, 3) := by decide +kernel
theorem dX2_isMatched_7 : decode cX2_isMatched 7 = .ok (.iload_n 1, 1) := by decide +kernel
theorem dX2_isMatched_8 : decode cX2_isMatched 8 = .ok (.iaload, 1) := by decide +kernel
theorem dX2_isMatched_9 : decode cX2_isMatched 9 = .ok (.iload_n 2, 1) := by decide +kernel
theorem dX2_isMatched_10 : decode cX2_isMatched 10 = .ok (.if_icmp .ne 34, 3) := by decide +kernel
theorem dX2_isMatched_13 : decode cX2_isMatched 13 = .ok (.aload_n 0, 1) := by decide +kernel
theorem dX2_isMatched_14 : decode cX2_isMatched 14 = .ok (.getfield 9, 3) := by decide +kernel
theorem dX2_isMatched_17 : decode cX2_isMatched 17 = .ok (.iload_n 1, 1) := by decide +kernel
theorem dX2_isMatched_18 : decode cX2_isMatched 18 = .ok (.iload_n 3, 1) := by decide +kernel
theorem dX2_isMatched_19 : decode cX2_isMatched 19 = .ok (.invokestatic 23, 3) := by decide +kernel
theorem dX2_isMatched_22 : decode cX2_isMatched 22 = .ok (.baload, 1) := by decide +kernel
theorem dX2_isMatched_23 : decode cX2_isMatched 23 = .ok (.ifCond .eq 21, 3) := by decide +kernel
theorem dX2_isMatched_26 : decode cX2_isMatched 26 = .ok (.aload_n 0, 1) := by decide +kernel
theorem dX2_isMatched_27 : decode cX2_isMatched 27 = .ok (.getfield 9, 3) := by decide +kernel
theorem dX2_isMatched_30 : decode cX2_isMatched 30 = .ok (.iload_n 1, 1) := by decide +kernel
theorem dX2_isMatched_31 : decode cX2_isMatched 31 = .ok (.iload 4, 2) := by decide +kernel
theorem dX2_isMatched_33 : decode cX2_isMatched 33 = .ok (.invokestatic 23, 3) := by decide +kernel
theorem dX2_isMatched_36 : decode cX2_isMatched 36 = .ok (.baload, 1) := by decide +kernel
theorem dX2_isMatched_37 : decode cX2_isMatched 37 = .ok (.ifCond .eq 7, 3) := by decide +kernel
theorem dX2_isMatched_40 : decode cX2_isMatched 40 = .ok (.iconst 1, 1) := by decide +kernel
theorem dX2_isMatched_41 : decode cX2_isMatched 41 = .ok (.goto 4, 3) := by decide +kernel
theorem dX2_isMatched_44 : decode cX2_isMatched 44 = .ok (.iconst 0, 1) := by decide +kernel
theorem dX2_isMatched_45 : decode cX2_isMatched 45 = .ok (.ireturn, 1) := by decide +kernel
set_option maxRecDepth 20000 in
theorem ggX2_countMatched_X2_isMatched : GoodIn wsX2_countMatched wsX2_isMatched := goodIn_r _ [7, 1, 8, 9, 10, 11, 12, 13, 14, 15, 16, 17, 18, 19, 20, 21, 22, 23, 24, 25] (by decide +kernel) (by decide +kernel)
set_option maxRecDepth 20000 in
theorem gX2_countMatched_X2_isMatched : GoodIn wsX2_countMatched (wsV RX2 37 RX2 yX2_isMatched wsX2_isMatched) := goodIn_app (goodIn_of _ (by decide +kernel)) ggX2_countMatched_X2_isMatched
theorem dX2_countMatched_0 : decode cX2_countMatched 0 = .ok (.iconst 0, 1) := by decide +kernel
theorem dX2_countMatched_1 : decode cX2_countMatched 1 = .ok (.istore 4, 2) := by decide +kernel
theorem dX2_countMatched_3 : decode cX2_countMatched 3 = .ok (.iconst 0, 1) := by decide +kernel
theorem dX2_countMatched_4 : decode cX2_countMatched 4 = .ok (.istore 5, 2) := by decide +kernel
theorem dX2_countMatched_6 : decode cX2_countMatched 6 = .ok (.iload 5, 2) := by decide +kernel
theorem dX2_countMatched_8 : decode cX2_countMatched 8 = .ok (.aload_n 0, 1) := by decide +kernel
theorem dX2_countMatched_9 : decode cX2_countMatched 9 = .ok (.getfield 19, 3) := by decide +kernel
theorem dX2_countMatched_12 : decode cX2_countMatched 12 = .ok (.getfield 33, 3) := by decide +kernel
theorem dX2_countMatched_15 : decode cX2_countMatched 15 = .ok (.if_icmp .ge 24, 3) := by decide +kernel
theorem dX2_countMatched_18 : decode cX2_countMatched 18 = .ok (.aload_n 0, 1) := by decide +kernel
theorem dX2_countMatched_19 : decode cX2_countMatched 19 = .ok (.iload 5, 2) := by decide +kernel
theorem dX2_countMatched_21 : decode cX2_countMatched 21 = .ok (.iload_n 1, 1) := by decide +kernel
theorem dX2_countMatched_22 : decode cX2_countMatched 22 = .ok (.iload_n 2, 1) := by decide +kernel
theorem dX2_countMatched_23 : decode cX2_countMatched 23 = .ok (.iload_n 3, 1) := by decide +kernel
theorem dX2_countMatched_24 : decode cX2_countMatched 24 = .ok (.invokevirtual 37, 3) := by decide +kernel
theorem dX2_countMatched_27 : decode cX2_countMatched 27 = .ok (.ifCond .eq 6, 3) := by decide +kernel
theorem dX2_countMatched_30 : decode cX2_countMatched 30 = .ok (.iinc 4 1, 3) := by decide +kernel
theorem dX2_countMatched_33 : decode cX2_countMatched 33 = .ok (.iinc 5 1, 3) := by decide +kernel
theorem dX2_countMatched_36 : decode cX2_countMatched 36 = .ok (.goto (-30), 3) := by decide +kernel
theorem dX2_countMatched_39 : decode cX2_countMatched 39 = .ok (.iload 4, 2) := by decide +kernel
theorem dX2_countMatched_41 : decode cX2_countMatched 41 = .ok (.ireturn, 1) := by decide +kernel
set_option maxRecDepth 20000 in
theorem ggX2_movement_X2_countMatched : GoodIn wsX2_movement wsX2_countMatched := goodIn_r _ [7, 1, 8, 9, 10, 11, 6, 12, 13, 14, 15, 16, 17, 49, 50, 51, 52, 53, 54, 55, 56, 57, 58, 59, 60, 61] (by decide +kernel) (by decide +kernel)
set_option maxRecDepth 20000 in
theorem gX2_movement_X2_countMatched : GoodIn wsX2_movement (wsV RX2 41 RX2 yX2_countMatched wsX2_countMatched) := goodIn_app (goodIn_of _ (by decide +kernel)) ggX2_movement_X2_countMatched
set_option maxRecDepth 20000 in
theorem ggX2_movement_X2_sumOfPrices : GoodIn wsX2_movement wsX2_sumOfPrices := goodIn_r _ [21, 1, 8, 9, 10, 11, 6, 12, 13, 14, 15, 16, 17, 22, 23, 24, 25, 26, 27, 28, 29, 30, 31, 32, 33, 34, 35, 36, 37, 49, 50, 51, 52, 53, 54, 55, 56, 57, 58, 59, 60, 61] (by decide +kernel) (by decide +kernel)
set_option maxRecDepth 20000 in
theorem gX2_movement_X2_sumOfPrices : GoodIn wsX2_movement (wsV RX2 48 RX2 yX2_sumOfPrices wsX2_sumOfPrices) := goodIn_app (goodIn_of _ (by decide +kernel)) ggX2_movement_X2_sumOfPrices
set_option maxRecDepth 20000 in
theorem ggX2_movement_X5_over : GoodIn wsX2_movement wsX5_over := goodIn_r _ [40, 31, 32, 29, 33, 41, 42, 43, 44, 34, 35, 36, 37] (by decide +kernel) (by decide +kernel)
set_option maxRecDepth 20000 in
theorem gX2_movement_X5_over : GoodIn wsX2_movement (va_wsS RX2 52 yX5_over wsX5_over) := goodIn_app (goodIn_of _ (by decide +kernel)) ggX2_movement_X5_over
set_option maxRecDepth 20000 in
theorem ggX2_movement_X2_sumOfRatios : GoodIn wsX2_movement wsX2_sumOfRatios := goodIn_r _ [48, 1, 8, 9, 10, 11, 6, 12, 13, 14, 15, 16, 17, 22, 23, 24, 25, 26, 38, 39, 29, 40, 31, 32, 33, 41, 42, 43, 44, 34, 35, 36, 37, 27, 28, 30, 49, 50, 51, 52, 53, 54, 55, 56, 57, 58, 59, 60, 61] (by decide +kernel) (by decide +kernel)
set_option maxRecDepth 20000 in
theorem gX2_movement_X2_sumOfRatios : GoodIn wsX2_movement (wsV RX2 58 RX2 yX2_sumOfRatios wsX2_sumOfRatios) := goodIn_app (goodIn_of _ (by decide +kernel)) ggX2_movement_X2_sumOfRatios
theorem dX2_movement_0 : decode cX2_movement 0 = .ok (.aload_n 0, 1) := by decide +kernel
theorem dX2_movement_1 : decode cX2_movement 1 = .ok (.iload_n 1, 1) := by decide +kernel
theorem dX2_movement_2 : decode cX2_movement 2 = .ok (.iload_n 2, 1) := by decide +kernel
theorem dX2_movement_3 : decode cX2_movement 3 = .ok (.iload_n 3, 1) := by decide +kernel
theorem dX2_movement_4 : decode cX2_movement 4 = .ok (.invokevirtual 41, 3) := by decide +kernel
theorem dX2_movement_7 : decode cX2_movement 7 = .ok (.istore 4, 2) := by decide +kernel
theorem dX2_movement_9 : decode cX2_movement 9 = .ok (.iload 4, 2) := by decide +kernel
theorem dX2_movement_11 : decode cX2_movement 11 = .ok (.ifCond .ne 5, 3) := by decide +kernel
theorem dX2_movement_14 : decode cX2_movement 14 = .ok (.fconst 1, 1) := by decide +kernel
theorem dX2_movement_15 : decode cX2_movement 15 = .ok (.freturn, 1) := by decide +kernel
theorem dX2_movement_16 : decode cX2_movement 16 = .ok (.aload_n 0, 1) := by decide +kernel
theorem dX2_movement_17 : decode cX2_movement 17 = .ok (.getfield 19, 3) := by decide +kernel
theorem dX2_movement_20 : decode cX2_movement 20 = .ok (.getfield 45, 3) := by decide +kernel
theorem dX2_movement_23 : decode cX2_movement 23 = .ok (.ifCond .ne 23, 3) := by decide +kernel
theorem dX2_movement_26 : decode cX2_movement 26 = .ok (.aload_n 0, 1) := by decide +kernel
theorem dX2_movement_27 : decode cX2_movement 27 = .ok (.iload_n 1, 1) := by decide +kernel
theorem dX2_movement_28 : decode cX2_movement 28 = .ok (.iload_n 2, 1) := by decide +kernel
theorem dX2_movement_29 : decode cX2_movement 29 = .ok (.iload_n 3, 1) := by decide +kernel
theorem dX2_movement_30 : decode cX2_movement 30 = .ok (.iload_n 3, 1) := by decide +kernel
theorem dX2_movement_31 : decode cX2_movement 31 = .ok (.invokevirtual 48, 3) := by decide +kernel
theorem dX2_movement_34 : decode cX2_movement 34 = .ok (.aload_n 0, 1) := by decide +kernel
theorem dX2_movement_35 : decode cX2_movement 35 = .ok (.iload_n 1, 1) := by decide +kernel
theorem dX2_movement_36 : decode cX2_movement 36 = .ok (.iload_n 2, 1) := by decide +kernel
theorem dX2_movement_37 : decode cX2_movement 37 = .ok (.iload_n 3, 1) := by decide +kernel
theorem dX2_movement_38 : decode cX2_movement 38 = .ok (.iload_n 2, 1) := by decide +kernel
theorem dX2_movement_39 : decode cX2_movement 39 = .ok (.invokevirtual 48, 3) := by decide +kernel
theorem dX2_movement_42 : decode cX2_movement 42 = .ok (.invokestatic 52, 3) := by decide +kernel
theorem dX2_movement_45 : decode cX2_movement 45 = .ok (.freturn, 1) := by decide +kernel
theorem dX2_movement_46 : decode cX2_movement 46 = .ok (.aload_n 0, 1) := by decide +kernel
theorem dX2_movement_47 : decode cX2_movement 47 = .ok (.getfield 19, 3) := by decide +kernel
theorem dX2_movement_50 : decode cX2_movement 50 = .ok (.getfield 45, 3) := by decide +kernel
theorem dX2_movement_53 : decode cX2_movement 53 = .ok (.iconst 1, 1) := by decide +kernel
theorem dX2_movement_54 : decode cX2_movement 54 = .ok (.if_icmp .ne 17, 3) := by decide +kernel
theorem dX2_movement_57 : decode cX2_movement 57 = .ok (.aload_n 0, 1) := by decide +kernel
theorem dX2_movement_58 : decode cX2_movement 58 = .ok (.iload_n 1, 1) := by decide +kernel
theorem dX2_movement_59 : decode cX2_movement 59 = .ok (.iload_n 2, 1) := by decide +kernel
theorem dX2_movement_60 : decode cX2_movement 60 = .ok (.iload_n 3, 1) := by decide +kernel
theorem dX2_movement_61 : decode cX2_movement 61 = .ok (.invokevirtual 58, 3) := by decide +kernel
theorem dX2_movement_64 : decode cX2_movement 64 = .ok (.iload 4, 2) := by decide +kernel
theorem dX2_movement_66 : decode cX2_movement 66 = .ok (.i2f, 1) := by decide +kernel
theorem dX2_movement_67 : decode cX2_movement 67 = .ok (.invokestatic 52, 3) := by decide +kernel
theorem dX2_movement_70 : decode cX2_movement 70 = .ok (.freturn, 1) := by decide +kernel
theorem dX2_movement_71 : decode cX2_movement 71 = .ok (.iload 4, 2) := by decide +kernel
theorem dX2_movement_73 : decode cX2_movement 73 = .ok (.i2f, 1) := by decide +kernel
theorem dX2_movement_74 : decode cX2_movement 74 = .ok (.aload_n 0, 1) := by decide +kernel
theorem dX2_movement_75 : decode cX2_movement 75 = .ok (.iload_n 1, 1) := by decide +kernel
theorem dX2_movement_76 : decode cX2_movement 76 = .ok (.iload_n 3, 1) := by decide +kernel
theorem dX2_movement_77 : decode cX2_movement 77 = .ok (.iload_n 2, 1) := by decide +kernel
theorem dX2_movement_78 : decode cX2_movement 78 = .ok (.invokevirtual 58, 3) := by decide +kernel
theorem dX2_movement_81 : decode cX2_movement 81 = .ok (.invokestatic 52, 3) := by decide +kernel
theorem dX2_movement_84 : decode cX2_movement 84 = .ok (.freturn, 1) := by decide +kernel
set_option maxRecDepth 20000 in
theorem ggX2_sumOfPrices_X2_isMatched : GoodIn wsX2_sumOfPrices wsX2_isMatched := goodIn_r _ [7, 1, 8, 9, 10, 11, 12, 29, 30, 31, 32, 33, 34, 35, 36, 37, 38, 39, 40, 41] (by decide +kernel) (by decide +kernel)
set_option maxRecDepth 20000 in
theorem gX2_sumOfPrices_X2_isMatched : GoodIn wsX2_sumOfPrices (wsV RX2 37 RX2 yX2_isMatched wsX2_isMatched) := goodIn_app (goodIn_of _ (by decide +kernel)) ggX2_sumOfPrices_X2_isMatched
set_option maxRecDepth 20000 in
theorem ggX2_sumOfPrices_X2_get : GoodIn wsX2_sumOfPrices wsX2_get := goodIn_r _ [16, 17, 10, 11, 12, 29, 30, 31] (by decide +kernel) (by decide +kernel)
set_option maxRecDepth 20000 in
theorem gX2_sumOfPrices_X2_get : GoodIn wsX2_sumOfPrices (wsV RX2 62 RX2 yX2_get wsX2_get) := goodIn_app (goodIn_of _ (by decide +kernel)) ggX2_sumOfPrices_X2_get
set_option maxRecDepth 20000 in
theorem ggX2_sumOfPrices_X5_plus : GoodIn wsX2_sumOfPrices wsX5_plus := goodIn_r _ [21, 22, 23, 20, 24, 25, 26, 27, 28] (by decide +kernel) (by decide +kernel)
set_option maxRecDepth 20000 in
theorem gX2_sumOfPrices_X5_plus : GoodIn wsX2_sumOfPrices (va_wsS RX2 66 yX5_plus wsX5_plus) := goodIn_app (goodIn_of _ (by decide +kernel)) ggX2_sumOfPrices_X5_plus
theorem dX2_sumOfPrices_0 : decode cX2_sumOfPrices 0 = .ok (.fconst 0, 1) := by decide +kernel
theorem dX2_sumOfPrices_1 : decode cX2_sumOfPrices 1 = .ok (.fstore 5, 2) := by decide +kernel
theorem dX2_sumOfPrices_3 : decode cX2_sumOfPrices 3 = .ok (.iconst 0, 1) := by decide +kernel
theorem dX2_sumOfPrices_4 : decode cX2_sumOfPrices 4 = .ok (.istore 6, 2) := by decide +kernel
theorem dX2_sumOfPrices_6 : decode cX2_sumOfPrices 6 = .ok (.iload 6, 2) := by decide +kernel
theorem dX2_sumOfPrices_8 : decode cX2_sumOfPrices 8 = .ok (.aload_n 0, 1) := by decide +kernel
theorem dX2_sumOfPrices_9 : decode cX2_sumOfPrices 9 = .ok (.getfield 19, 3) := by decide +kernel
theorem dX2_sumOfPrices_12 : decode cX2_sumOfPrices 12 = .ok (.getfield 33, 3) := by decide +kernel
theorem dX2_sumOfPrices_15 : decode cX2_sumOfPrices 15 = .ok (.if_icmp .ge 36, 3) := by decide +kernel
theorem dX2_sumOfPrices_18 : decode cX2_sumOfPrices 18 = .ok (.aload_n 0, 1) := by decide +kernel
theorem dX2_sumOfPrices_19 : decode cX2_sumOfPrices 19 = .ok (.iload 6, 2) := by decide +kernel
theorem dX2_sumOfPrices_21 : decode cX2_sumOfPrices 21 = .ok (.iload_n 1, 1) := by decide +kernel
theorem dX2_sumOfPrices_22 : decode cX2_sumOfPrices 22 = .ok (.iload_n 2, 1) := by decide +kernel
theorem dX2_sumOfPrices_23 : decode cX2_sumOfPrices 23 = .ok (.iload_n 3, 1) := by decide +kernel
theorem dX2_sumOfPrices_24 : decode cX2_sumOfPrices 24 = .ok (.invokevirtual 37, 3) := by decide +kernel
theorem dX2_sumOfPrices_27 : decode cX2_sumOfPrices 27 = .ok (.ifCond .eq 18, 3) := by decide +kernel
theorem dX2_sumOfPrices_30 : decode cX2_sumOfPrices 30 = .ok (.fload 5, 2) := by decide +kernel
theorem dX2_sumOfPrices_32 : decode cX2_sumOfPrices 32 = .ok (.aload_n 0, 1) := by decide +kernel
theorem dX2_sumOfPrices_33 : decode cX2_sumOfPrices 33 = .ok (.iload 6, 2) := by decide +kernel
theorem dX2_sumOfPrices_35 : decode cX2_sumOfPrices 35 = .ok (.iload 4, 2) := by decide +kernel
theorem dX2_sumOfPrices_37 : decode cX2_sumOfPrices 37 = .ok (.invokevirtual 62, 3) := by decide +kernel
theorem dX2_sumOfPrices_40 : decode cX2_sumOfPrices 40 = .ok (.invokestatic 66, 3) := by decide +kernel
theorem dX2_sumOfPrices_43 : decode cX2_sumOfPrices 43 = .ok (.fstore 5, 2) := by decide +kernel
theorem dX2_sumOfPrices_45 : decode cX2_sumOfPrices 45 = .ok (.iinc 6 1, 3) := by decide +kernel
theorem dX2_sumOfPrices_48 : decode cX2_sumOfPrices 48 = .ok (.goto (-42), 3) := by decide +kernel
theorem dX2_sumOfPrices_51 : decode cX2_sumOfPrices 51 = .ok (.fload 5, 2) := by decide +kernel
theorem dX2_sumOfPrices_53 : decode cX2_sumOfPrices 53 = .ok (.freturn, 1) := by decide +kernel
set_option maxRecDepth 20000 in
theorem ggX2_sumOfRatios_X2_isMatched : GoodIn wsX2_sumOfRatios wsX2_isMatched := goodIn_r _ [7, 1, 8, 9, 10, 11, 12, 36, 37, 38, 39, 40, 41, 42, 43, 44, 45, 46, 47, 48] (by decide +kernel) (by decide +kernel)
set_option maxRecDepth 20000 in
theorem gX2_sumOfRatios_X2_isMatched : GoodIn wsX2_sumOfRatios (wsV RX2 37 RX2 yX2_isMatched wsX2_isMatched) := goodIn_app (goodIn_of _ (by decide +kernel)) ggX2_sumOfRatios_X2_isMatched
set_option maxRecDepth 20000 in
theorem ggX2_sumOfRatios_X2_get : GoodIn wsX2_sumOfRatios wsX2_get := goodIn_r _ [16, 17, 10, 11, 12, 36, 37, 38] (by decide +kernel) (by decide +kernel)
set_option maxRecDepth 20000 in
theorem gX2_sumOfRatios_X2_get : GoodIn wsX2_sumOfRatios (wsV RX2 62 RX2 yX2_get wsX2_get) := goodIn_app (goodIn_of _ (by decide +kernel)) ggX2_sumOfRatios_X2_get
set_option maxRecDepth 20000 in
theorem ggX2_sumOfRatios_X5_over : GoodIn wsX2_sumOfRatios wsX5_over := goodIn_r _ [21, 22, 23, 20, 24, 25, 26, 27, 28, 29, 30, 31, 32] (by decide +kernel) (by decide +kernel)
set_option maxRecDepth 20000 in
theorem gX2_sumOfRatios_X5_over : GoodIn wsX2_sumOfRatios (va_wsS RX2 52 yX5_over wsX5_over) := goodIn_app (goodIn_of _ (by decide +kernel)) ggX2_sumOfRatios_X5_over
set_option maxRecDepth 20000 in
theorem ggX2_sumOfRatios_X5_plus : GoodIn wsX2_sumOfRatios wsX5_plus := goodIn_r _ [35, 22, 23, 20, 24, 29, 30, 31, 32] (by decide +kernel) (by decide +kernel)
set_option maxRecDepth 20000 in
theorem gX2_sumOfRatios_X5_plus : GoodIn wsX2_sumOfRatios (va_wsS RX2 66 yX5_plus wsX5_plus) := goodIn_app (goodIn_of _ (by decide +kernel)) ggX2_sumOfRatios_X5_plus
theorem dX2_sumOfRatios_0 : decode cX2_sumOfRatios 0 = .ok (.fconst 0, 1) := by decide +kernel
theorem dX2_sumOfRatios_1 : decode cX2_sumOfRatios 1 = .ok (.fstore 4, 2) := by decide +kernel
theorem dX2_sumOfRatios_3 : decode cX2_sumOfRatios 3 = .ok (.iconst 0, 1) := by decide +kernel
theorem dX2_sumOfRatios_4 : decode cX2_sumOfRatios 4 = .ok (.istore 5, 2) := by decide +kernel
theorem dX2_sumOfRatios_6 : decode cX2_sumOfRatios 6 = .ok (.iload 5, 2) := by decide +kernel
theorem dX2_sumOfRatios_8 : decode cX2_sumOfRatios 8 = .ok (.aload_n 0, 1) := by decide +kernel
theorem dX2_sumOfRatios_9 : decode cX2_sumOfRatios 9 = .ok (.getfield 19, 3) := by decide +kernel
theorem dX2_sumOfRatios_12 : decode cX2_sumOfRatios 12 = .ok (.getfield 33, 3) := by decide +kernel
theorem dX2_sumOfRatios_15 : decode cX2_sumOfRatios 15 = .ok (.if_icmp .ge 45, 3) := by decide +kernel
theorem dX2_sumOfRatios_18 : decode cX2_sumOfRatios 18 = .ok (.aload_n 0, 1) := by decide +kernel
theorem dX2_sumOfRatios_19 : decode cX2_sumOfRatios 19 = .ok (.iload 5, 2) := by decide +kernel
theorem dX2_sumOfRatios_21 : decode cX2_sumOfRatios 21 = .ok (.iload_n 1, 1) := by decide +kernel
theorem dX2_sumOfRatios_22 : decode cX2_sumOfRatios 22 = .ok (.iload_n 2, 1) := by decide +kernel
theorem dX2_sumOfRatios_23 : decode cX2_sumOfRatios 23 = .ok (.iload_n 3, 1) := by decide +kernel
theorem dX2_sumOfRatios_24 : decode cX2_sumOfRatios 24 = .ok (.invokevirtual 37, 3) := by decide +kernel
theorem dX2_sumOfRatios_27 : decode cX2_sumOfRatios 27 = .ok (.ifCond .eq 27, 3) := by decide +kernel
theorem dX2_sumOfRatios_30 : decode cX2_sumOfRatios 30 = .ok (.fload 4, 2) := by decide +kernel
theorem dX2_sumOfRatios_32 : decode cX2_sumOfRatios 32 = .ok (.aload_n 0, 1) := by decide +kernel
theorem dX2_sumOfRatios_33 : decode cX2_sumOfRatios 33 = .ok (.iload 5, 2) := by decide +kernel
theorem dX2_sumOfRatios_35 : decode cX2_sumOfRatios 35 = .ok (.iload_n 3, 1) := by decide +kernel
theorem dX2_sumOfRatios_36 : decode cX2_sumOfRatios 36 = .ok (.invokevirtual 62, 3) := by decide +kernel
theorem dX2_sumOfRatios_39 : decode cX2_sumOfRatios 39 = .ok (.aload_n 0, 1) := by decide +kernel
theorem dX2_sumOfRatios_40 : decode cX2_sumOfRatios 40 = .ok (.iload 5, 2) := by decide +kernel
theorem dX2_sumOfRatios_42 : decode cX2_sumOfRatios 42 = .ok (.iload_n 2, 1) := by decide +kernel
theorem dX2_sumOfRatios_43 : decode cX2_sumOfRatios 43 = .ok (.invokevirtual 62, 3) := by decide +kernel
theorem dX2_sumOfRatios_46 : decode cX2_sumOfRatios 46 = .ok (.invokestatic 52, 3) := by decide +kernel
theorem dX2_sumOfRatios_49 : decode cX2_sumOfRatios 49 = .ok (.invokestatic 66, 3) := by decide +kernel
theorem dX2_sumOfRatios_52 : decode cX2_sumOfRatios 52 = .ok (.fstore 4, 2) := by decide +kernel
theorem dX2_sumOfRatios_54 : decode cX2_sumOfRatios 54 = .ok (.iinc 5 1, 3) := by decide +kernel
theorem dX2_sumOfRatios_57 : decode cX2_sumOfRatios 57 = .ok (.goto (-51), 3) := by decide +kernel
theorem dX2_sumOfRatios_60 : decode cX2_sumOfRatios 60 = .ok (.fload 4, 2) := by decide +kernel
theorem dX2_sumOfRatios_62 : decode cX2_sumOfRatios 62 = .ok (.freturn, 1) := by decide +kernel
set_option maxRecDepth 20000 in
theorem ggX2_steepest_X2_isMatched : GoodIn wsX2_steepest wsX2_isMatched := goodIn_r _ [7, 1, 8, 9, 10, 11, 12, 33, 34, 35, 36, 37, 38, 39, 40, 41, 42, 43, 44, 45] (by decide +kernel) (by decide +kernel)
set_option maxRecDepth 20000 in
theorem gX2_steepest_X2_isMatched : GoodIn wsX2_steepest (wsV RX2 37 RX2 yX2_isMatched wsX2_isMatched) := goodIn_app (goodIn_of _ (by decide +kernel)) ggX2_steepest_X2_isMatched
set_option maxRecDepth 20000 in
theorem ggX2_steepest_X2_get : GoodIn wsX2_steepest wsX2_get := goodIn_r _ [16, 17, 10, 11, 12, 33, 34, 35] (by decide +kernel) (by decide +kernel)
set_option maxRecDepth 20000 in
theorem gX2_steepest_X2_get : GoodIn wsX2_steepest (wsV RX2 62 RX2 yX2_get wsX2_get) := goodIn_app (goodIn_of _ (by decide +kernel)) ggX2_steepest_X2_get
set_option maxRecDepth 20000 in
theorem ggX2_steepest_X5_over : GoodIn wsX2_steepest wsX5_over := goodIn_r _ [21, 22, 23, 20, 24, 25, 26, 27, 28, 29, 30, 31, 32] (by decide +kernel) (by decide +kernel)
set_option maxRecDepth 20000 in
theorem gX2_steepest_X5_over : GoodIn wsX2_steepest (va_wsS RX2 52 yX5_over wsX5_over) := goodIn_app (goodIn_of _ (by decide +kernel)) ggX2_steepest_X5_over
theorem dX2_steepest_0 : decode cX2_steepest 0 = .ok (.iconst (-1), 1) := by decide +kernel
theorem dX2_steepest_1 : decode cX2_steepest 1 = .ok (.istore 4, 2) := by decide +kernel
theorem dX2_steepest_3 : decode cX2_steepest 3 = .ok (.fconst 0, 1) := by decide +kernel
theorem dX2_steepest_4 : decode cX2_steepest 4 = .ok (.fstore 5, 2) := by decide +kernel
theorem dX2_steepest_6 : decode cX2_steepest 6 = .ok (.iconst 0, 1) := by decide +kernel
theorem dX2_steepest_7 : decode cX2_steepest 7 = .ok (.istore 6, 2) := by decide +kernel
theorem dX2_steepest_9 : decode cX2_steepest 9 = .ok (.iload 6, 2) := by decide +kernel
theorem dX2_steepest_11 : decode cX2_steepest 11 = .ok (.aload_n 0, 1) := by decide +kernel
theorem dX2_steepest_12 : decode cX2_steepest 12 = .ok (.getfield 19, 3) := by decide +kernel
theorem dX2_steepest_15 : decode cX2_steepest 15 = .ok (.getfield 33, 3) := by decide +kernel
theorem dX2_steepest_18 : decode cX2_steepest 18 = .ok (.if_icmp .ge 62, 3) := by decide +kernel
theorem dX2_steepest_21 : decode cX2_steepest 21 = .ok (.aload_n 0, 1) := by decide +kernel
theorem dX2_steepest_22 : decode cX2_steepest 22 = .ok (.iload 6, 2) := by decide +kernel
theorem dX2_steepest_24 : decode cX2_steepest 24 = .ok (.iload_n 1, 1) := by decide +kernel
theorem dX2_steepest_25 : decode cX2_steepest 25 = .ok (.iload_n 2, 1) := by decide +kernel
theorem dX2_steepest_26 : decode cX2_steepest 26 = .ok (.iload_n 3, 1) := by decide +kernel
theorem dX2_steepest_27 : decode cX2_steepest 27 = .ok (.invokevirtual 37, 3) := by decide +kernel
theorem dX2_steepest_30 : decode cX2_steepest 30 = .ok (.ifCond .eq 44, 3) := by decide +kernel
theorem dX2_steepest_33 : decode cX2_steepest 33 = .ok (.aload_n 0, 1) := by decide +kernel
theorem dX2_steepest_34 : decode cX2_steepest 34 = .ok (.iload 6, 2) := by decide +kernel
theorem dX2_steepest_36 : decode cX2_steepest 36 = .ok (.iload_n 3, 1) := by decide +kernel
theorem dX2_steepest_37 : decode cX2_steepest 37 = .ok (.invokevirtual 62, 3) := by decide +kernel
theorem dX2_steepest_40 : decode cX2_steepest 40 = .ok (.aload_n 0, 1) := by decide +kernel
theorem dX2_steepest_41 : decode cX2_steepest 41 = .ok (.iload 6, 2) := by decide +kernel
theorem dX2_steepest_43 : decode cX2_steepest 43 = .ok (.iload_n 2, 1) := by decide +kernel
theorem dX2_steepest_44 : decode cX2_steepest 44 = .ok (.invokevirtual 62, 3) := by decide +kernel
theorem dX2_steepest_47 : decode cX2_steepest 47 = .ok (.invokestatic 52, 3) := by decide +kernel
theorem dX2_steepest_50 : decode cX2_steepest 50 = .ok (.fstore 7, 2) := by decide +kernel
theorem dX2_steepest_52 : decode cX2_steepest 52 = .ok (.iload 4, 2) := by decide +kernel
theorem dX2_steepest_54 : decode cX2_steepest 54 = .ok (.iconst (-1), 1) := by decide +kernel
theorem dX2_steepest_55 : decode cX2_steepest 55 = .ok (.if_icmp .eq 11, 3) := by decide +kernel
theorem dX2_steepest_58 : decode cX2_steepest 58 = .ok (.fload 7, 2) := by decide +kernel
theorem dX2_steepest_60 : decode cX2_steepest 60 = .ok (.fload 5, 2) := by decide +kernel
theorem dX2_steepest_62 : decode cX2_steepest 62 = .ok (.fcmp .l, 1) := by decide +kernel
theorem dX2_steepest_63 : decode cX2_steepest 63 = .ok (.ifCond .le 11, 3) := by decide +kernel
theorem dX2_steepest_66 : decode cX2_steepest 66 = .ok (.iload 6, 2) := by decide +kernel
theorem dX2_steepest_68 : decode cX2_steepest 68 = .ok (.istore 4, 2) := by decide +kernel
theorem dX2_steepest_70 : decode cX2_steepest 70 = .ok (.fload 7, 2) := by decide +kernel
theorem dX2_steepest_72 : decode cX2_steepest 72 = .ok (.fstore 5, 2) := by decide +kernel
theorem dX2_steepest_74 : decode cX2_steepest 74 = .ok (.iinc 6 1, 3) := by decide +kernel
theorem dX2_steepest_77 : decode cX2_steepest 77 = .ok (.goto (-68), 3) := by decide +kernel
theorem dX2_steepest_80 : decode cX2_steepest 80 = .ok (.iload 4, 2) := by decide +kernel
theorem dX2_steepest_82 : decode cX2_steepest 82 = .ok (.ireturn, 1) := by decide +kernel
set_option maxRecDepth 20000 in
theorem ggX3_init_X2_init : GoodIn wsX3_init wsX2_init := goodIn_r _ [12, 13, 2, 3, 14, 15, 16, 17, 18, 23, 24, 25] (by decide +kernel) (by decide +kernel)
set_option maxRecDepth 20000 in
theorem gX3_init_X2_init : GoodIn wsX3_init (wsX2_init) := ggX3_init_X2_init
end
section
theorem dX3_init_0 : decode cX3_init 0 = .ok (.aload_n 0, 1) := by decide +kernel
theorem dX3_init_1 : decode cX3_init 1 = .ok (.invokespecial 3, 3) := by decide +kernel
theorem dX3_init_4 : decode cX3_init 4 = .ok (.aload_n 0, 1) := by decide +kernel
theorem dX3_init_5 : decode cX3_init 5 = .ok (.aload_n 1, 1) := by decide +kernel
theorem dX3_init_6 : decode cX3_init 6 = .ok (.putfield 9, 3) := by decide +kernel
theorem dX3_init_9 : decode cX3_init 9 = .ok (.aload_n 0, 1) := by decide +kernel
theorem dX3_init_10 : decode cX3_init 10 = .ok (.new 15, 3) := by decide +kernel
theorem dX3_init_13 : decode cX3_init 13 = .ok (.dup, 1) := by decide +kernel
theorem dX3_init_14 : decode cX3_init 14 = .ok (.aload_n 1, 1) := by decide +kernel
theorem dX3_init_15 : decode cX3_init 15 = .ok (.invokespecial 17, 3) := by decide +kernel
theorem dX3_init_18 : decode cX3_init 18 = .ok (.putfield 20, 3) := by decide +kernel
theorem dX3_init_21 : decode cX3_init 21 = .ok (.aload_n 0, 1) := by decide +kernel
theorem dX3_init_22 : decode cX3_init 22 = .ok (.new 15, 3) := by decide +kernel
theorem dX3_init_25 : decode cX3_init 25 = .ok (.dup, 1) := by decide +kernel
theorem dX3_init_26 : decode cX3_init 26 = .ok (.aload_n 1, 1) := by decide +kernel
theorem dX3_init_27 : decode cX3_init 27 = .ok (.invokespecial 17, 3) := by decide +kernel
theorem dX3_init_30 : decode cX3_init 30 = .ok (.putfield 24, 3) := by decide +kernel
theorem dX3_init_33 : decode cX3_init 33 = .ok (.return_, 1) := by decide +kernel
theorem dX3_outdate_0 : decode cX3_outdate 0 = .ok (.aload_n 0, 1) := by decide +kernel
theorem dX3_outdate_1 : decode cX3_outdate 1 = .ok (.iconst 0, 1) := by decide +kernel
theorem dX3_outdate_2 : decode cX3_outdate 2 = .ok (.putfield 27, 3) := by decide +kernel
theorem dX3_outdate_5 : decode cX3_outdate 5 = .ok (.return_, 1) := by decide +kernel
set_option maxRecDepth 20000 in
theorem ggX3_refresh_X3_fillEffective : GoodIn wsX3_refresh wsX3_fillEffective := goodIn_r _ [8, 2, 9, 10, 11, 12, 13, 14, 15, 16, 17, 18, 19, 20, 21, 22, 23, 24, 25, 26, 27, 28, 29, 30, 31, 32, 33, 34, 35, 36, 37, 38, 39, 40, 41, 42, 43, 44, 45, 46, 47, 48, 49, 50, 51, 52, 53, 54, 55, 56, 57, 58, 59, 60, 61, 62, 63, 64, 65, 66, 67, 68, 117, 118, 119, 120, 121, 122, 123, 124, 125, 126, 127, 128, 129, 130, 131, 132, 133] (by decide +kernel) (by decide +kernel)
set_option maxRecDepth 20000 in
theorem gX3_refresh_X3_fillEffective : GoodIn wsX3_refresh (wsV RX3 37 RX3 yX3_fillEffective wsX3_fillEffective) := goodIn_app (goodIn_of _ (by decide +kernel)) ggX3_refresh_X3_fillEffective
set_option maxRecDepth 20000 in
theorem ggX3_refresh_X3_fillKnown : GoodIn wsX3_refresh wsX3_fillKnown := goodIn_r _ [72, 9, 2, 3, 73, 74, 75, 76, 61, 77, 78, 79, 80, 81, 82, 83, 84, 85, 86, 87, 88, 89, 63, 28, 29, 30, 90, 91, 92, 93, 94, 95, 96, 97, 64, 98, 99, 42, 100, 44, 45, 46, 51, 52, 53, 54, 101, 41, 43, 47, 48, 49, 50, 102, 103, 104, 105, 106, 107, 108, 7, 109, 110, 111, 112, 113, 114, 115, 58, 59, 60, 62, 116, 56, 57, 65, 66, 67, 68, 117, 118, 119, 120, 121, 122, 123, 124, 125, 126, 127, 128, 129, 130, 131, 132, 133] (by decide +kernel) (by decide +kernel)
set_option maxRecDepth 20000 in
theorem gX3_refresh_X3_fillKnown : GoodIn wsX3_refresh (wsV RX3 41 RX3 yX3_fillKnown wsX3_fillKnown) := goodIn_app (goodIn_of _ (by decide +kernel)) ggX3_refresh_X3_fillKnown
theorem dX3_refresh_0 : decode cX3_refresh 0 = .ok (.aload_n 0, 1) := by decide +kernel
theorem dX3_refresh_1 : decode cX3_refresh 1 = .ok (.getfield 27, 3) := by decide +kernel
theorem dX3_refresh_4 : decode cX3_refresh 4 = .ok (.ifCond .eq 4, 3) := by decide +kernel
theorem dX3_refresh_7 : decode cX3_refresh 7 = .ok (.return_, 1) := by decide +kernel
theorem dX3_refresh_8 : decode cX3_refresh 8 = .ok (.iconst 0, 1) := by decide +kernel
theorem dX3_refresh_9 : decode cX3_refresh 9 = .ok (.istore_n 1, 1) := by decide +kernel
theorem dX3_refresh_10 : decode cX3_refresh 10 = .ok (.iload_n 1, 1) := by decide +kernel
theorem dX3_refresh_11 : decode cX3_refresh 11 = .ok (.aload_n 0, 1) := by decide +kernel
theorem dX3_refresh_12 : decode cX3_refresh 12 = .ok (.getfield 9, 3) := by decide +kernel
theorem dX3_refresh_15 : decode cX3_refresh 15 = .ok (.getfield 31, 3) := by decide +kernel
theorem dX3_refresh_18 : decode cX3_refresh 18 = .ok (.if_icmp .ge 14, 3) := by decide +kernel
theorem dX3_refresh_21 : decode cX3_refresh 21 = .ok (.aload_n 0, 1) := by decide +kernel
theorem dX3_refresh_22 : decode cX3_refresh 22 = .ok (.iload_n 1, 1) := by decide +kernel
theorem dX3_refresh_23 : decode cX3_refresh 23 = .ok (.invokevirtual 37, 3) := by decide +kernel
theorem dX3_refresh_26 : decode cX3_refresh 26 = .ok (.iinc 1 1, 3) := by decide +kernel
theorem dX3_refresh_29 : decode cX3_refresh 29 = .ok (.goto (-19), 3) := by decide +kernel
theorem dX3_refresh_32 : decode cX3_refresh 32 = .ok (.iconst 0, 1) := by decide +kernel
theorem dX3_refresh_33 : decode cX3_refresh 33 = .ok (.istore_n 1, 1) := by decide +kernel
theorem dX3_refresh_34 : decode cX3_refresh 34 = .ok (.iload_n 1, 1) := by decide +kernel
theorem dX3_refresh_35 : decode cX3_refresh 35 = .ok (.iconst 4, 1) := by decide +kernel
theorem dX3_refresh_36 : decode cX3_refresh 36 = .ok (.if_icmp .ge 14, 3) := by decide +kernel
theorem dX3_refresh_39 : decode cX3_refresh 39 = .ok (.aload_n 0, 1) := by decide +kernel
theorem dX3_refresh_40 : decode cX3_refresh 40 = .ok (.iload_n 1, 1) := by decide +kernel
theorem dX3_refresh_41 : decode cX3_refresh 41 = .ok (.invokevirtual 41, 3) := by decide +kernel
theorem dX3_refresh_44 : decode cX3_refresh 44 = .ok (.iinc 1 1, 3) := by decide +kernel
theorem dX3_refresh_47 : decode cX3_refresh 47 = .ok (.goto (-13), 3) := by decide +kernel
theorem dX3_refresh_50 : decode cX3_refresh 50 = .ok (.aload_n 0, 1) := by decide +kernel
theorem dX3_refresh_51 : decode cX3_refresh 51 = .ok (.iconst 1, 1) := by decide +kernel
theorem dX3_refresh_52 : decode cX3_refresh 52 = .ok (.putfield 27, 3) := by decide +kernel
theorem dX3_refresh_55 : decode cX3_refresh 55 = .ok (.return_, 1) := by decide +kernel
set_option maxRecDepth 20000 in
theorem ggX3_fillEffective_X0_hasEffective : GoodIn wsX3_fillEffective wsX0_hasEffective := goodIn_r _ [7, 8, 9, 10, 11, 12, 13, 6, 14, 15, 16, 17, 18, 19, 20, 21, 22, 23, 66, 67, 68, 69, 70, 71, 72, 73, 74, 75] (by decide +kernel) (by decide +kernel)
set_option maxRecDepth 20000 in
theorem gX3_fillEffective_X0_hasEffective : GoodIn wsX3_fillEffective (wsV RX3 44 RX0 yX0_hasEffective wsX0_hasEffective) := goodIn_app (goodIn_of _ (by decide +kernel)) ggX3_fillEffective_X0_hasEffective
set_option maxRecDepth 20000 in
theorem ggX3_fillEffective_X0_effective : GoodIn wsX3_fillEffective wsX0_effective := goodIn_r _ [27, 9, 10, 11, 12, 13, 6, 14, 28, 29, 30, 31, 20, 32, 21, 22, 23, 33, 34, 35, 36, 37, 38, 39, 40, 41, 42, 43, 44, 45, 46, 47, 48, 49, 50, 66, 67, 68, 69, 70, 71, 72, 73, 74, 75] (by decide +kernel) (by decide +kernel)
set_option maxRecDepth 20000 in
theorem gX3_fillEffective_X0_effective : GoodIn wsX3_fillEffective (wsV RX3 48 RX0 yX0_effective wsX0_effective) := goodIn_app (goodIn_of _ (by decide +kernel)) ggX3_fillEffective_X0_effective
set_option maxRecDepth 20000 in
theorem ggX3_fillEffective_X2_put : GoodIn wsX3_fillEffective wsX2_put := goodIn_r _ [55, 56, 57, 21, 22, 23, 76, 77, 78] (by decide +kernel) (by decide +kernel)
set_option maxRecDepth 20000 in
theorem gX3_fillEffective_X2_put : GoodIn wsX3_fillEffective (wsV RX3 51 RX2 yX2_put wsX2_put) := goodIn_app (goodIn_of _ (by decide +kernel)) ggX3_fillEffective_X2_put
set_option maxRecDepth 20000 in
theorem ggX3_fillEffective_X2_remove : GoodIn wsX3_fillEffective wsX2_remove := goodIn_r _ [61, 56, 21, 22, 23, 76, 77, 78] (by decide +kernel) (by decide +kernel)
set_option maxRecDepth 20000 in
theorem gX3_fillEffective_X2_remove : GoodIn wsX3_fillEffective (wsV RX3 55 RX2 yX2_remove wsX2_remove) := goodIn_app (goodIn_of _ (by decide +kernel)) ggX3_fillEffective_X2_remove
theorem dX3_fillEffective_0 : decode cX3_fillEffective 0 = .ok (.iconst 0, 1) := by decide +kernel
theorem dX3_fillEffective_1 : decode cX3_fillEffective 1 = .ok (.istore_n 2, 1) := by decide +kernel
theorem dX3_fillEffective_2 : decode cX3_fillEffective 2 = .ok (.iload_n 2, 1) := by decide +kernel
theorem dX3_fillEffective_3 : decode cX3_fillEffective 3 = .ok (.bipush 24, 2) := by decide +kernel
theorem dX3_fillEffective_5 : decode cX3_fillEffective 5 = .ok (.if_icmp .ge 51, 3) := by decide +kernel
theorem dX3_fillEffective_8 : decode cX3_fillEffective 8 = .ok (.aload_n 0, 1) := by decide +kernel
theorem dX3_fillEffective_9 : decode cX3_fillEffective 9 = .ok (.getfield 9, 3) := by decide +kernel
theorem dX3_fillEffective_12 : decode cX3_fillEffective 12 = .ok (.iload_n 1, 1) := by decide +kernel
theorem dX3_fillEffective_13 : decode cX3_fillEffective 13 = .ok (.iload_n 2, 1) := by decide +kernel
theorem dX3_fillEffective_14 : decode cX3_fillEffective 14 = .ok (.invokevirtual 44, 3) := by decide +kernel
theorem dX3_fillEffective_17 : decode cX3_fillEffective 17 = .ok (.ifCond .eq 24, 3) := by decide +kernel
theorem dX3_fillEffective_20 : decode cX3_fillEffective 20 = .ok (.aload_n 0, 1) := by decide +kernel
theorem dX3_fillEffective_21 : decode cX3_fillEffective 21 = .ok (.getfield 20, 3) := by decide +kernel
theorem dX3_fillEffective_24 : decode cX3_fillEffective 24 = .ok (.iload_n 1, 1) := by decide +kernel
theorem dX3_fillEffective_25 : decode cX3_fillEffective 25 = .ok (.iload_n 2, 1) := by decide +kernel
theorem dX3_fillEffective_26 : decode cX3_fillEffective 26 = .ok (.aload_n 0, 1) := by decide +kernel
theorem dX3_fillEffective_27 : decode cX3_fillEffective 27 = .ok (.getfield 9, 3) := by decide +kernel
theorem dX3_fillEffective_30 : decode cX3_fillEffective 30 = .ok (.iload_n 1, 1) := by decide +kernel
theorem dX3_fillEffective_31 : decode cX3_fillEffective 31 = .ok (.iload_n 2, 1) := by decide +kernel
theorem dX3_fillEffective_32 : decode cX3_fillEffective 32 = .ok (.invokevirtual 48, 3) := by decide +kernel
theorem dX3_fillEffective_35 : decode cX3_fillEffective 35 = .ok (.invokevirtual 51, 3) := by decide +kernel
theorem dX3_fillEffective_38 : decode cX3_fillEffective 38 = .ok (.goto 12, 3) := by decide +kernel
theorem dX3_fillEffective_41 : decode cX3_fillEffective 41 = .ok (.aload_n 0, 1) := by decide +kernel
theorem dX3_fillEffective_42 : decode cX3_fillEffective 42 = .ok (.getfield 20, 3) := by decide +kernel
theorem dX3_fillEffective_45 : decode cX3_fillEffective 45 = .ok (.iload_n 1, 1) := by decide +kernel
theorem dX3_fillEffective_46 : decode cX3_fillEffective 46 = .ok (.iload_n 2, 1) := by decide +kernel
theorem dX3_fillEffective_47 : decode cX3_fillEffective 47 = .ok (.invokevirtual 55, 3) := by decide +kernel
theorem dX3_fillEffective_50 : decode cX3_fillEffective 50 = .ok (.iinc 2 1, 3) := by decide +kernel
theorem dX3_fillEffective_53 : decode cX3_fillEffective 53 = .ok (.goto (-51), 3) := by decide +kernel
theorem dX3_fillEffective_56 : decode cX3_fillEffective 56 = .ok (.return_, 1) := by decide +kernel
set_option maxRecDepth 20000 in
theorem ggX3_fillKnown_X2_movement : GoodIn wsX3_fillKnown wsX2_movement := goodIn_r _ [9, 10, 11, 12, 13, 14, 8, 15, 16, 17, 18, 19, 20, 21, 22, 23, 24, 25, 26, 27, 28, 29, 30, 31, 32, 33, 34, 35, 36, 37, 38, 39, 40, 41, 42, 43, 44, 45, 46, 47, 48, 49, 50, 51, 52, 53, 54, 55, 56, 93, 94, 95, 83, 84, 85, 86, 87, 88, 89, 90, 91, 92] (by decide +kernel) (by decide +kernel)
set_option maxRecDepth 20000 in
theorem gX3_fillKnown_X2_movement : GoodIn wsX3_fillKnown (wsV RX3 59 RX2 yX2_movement wsX2_movement) := goodIn_app (goodIn_of _ (by decide +kernel)) ggX3_fillKnown_X2_movement
set_option maxRecDepth 20000 in
theorem ggX3_fillKnown_X3_fillKnownCell : GoodIn wsX3_fillKnown wsX3_fillKnownCell := goodIn_r _ [61, 1, 62, 63, 64, 65, 8, 66, 22, 23, 24, 25, 67, 31, 32, 33, 34, 68, 69, 70, 71, 72, 73, 37, 74, 39, 40, 41, 49, 50, 51, 52, 42, 43, 44, 45, 75, 76, 77, 78, 79, 80, 81, 82, 93, 94, 95] (by decide +kernel) (by decide +kernel)
set_option maxRecDepth 20000 in
theorem gX3_fillKnown_X3_fillKnownCell : GoodIn wsX3_fillKnown (wsV RX3 67 RX3 yX3_fillKnownCell wsX3_fillKnownCell) := goodIn_app (goodIn_of _ (by decide +kernel)) ggX3_fillKnown_X3_fillKnownCell
theorem dX3_fillKnown_0 : decode cX3_fillKnown 0 = .ok (.iconst 0, 1) := by decide +kernel
theorem dX3_fillKnown_1 : decode cX3_fillKnown 1 = .ok (.istore_n 2, 1) := by decide +kernel
theorem dX3_fillKnown_2 : decode cX3_fillKnown 2 = .ok (.iload_n 2, 1) := by decide +kernel
theorem dX3_fillKnown_3 : decode cX3_fillKnown 3 = .ok (.bipush 24, 2) := by decide +kernel
theorem dX3_fillKnown_5 : decode cX3_fillKnown 5 = .ok (.if_icmp .ge 73, 3) := by decide +kernel
theorem dX3_fillKnown_8 : decode cX3_fillKnown 8 = .ok (.iload_n 2, 1) := by decide +kernel
theorem dX3_fillKnown_9 : decode cX3_fillKnown 9 = .ok (.ifCond .ne 7, 3) := by decide +kernel
theorem dX3_fillKnown_12 : decode cX3_fillKnown 12 = .ok (.fconst 1, 1) := by decide +kernel
theorem dX3_fillKnown_13 : decode cX3_fillKnown 13 = .ok (.goto 15, 3) := by decide +kernel
theorem dX3_fillKnown_16 : decode cX3_fillKnown 16 = .ok (.aload_n 0, 1) := by decide +kernel
theorem dX3_fillKnown_17 : decode cX3_fillKnown 17 = .ok (.getfield 20, 3) := by decide +kernel
theorem dX3_fillKnown_20 : decode cX3_fillKnown 20 = .ok (.iload_n 1, 1) := by decide +kernel
theorem dX3_fillKnown_21 : decode cX3_fillKnown 21 = .ok (.iload_n 2, 1) := by decide +kernel
theorem dX3_fillKnown_22 : decode cX3_fillKnown 22 = .ok (.iconst 1, 1) := by decide +kernel
theorem dX3_fillKnown_23 : decode cX3_fillKnown 23 = .ok (.isub, 1) := by decide +kernel
theorem dX3_fillKnown_24 : decode cX3_fillKnown 24 = .ok (.iload_n 2, 1) := by decide +kernel
theorem dX3_fillKnown_25 : decode cX3_fillKnown 25 = .ok (.invokevirtual 59, 3) := by decide +kernel
theorem dX3_fillKnown_28 : decode cX3_fillKnown 28 = .ok (.fstore_n 3, 1) := by decide +kernel
theorem dX3_fillKnown_29 : decode cX3_fillKnown 29 = .ok (.iconst 0, 1) := by decide +kernel
theorem dX3_fillKnown_30 : decode cX3_fillKnown 30 = .ok (.istore 4, 2) := by decide +kernel
theorem dX3_fillKnown_32 : decode cX3_fillKnown 32 = .ok (.iload 4, 2) := by decide +kernel
theorem dX3_fillKnown_34 : decode cX3_fillKnown 34 = .ok (.aload_n 0, 1) := by decide +kernel
theorem dX3_fillKnown_35 : decode cX3_fillKnown 35 = .ok (.getfield 9, 3) := by decide +kernel
theorem dX3_fillKnown_38 : decode cX3_fillKnown 38 = .ok (.getfield 31, 3) := by decide +kernel
theorem dX3_fillKnown_41 : decode cX3_fillKnown 41 = .ok (.if_icmp .ge 31, 3) := by decide +kernel
theorem dX3_fillKnown_44 : decode cX3_fillKnown 44 = .ok (.aload_n 0, 1) := by decide +kernel
theorem dX3_fillKnown_45 : decode cX3_fillKnown 45 = .ok (.getfield 9, 3) := by decide +kernel
theorem dX3_fillKnown_48 : decode cX3_fillKnown 48 = .ok (.getfield 63, 3) := by decide +kernel
theorem dX3_fillKnown_51 : decode cX3_fillKnown 51 = .ok (.iload 4, 2) := by decide +kernel
theorem dX3_fillKnown_53 : decode cX3_fillKnown 53 = .ok (.iaload, 1) := by decide +kernel
theorem dX3_fillKnown_54 : decode cX3_fillKnown 54 = .ok (.iload_n 1, 1) := by decide +kernel
theorem dX3_fillKnown_55 : decode cX3_fillKnown 55 = .ok (.if_icmp .ne 11, 3) := by decide +kernel
theorem dX3_fillKnown_58 : decode cX3_fillKnown 58 = .ok (.aload_n 0, 1) := by decide +kernel
theorem dX3_fillKnown_59 : decode cX3_fillKnown 59 = .ok (.iload 4, 2) := by decide +kernel
theorem dX3_fillKnown_61 : decode cX3_fillKnown 61 = .ok (.iload_n 2, 1) := by decide +kernel
theorem dX3_fillKnown_62 : decode cX3_fillKnown 62 = .ok (.fload_n 3, 1) := by decide +kernel
theorem dX3_fillKnown_63 : decode cX3_fillKnown 63 = .ok (.invokevirtual 67, 3) := by decide +kernel
theorem dX3_fillKnown_66 : decode cX3_fillKnown 66 = .ok (.iinc 4 1, 3) := by decide +kernel
theorem dX3_fillKnown_69 : decode cX3_fillKnown 69 = .ok (.goto (-37), 3) := by decide +kernel
theorem dX3_fillKnown_72 : decode cX3_fillKnown 72 = .ok (.iinc 2 1, 3) := by decide +kernel
theorem dX3_fillKnown_75 : decode cX3_fillKnown 75 = .ok (.goto (-73), 3) := by decide +kernel
theorem dX3_fillKnown_78 : decode cX3_fillKnown 78 = .ok (.return_, 1) := by decide +kernel
set_option maxRecDepth 20000 in
theorem ggX3_fillKnownCell_X2_has : GoodIn wsX3_fillKnownCell wsX2_has := goodIn_r _ [7, 8, 9, 10, 11, 44, 45, 46] (by decide +kernel) (by decide +kernel)
set_option maxRecDepth 20000 in
theorem gX3_fillKnownCell_X2_has : GoodIn wsX3_fillKnownCell (wsV RX3 70 RX2 yX2_has wsX2_has) := goodIn_app (goodIn_of _ (by decide +kernel)) ggX3_fillKnownCell_X2_has
set_option maxRecDepth 20000 in
theorem ggX3_fillKnownCell_X2_get : GoodIn wsX3_fillKnownCell wsX2_get := goodIn_r _ [15, 16, 9, 10, 11, 44, 45, 46] (by decide +kernel) (by decide +kernel)
set_option maxRecDepth 20000 in
theorem gX3_fillKnownCell_X2_get : GoodIn wsX3_fillKnownCell (wsV RX3 73 RX2 yX2_get wsX2_get) := goodIn_app (goodIn_of _ (by decide +kernel)) ggX3_fillKnownCell_X2_get
set_option maxRecDepth 20000 in
theorem ggX3_fillKnownCell_X2_put : GoodIn wsX3_fillKnownCell wsX2_put := goodIn_r _ [20, 8, 16, 9, 10, 11, 44, 45, 46] (by decide +kernel) (by decide +kernel)
set_option maxRecDepth 20000 in
theorem gX3_fillKnownCell_X2_put : GoodIn wsX3_fillKnownCell (wsV RX3 51 RX2 yX2_put wsX2_put) := goodIn_app (goodIn_of _ (by decide +kernel)) ggX3_fillKnownCell_X2_put
set_option maxRecDepth 20000 in
theorem ggX3_fillKnownCell_X5_times : GoodIn wsX3_fillKnownCell wsX5_times := goodIn_r _ [24, 25, 26, 23, 27, 28, 29, 30, 31, 32, 33, 34, 35] (by decide +kernel) (by decide +kernel)
set_option maxRecDepth 20000 in
theorem gX3_fillKnownCell_X5_times : GoodIn wsX3_fillKnownCell (va_wsS RX3 76 yX5_times wsX5_times) := goodIn_app (goodIn_of _ (by decide +kernel)) ggX3_fillKnownCell_X5_times
set_option maxRecDepth 20000 in
theorem ggX3_fillKnownCell_X2_remove : GoodIn wsX3_fillKnownCell wsX2_remove := goodIn_r _ [39, 8, 9, 10, 11, 44, 45, 46] (by decide +kernel) (by decide +kernel)
set_option maxRecDepth 20000 in
theorem gX3_fillKnownCell_X2_remove : GoodIn wsX3_fillKnownCell (wsV RX3 55 RX2 yX2_remove wsX2_remove) := goodIn_app (goodIn_of _ (by decide +kernel)) ggX3_fillKnownCell_X2_remove
theorem dX3_fillKnownCell_0 : decode cX3_fillKnownCell 0 = .ok (.aload_n 0, 1) := by decide +kernel
theorem dX3_fillKnownCell_1 : decode cX3_fillKnownCell 1 = .ok (.getfield 20, 3) := by decide +kernel
theorem dX3_fillKnownCell_4 : decode cX3_fillKnownCell 4 = .ok (.iload_n 1, 1) := by decide +kernel
theorem dX3_fillKnownCell_5 : decode cX3_fillKnownCell 5 = .ok (.iload_n 2, 1) := by decide +kernel
theorem dX3_fillKnownCell_6 : decode cX3_fillKnownCell 6 = .ok (.invokevirtual 70, 3) := by decide +kernel
theorem dX3_fillKnownCell_9 : decode cX3_fillKnownCell 9 = .ok (.ifCond .eq 24, 3) := by decide +kernel
theorem dX3_fillKnownCell_12 : decode cX3_fillKnownCell 12 = .ok (.aload_n 0, 1) := by decide +kernel
theorem dX3_fillKnownCell_13 : decode cX3_fillKnownCell 13 = .ok (.getfield 24, 3) := by decide +kernel
theorem dX3_fillKnownCell_16 : decode cX3_fillKnownCell 16 = .ok (.iload_n 1, 1) := by decide +kernel
theorem dX3_fillKnownCell_17 : decode cX3_fillKnownCell 17 = .ok (.iload_n 2, 1) := by decide +kernel
theorem dX3_fillKnownCell_18 : decode cX3_fillKnownCell 18 = .ok (.aload_n 0, 1) := by decide +kernel
theorem dX3_fillKnownCell_19 : decode cX3_fillKnownCell 19 = .ok (.getfield 20, 3) := by decide +kernel
theorem dX3_fillKnownCell_22 : decode cX3_fillKnownCell 22 = .ok (.iload_n 1, 1) := by decide +kernel
theorem dX3_fillKnownCell_23 : decode cX3_fillKnownCell 23 = .ok (.iload_n 2, 1) := by decide +kernel
theorem dX3_fillKnownCell_24 : decode cX3_fillKnownCell 24 = .ok (.invokevirtual 73, 3) := by decide +kernel
theorem dX3_fillKnownCell_27 : decode cX3_fillKnownCell 27 = .ok (.invokevirtual 51, 3) := by decide +kernel
theorem dX3_fillKnownCell_30 : decode cX3_fillKnownCell 30 = .ok (.goto 57, 3) := by decide +kernel
theorem dX3_fillKnownCell_33 : decode cX3_fillKnownCell 33 = .ok (.iload_n 2, 1) := by decide +kernel
theorem dX3_fillKnownCell_34 : decode cX3_fillKnownCell 34 = .ok (.ifCond .le 44, 3) := by decide +kernel
theorem dX3_fillKnownCell_37 : decode cX3_fillKnownCell 37 = .ok (.aload_n 0, 1) := by decide +kernel
theorem dX3_fillKnownCell_38 : decode cX3_fillKnownCell 38 = .ok (.getfield 24, 3) := by decide +kernel
theorem dX3_fillKnownCell_41 : decode cX3_fillKnownCell 41 = .ok (.iload_n 1, 1) := by decide +kernel
theorem dX3_fillKnownCell_42 : decode cX3_fillKnownCell 42 = .ok (.iload_n 2, 1) := by decide +kernel
theorem dX3_fillKnownCell_43 : decode cX3_fillKnownCell 43 = .ok (.iconst 1, 1) := by decide +kernel
theorem dX3_fillKnownCell_44 : decode cX3_fillKnownCell 44 = .ok (.isub, 1) := by decide +kernel
theorem dX3_fillKnownCell_45 : decode cX3_fillKnownCell 45 = .ok (.invokevirtual 70, 3) := by decide +kernel
theorem dX3_fillKnownCell_48 : decode cX3_fillKnownCell 48 = .ok (.ifCond .eq 30, 3) := by decide +kernel
theorem dX3_fillKnownCell_51 : decode cX3_fillKnownCell 51 = .ok (.aload_n 0, 1) := by decide +kernel
theorem dX3_fillKnownCell_52 : decode cX3_fillKnownCell 52 = .ok (.getfield 24, 3) := by decide +kernel
theorem dX3_fillKnownCell_55 : decode cX3_fillKnownCell 55 = .ok (.iload_n 1, 1) := by decide +kernel
theorem dX3_fillKnownCell_56 : decode cX3_fillKnownCell 56 = .ok (.iload_n 2, 1) := by decide +kernel
theorem dX3_fillKnownCell_57 : decode cX3_fillKnownCell 57 = .ok (.aload_n 0, 1) := by decide +kernel
theorem dX3_fillKnownCell_58 : decode cX3_fillKnownCell 58 = .ok (.getfield 24, 3) := by decide +kernel
theorem dX3_fillKnownCell_61 : decode cX3_fillKnownCell 61 = .ok (.iload_n 1, 1) := by decide +kernel
theorem dX3_fillKnownCell_62 : decode cX3_fillKnownCell 62 = .ok (.iload_n 2, 1) := by decide +kernel
theorem dX3_fillKnownCell_63 : decode cX3_fillKnownCell 63 = .ok (.iconst 1, 1) := by decide +kernel
theorem dX3_fillKnownCell_64 : decode cX3_fillKnownCell 64 = .ok (.isub, 1) := by decide +kernel
theorem dX3_fillKnownCell_65 : decode cX3_fillKnownCell 65 = .ok (.invokevirtual 73, 3) := by decide +kernel
theorem dX3_fillKnownCell_68 : decode cX3_fillKnownCell 68 = .ok (.fload_n 3, 1) := by decide +kernel
theorem dX3_fillKnownCell_69 : decode cX3_fillKnownCell 69 = .ok (.invokestatic 76, 3) := by decide +kernel
theorem dX3_fillKnownCell_72 : decode cX3_fillKnownCell 72 = .ok (.invokevirtual 51, 3) := by decide +kernel
theorem dX3_fillKnownCell_75 : decode cX3_fillKnownCell 75 = .ok (.goto 12, 3) := by decide +kernel
theorem dX3_fillKnownCell_78 : decode cX3_fillKnownCell 78 = .ok (.aload_n 0, 1) := by decide +kernel
theorem dX3_fillKnownCell_79 : decode cX3_fillKnownCell 79 = .ok (.getfield 24, 3) := by decide +kernel
theorem dX3_fillKnownCell_82 : decode cX3_fillKnownCell 82 = .ok (.iload_n 1, 1) := by decide +kernel
theorem dX3_fillKnownCell_83 : decode cX3_fillKnownCell 83 = .ok (.iload_n 2, 1) := by decide +kernel
theorem dX3_fillKnownCell_84 : decode cX3_fillKnownCell 84 = .ok (.invokevirtual 55, 3) := by decide +kernel
theorem dX3_fillKnownCell_87 : decode cX3_fillKnownCell 87 = .ok (.return_, 1) := by decide +kernel
set_option maxRecDepth 20000 in
theorem ggX3_hasImputed_X2_has : GoodIn wsX3_hasImputed wsX2_has := goodIn_r _ [7, 8, 9, 10, 11, 16, 17, 18] (by decide +kernel) (by decide +kernel)
set_option maxRecDepth 20000 in
theorem gX3_hasImputed_X2_has : GoodIn wsX3_hasImputed (wsV RX3 70 RX2 yX2_has wsX2_has) := goodIn_app (goodIn_of _ (by decide +kernel)) ggX3_hasImputed_X2_has
theorem dX3_hasImputed_0 : decode cX3_hasImputed 0 = .ok (.aload_n 0, 1) := by decide +kernel
theorem dX3_hasImputed_1 : decode cX3_hasImputed 1 = .ok (.getfield 24, 3) := by decide +kernel
theorem dX3_hasImputed_4 : decode cX3_hasImputed 4 = .ok (.iload_n 1, 1) := by decide +kernel
theorem dX3_hasImputed_5 : decode cX3_hasImputed 5 = .ok (.iload_n 2, 1) := by decide +kernel
theorem dX3_hasImputed_6 : decode cX3_hasImputed 6 = .ok (.invokevirtual 70, 3) := by decide +kernel
theorem dX3_hasImputed_9 : decode cX3_hasImputed 9 = .ok (.ifCond .eq 19, 3) := by decide +kernel
theorem dX3_hasImputed_12 : decode cX3_hasImputed 12 = .ok (.aload_n 0, 1) := by decide +kernel
theorem dX3_hasImputed_13 : decode cX3_hasImputed 13 = .ok (.getfield 20, 3) := by decide +kernel
theorem dX3_hasImputed_16 : decode cX3_hasImputed 16 = .ok (.iload_n 1, 1) := by decide +kernel
theorem dX3_hasImputed_17 : decode cX3_hasImputed 17 = .ok (.iload_n 2, 1) := by decide +kernel
theorem dX3_hasImputed_18 : decode cX3_hasImputed 18 = .ok (.invokevirtual 70, 3) := by decide +kernel
theorem dX3_hasImputed_21 : decode cX3_hasImputed 21 = .ok (.ifCond .ne 7, 3) := by decide +kernel
theorem dX3_hasImputed_24 : decode cX3_hasImputed 24 = .ok (.iconst 1, 1) := by decide +kernel
theorem dX3_hasImputed_25 : decode cX3_hasImputed 25 = .ok (.goto 4, 3) := by decide +kernel
theorem dX3_hasImputed_28 : decode cX3_hasImputed 28 = .ok (.iconst 0, 1) := by decide +kernel
theorem dX3_hasImputed_29 : decode cX3_hasImputed 29 = .ok (.ireturn, 1) := by decide +kernel
set_option maxRecDepth 20000 in
theorem ggX3_hasDirect_X2_countMatched : GoodIn wsX3_hasDirect wsX2_countMatched := goodIn_r _ [6, 7, 8, 9, 10, 11, 5, 12, 13, 14, 15, 16, 17, 22, 23, 24, 25, 26, 27, 28, 29, 30, 31, 32, 33, 34] (by decide +kernel) (by decide +kernel)
set_option maxRecDepth 20000 in
theorem gX3_hasDirect_X2_countMatched : GoodIn wsX3_hasDirect (wsV RX3 82 RX2 yX2_countMatched wsX2_countMatched) := goodIn_app (goodIn_of _ (by decide +kernel)) ggX3_hasDirect_X2_countMatched
theorem dX3_hasDirect_0 : decode cX3_hasDirect 0 = .ok (.aload_n 0, 1) := by decide +kernel
theorem dX3_hasDirect_1 : decode cX3_hasDirect 1 = .ok (.getfield 24, 3) := by decide +kernel
theorem dX3_hasDirect_4 : decode cX3_hasDirect 4 = .ok (.iload_n 1, 1) := by decide +kernel
theorem dX3_hasDirect_5 : decode cX3_hasDirect 5 = .ok (.iload_n 2, 1) := by decide +kernel
theorem dX3_hasDirect_6 : decode cX3_hasDirect 6 = .ok (.iload_n 3, 1) := by decide +kernel
theorem dX3_hasDirect_7 : decode cX3_hasDirect 7 = .ok (.invokevirtual 82, 3) := by decide +kernel
theorem dX3_hasDirect_10 : decode cX3_hasDirect 10 = .ok (.ifCond .le 7, 3) := by decide +kernel
theorem dX3_hasDirect_13 : decode cX3_hasDirect 13 = .ok (.iconst 1, 1) := by decide +kernel
theorem dX3_hasDirect_14 : decode cX3_hasDirect 14 = .ok (.goto 4, 3) := by decide +kernel
theorem dX3_hasDirect_17 : decode cX3_hasDirect 17 = .ok (.iconst 0, 1) := by decide +kernel
theorem dX3_hasDirect_18 : decode cX3_hasDirect 18 = .ok (.ireturn, 1) := by decide +kernel
set_option maxRecDepth 20000 in
theorem ggX3_direct_X2_movement : GoodIn wsX3_direct wsX2_movement := goodIn_r _ [7, 8, 9, 10, 11, 12, 6, 13, 14, 15, 16, 17, 18, 19, 20, 21, 22, 23, 24, 25, 26, 27, 28, 29, 30, 31, 32, 33, 34, 35, 36, 37, 38, 39, 40, 41, 42, 43, 44, 45, 46, 47, 48, 49, 50, 51, 52, 53, 54, 62, 63, 64, 65, 66, 67, 68, 69, 70, 71, 72, 73, 74] (by decide +kernel) (by decide +kernel)
set_option maxRecDepth 20000 in
theorem gX3_direct_X2_movement : GoodIn wsX3_direct (wsV RX3 59 RX2 yX2_movement wsX2_movement) := goodIn_app (goodIn_of _ (by decide +kernel)) ggX3_direct_X2_movement
set_option maxRecDepth 20000 in
theorem ggX3_direct_X5_times : GoodIn wsX3_direct wsX5_times := goodIn_r _ [57, 37, 38, 35, 39, 47, 48, 49, 50, 40, 41, 42, 43] (by decide +kernel) (by decide +kernel)
set_option maxRecDepth 20000 in
theorem gX3_direct_X5_times : GoodIn wsX3_direct (va_wsS RX3 76 yX5_times wsX5_times) := goodIn_app (goodIn_of _ (by decide +kernel)) ggX3_direct_X5_times
theorem dX3_direct_0 : decode cX3_direct 0 = .ok (.aload_n 0, 1) := by decide +kernel
theorem dX3_direct_1 : decode cX3_direct 1 = .ok (.getfield 24, 3) := by decide +kernel
theorem dX3_direct_4 : decode cX3_direct 4 = .ok (.iload_n 1, 1) := by decide +kernel
theorem dX3_direct_5 : decode cX3_direct 5 = .ok (.iload_n 2, 1) := by decide +kernel
theorem dX3_direct_6 : decode cX3_direct 6 = .ok (.iload_n 3, 1) := by decide +kernel
theorem dX3_direct_7 : decode cX3_direct 7 = .ok (.invokevirtual 59, 3) := by decide +kernel
theorem dX3_direct_10 : decode cX3_direct 10 = .ok (.ldc 86, 2) := by decide +kernel
theorem dX3_direct_12 : decode cX3_direct 12 = .ok (.invokestatic 76, 3) := by decide +kernel
theorem dX3_direct_15 : decode cX3_direct 15 = .ok (.freturn, 1) := by decide +kernel
set_option maxRecDepth 20000 in
theorem ggX3_chained_X2_movement : GoodIn wsX3_chained wsX2_movement := goodIn_r _ [7, 8, 9, 10, 11, 12, 6, 13, 14, 15, 16, 17, 18, 19, 20, 21, 22, 23, 24, 25, 26, 27, 28, 29, 30, 31, 32, 33, 34, 35, 36, 37, 38, 39, 40, 41, 42, 43, 44, 45, 46, 47, 48, 49, 50, 51, 52, 53, 54, 62, 63, 64, 65, 66, 67, 68, 69, 70, 71, 72, 73, 74] (by decide +kernel) (by decide +kernel)
set_option maxRecDepth 20000 in
theorem gX3_chained_X2_movement : GoodIn wsX3_chained (wsV RX3 59 RX2 yX2_movement wsX2_movement) := goodIn_app (goodIn_of _ (by decide +kernel)) ggX3_chained_X2_movement
set_option maxRecDepth 20000 in
theorem ggX3_chained_X5_times : GoodIn wsX3_chained wsX5_times := goodIn_r _ [57, 37, 38, 35, 39, 47, 48, 49, 50, 40, 41, 42, 43] (by decide +kernel) (by decide +kernel)
set_option maxRecDepth 20000 in
theorem gX3_chained_X5_times : GoodIn wsX3_chained (va_wsS RX3 76 yX5_times wsX5_times) := goodIn_app (goodIn_of _ (by decide +kernel)) ggX3_chained_X5_times
theorem dX3_chained_0 : decode cX3_chained 0 = .ok (.ldc 86, 2) := by decide +kernel
theorem dX3_chained_2 : decode cX3_chained 2 = .ok (.fstore 4, 2) := by decide +kernel
theorem dX3_chained_4 : decode cX3_chained 4 = .ok (.iload_n 2, 1) := by decide +kernel
theorem dX3_chained_5 : decode cX3_chained 5 = .ok (.istore 5, 2) := by decide +kernel
theorem dX3_chained_7 : decode cX3_chained 7 = .ok (.iload 5, 2) := by decide +kernel
theorem dX3_chained_9 : decode cX3_chained 9 = .ok (.iload_n 3, 1) := by decide +kernel
theorem dX3_chained_10 : decode cX3_chained 10 = .ok (.if_icmp .ge 30, 3) := by decide +kernel
theorem dX3_chained_13 : decode cX3_chained 13 = .ok (.fload 4, 2) := by decide +kernel
theorem dX3_chained_15 : decode cX3_chained 15 = .ok (.aload_n 0, 1) := by decide +kernel
theorem dX3_chained_16 : decode cX3_chained 16 = .ok (.getfield 20, 3) := by decide +kernel
theorem dX3_chained_19 : decode cX3_chained 19 = .ok (.iload_n 1, 1) := by decide +kernel
theorem dX3_chained_20 : decode cX3_chained 20 = .ok (.iload 5, 2) := by decide +kernel
theorem dX3_chained_22 : decode cX3_chained 22 = .ok (.iload 5, 2) := by decide +kernel
theorem dX3_chained_24 : decode cX3_chained 24 = .ok (.iconst 1, 1) := by decide +kernel
theorem dX3_chained_25 : decode cX3_chained 25 = .ok (.iadd, 1) := by decide +kernel
theorem dX3_chained_26 : decode cX3_chained 26 = .ok (.invokevirtual 59, 3) := by decide +kernel
theorem dX3_chained_29 : decode cX3_chained 29 = .ok (.invokestatic 76, 3) := by decide +kernel
theorem dX3_chained_32 : decode cX3_chained 32 = .ok (.fstore 4, 2) := by decide +kernel
theorem dX3_chained_34 : decode cX3_chained 34 = .ok (.iinc 5 1, 3) := by decide +kernel
theorem dX3_chained_37 : decode cX3_chained 37 = .ok (.goto (-30), 3) := by decide +kernel
theorem dX3_chained_40 : decode cX3_chained 40 = .ok (.fload 4, 2) := by decide +kernel
theorem dX3_chained_42 : decode cX3_chained 42 = .ok (.freturn, 1) := by decide +kernel
set_option maxRecDepth 20000 in
theorem ggX3_weightOfDirect_X3_hasDirect : GoodIn wsX3_weightOfDirect wsX3_hasDirect := goodIn_r _ [7, 8, 9, 10, 11, 12, 13, 14, 15, 16, 17, 18, 19, 20, 21, 22, 23, 24, 25, 26, 27, 28, 39, 40, 41, 29, 30, 31, 32, 33, 34, 35, 36, 37, 38] (by decide +kernel) (by decide +kernel)
set_option maxRecDepth 20000 in
theorem gX3_weightOfDirect_X3_hasDirect : GoodIn wsX3_weightOfDirect (wsV RX3 87 RX3 yX3_hasDirect wsX3_hasDirect) := goodIn_app (goodIn_of _ (by decide +kernel)) ggX3_weightOfDirect_X3_hasDirect
theorem dX3_weightOfDirect_0 : decode cX3_weightOfDirect 0 = .ok (.iconst 0, 1) := by decide +kernel
theorem dX3_weightOfDirect_1 : decode cX3_weightOfDirect 1 = .ok (.istore_n 3, 1) := by decide +kernel
theorem dX3_weightOfDirect_2 : decode cX3_weightOfDirect 2 = .ok (.iconst 0, 1) := by decide +kernel
theorem dX3_weightOfDirect_3 : decode cX3_weightOfDirect 3 = .ok (.istore 4, 2) := by decide +kernel
theorem dX3_weightOfDirect_5 : decode cX3_weightOfDirect 5 = .ok (.iload 4, 2) := by decide +kernel
theorem dX3_weightOfDirect_7 : decode cX3_weightOfDirect 7 = .ok (.iconst 4, 1) := by decide +kernel
theorem dX3_weightOfDirect_8 : decode cX3_weightOfDirect 8 = .ok (.if_icmp .ge 33, 3) := by decide +kernel
theorem dX3_weightOfDirect_11 : decode cX3_weightOfDirect 11 = .ok (.aload_n 0, 1) := by decide +kernel
theorem dX3_weightOfDirect_12 : decode cX3_weightOfDirect 12 = .ok (.iload 4, 2) := by decide +kernel
theorem dX3_weightOfDirect_14 : decode cX3_weightOfDirect 14 = .ok (.iload_n 1, 1) := by decide +kernel
theorem dX3_weightOfDirect_15 : decode cX3_weightOfDirect 15 = .ok (.iload_n 2, 1) := by decide +kernel
theorem dX3_weightOfDirect_16 : decode cX3_weightOfDirect 16 = .ok (.invokevirtual 87, 3) := by decide +kernel
theorem dX3_weightOfDirect_19 : decode cX3_weightOfDirect 19 = .ok (.ifCond .eq 16, 3) := by decide +kernel
theorem dX3_weightOfDirect_22 : decode cX3_weightOfDirect 22 = .ok (.iload_n 3, 1) := by decide +kernel
theorem dX3_weightOfDirect_23 : decode cX3_weightOfDirect 23 = .ok (.aload_n 0, 1) := by decide +kernel
theorem dX3_weightOfDirect_24 : decode cX3_weightOfDirect 24 = .ok (.getfield 9, 3) := by decide +kernel
theorem dX3_weightOfDirect_27 : decode cX3_weightOfDirect 27 = .ok (.getfield 91, 3) := by decide +kernel
theorem dX3_weightOfDirect_30 : decode cX3_weightOfDirect 30 = .ok (.iload 4, 2) := by decide +kernel
theorem dX3_weightOfDirect_32 : decode cX3_weightOfDirect 32 = .ok (.iaload, 1) := by decide +kernel
theorem dX3_weightOfDirect_33 : decode cX3_weightOfDirect 33 = .ok (.iadd, 1) := by decide +kernel
theorem dX3_weightOfDirect_34 : decode cX3_weightOfDirect 34 = .ok (.istore_n 3, 1) := by decide +kernel
theorem dX3_weightOfDirect_35 : decode cX3_weightOfDirect 35 = .ok (.iinc 4 1, 3) := by decide +kernel
theorem dX3_weightOfDirect_38 : decode cX3_weightOfDirect 38 = .ok (.goto (-33), 3) := by decide +kernel
theorem dX3_weightOfDirect_41 : decode cX3_weightOfDirect 41 = .ok (.iload_n 3, 1) := by decide +kernel
theorem dX3_weightOfDirect_42 : decode cX3_weightOfDirect 42 = .ok (.ireturn, 1) := by decide +kernel
set_option maxRecDepth 20000 in
theorem ggX3_aggregate_X3_hasDirect : GoodIn wsX3_aggregate wsX3_hasDirect := goodIn_r _ [7, 8, 9, 10, 11, 12, 13, 14, 15, 16, 17, 18, 19, 20, 21, 22, 23, 24, 76, 77, 78, 79, 90, 91, 92, 80, 81, 82, 83, 84, 85, 86, 87, 88, 89] (by decide +kernel) (by decide +kernel)
set_option maxRecDepth 20000 in
theorem gX3_aggregate_X3_hasDirect : GoodIn wsX3_aggregate (wsV RX3 87 RX3 yX3_hasDirect wsX3_hasDirect) := goodIn_app (goodIn_of _ (by decide +kernel)) ggX3_aggregate_X3_hasDirect
set_option maxRecDepth 20000 in
theorem ggX3_aggregate_X3_direct : GoodIn wsX3_aggregate wsX3_direct := goodIn_r _ [28, 8, 29, 30, 31, 32, 12, 33, 14, 34, 35, 10, 11, 13, 15, 16, 17, 18, 19, 20, 21, 22, 23, 24, 36, 37, 38, 39, 40, 41, 42, 43, 44, 45, 46, 47, 48, 49, 50, 51, 52, 53, 54, 55, 56, 57, 58, 59, 60, 61, 62, 63, 64, 65, 66, 67, 68, 69, 76, 77, 78, 79, 90, 91, 92, 80, 81, 82, 83, 84, 85, 86, 87, 88, 89] (by decide +kernel) (by decide +kernel)
set_option maxRecDepth 20000 in
theorem gX3_aggregate_X3_direct : GoodIn wsX3_aggregate (wsV RX3 94 RX3 yX3_direct wsX3_direct) := goodIn_app (goodIn_of _ (by decide +kernel)) ggX3_aggregate_X3_direct
set_option maxRecDepth 20000 in
theorem ggX3_aggregate_X5_times : GoodIn wsX3_aggregate wsX5_times := goodIn_r _ [69, 49, 50, 47, 51, 59, 60, 61, 62, 52, 53, 54, 55] (by decide +kernel) (by decide +kernel)
set_option maxRecDepth 20000 in
theorem gX3_aggregate_X5_times : GoodIn wsX3_aggregate (va_wsS RX3 76 yX5_times wsX5_times) := goodIn_app (goodIn_of _ (by decide +kernel)) ggX3_aggregate_X5_times
set_option maxRecDepth 20000 in
theorem ggX3_aggregate_X5_plus : GoodIn wsX3_aggregate wsX5_plus := goodIn_r _ [48, 49, 50, 47, 51, 52, 53, 54, 55] (by decide +kernel) (by decide +kernel)
set_option maxRecDepth 20000 in
theorem gX3_aggregate_X5_plus : GoodIn wsX3_aggregate (va_wsS RX3 97 yX5_plus wsX5_plus) := goodIn_app (goodIn_of _ (by decide +kernel)) ggX3_aggregate_X5_plus
set_option maxRecDepth 20000 in
theorem ggX3_aggregate_X3_weightOfDirect : GoodIn wsX3_aggregate wsX3_weightOfDirect := goodIn_r _ [74, 1, 2, 3, 4, 5, 6, 7, 8, 9, 10, 11, 12, 13, 14, 15, 16, 17, 18, 19, 20, 21, 22, 23, 24, 76, 77, 78, 79, 80, 81, 82, 83, 84, 85, 86, 87, 88, 89, 90, 91, 92] (by decide +kernel) (by decide +kernel)
set_option maxRecDepth 20000 in
theorem gX3_aggregate_X3_weightOfDirect : GoodIn wsX3_aggregate (wsV RX3 100 RX3 yX3_weightOfDirect wsX3_weightOfDirect) := goodIn_app (goodIn_of _ (by decide +kernel)) ggX3_aggregate_X3_weightOfDirect
set_option maxRecDepth 20000 in
theorem ggX3_aggregate_X5_over : GoodIn wsX3_aggregate wsX5_over := goodIn_r _ [58, 49, 50, 47, 51, 59, 60, 61, 62, 52, 53, 54, 55] (by decide +kernel) (by decide +kernel)
set_option maxRecDepth 20000 in
theorem gX3_aggregate_X5_over : GoodIn wsX3_aggregate (va_wsS RX3 104 yX5_over wsX5_over) := goodIn_app (goodIn_of _ (by decide +kernel)) ggX3_aggregate_X5_over
theorem dX3_aggregate_0 : decode cX3_aggregate 0 = .ok (.fconst 0, 1) := by decide +kernel
theorem dX3_aggregate_1 : decode cX3_aggregate 1 = .ok (.fstore_n 3, 1) := by decide +kernel
theorem dX3_aggregate_2 : decode cX3_aggregate 2 = .ok (.iconst 0, 1) := by decide +kernel
theorem dX3_aggregate_3 : decode cX3_aggregate 3 = .ok (.istore 4, 2) := by decide +kernel
theorem dX3_aggregate_5 : decode cX3_aggregate 5 = .ok (.iload 4, 2) := by decide +kernel
theorem dX3_aggregate_7 : decode cX3_aggregate 7 = .ok (.iconst 4, 1) := by decide +kernel
theorem dX3_aggregate_8 : decode cX3_aggregate 8 = .ok (.if_icmp .ge 51, 3) := by decide +kernel
theorem dX3_aggregate_11 : decode cX3_aggregate 11 = .ok (.aload_n 0, 1) := by decide +kernel
theorem dX3_aggregate_12 : decode cX3_aggregate 12 = .ok (.iload 4, 2) := by decide +kernel
theorem dX3_aggregate_14 : decode cX3_aggregate 14 = .ok (.iload_n 1, 1) := by decide +kernel
theorem dX3_aggregate_15 : decode cX3_aggregate 15 = .ok (.iload_n 2, 1) := by decide +kernel
theorem dX3_aggregate_16 : decode cX3_aggregate 16 = .ok (.invokevirtual 87, 3) := by decide +kernel
theorem dX3_aggregate_19 : decode cX3_aggregate 19 = .ok (.ifCond .eq 34, 3) := by decide +kernel
theorem dX3_aggregate_22 : decode cX3_aggregate 22 = .ok (.aload_n 0, 1) := by decide +kernel
theorem dX3_aggregate_23 : decode cX3_aggregate 23 = .ok (.getfield 9, 3) := by decide +kernel
theorem dX3_aggregate_26 : decode cX3_aggregate 26 = .ok (.getfield 91, 3) := by decide +kernel
theorem dX3_aggregate_29 : decode cX3_aggregate 29 = .ok (.iload 4, 2) := by decide +kernel
theorem dX3_aggregate_31 : decode cX3_aggregate 31 = .ok (.iaload, 1) := by decide +kernel
theorem dX3_aggregate_32 : decode cX3_aggregate 32 = .ok (.i2f, 1) := by decide +kernel
theorem dX3_aggregate_33 : decode cX3_aggregate 33 = .ok (.fstore 5, 2) := by decide +kernel
theorem dX3_aggregate_35 : decode cX3_aggregate 35 = .ok (.fload_n 3, 1) := by decide +kernel
theorem dX3_aggregate_36 : decode cX3_aggregate 36 = .ok (.fload 5, 2) := by decide +kernel
theorem dX3_aggregate_38 : decode cX3_aggregate 38 = .ok (.aload_n 0, 1) := by decide +kernel
theorem dX3_aggregate_39 : decode cX3_aggregate 39 = .ok (.iload 4, 2) := by decide +kernel
theorem dX3_aggregate_41 : decode cX3_aggregate 41 = .ok (.iload_n 1, 1) := by decide +kernel
theorem dX3_aggregate_42 : decode cX3_aggregate 42 = .ok (.iload_n 2, 1) := by decide +kernel
theorem dX3_aggregate_43 : decode cX3_aggregate 43 = .ok (.invokevirtual 94, 3) := by decide +kernel
theorem dX3_aggregate_46 : decode cX3_aggregate 46 = .ok (.invokestatic 76, 3) := by decide +kernel
theorem dX3_aggregate_49 : decode cX3_aggregate 49 = .ok (.invokestatic 97, 3) := by decide +kernel
theorem dX3_aggregate_52 : decode cX3_aggregate 52 = .ok (.fstore_n 3, 1) := by decide +kernel
theorem dX3_aggregate_53 : decode cX3_aggregate 53 = .ok (.iinc 4 1, 3) := by decide +kernel
theorem dX3_aggregate_56 : decode cX3_aggregate 56 = .ok (.goto (-51), 3) := by decide +kernel
theorem dX3_aggregate_59 : decode cX3_aggregate 59 = .ok (.fload_n 3, 1) := by decide +kernel
theorem dX3_aggregate_60 : decode cX3_aggregate 60 = .ok (.aload_n 0, 1) := by decide +kernel
theorem dX3_aggregate_61 : decode cX3_aggregate 61 = .ok (.iload_n 1, 1) := by decide +kernel
theorem dX3_aggregate_62 : decode cX3_aggregate 62 = .ok (.iload_n 2, 1) := by decide +kernel
theorem dX3_aggregate_63 : decode cX3_aggregate 63 = .ok (.invokevirtual 100, 3) := by decide +kernel
theorem dX3_aggregate_66 : decode cX3_aggregate 66 = .ok (.i2f, 1) := by decide +kernel
theorem dX3_aggregate_67 : decode cX3_aggregate 67 = .ok (.invokestatic 104, 3) := by decide +kernel
theorem dX3_aggregate_70 : decode cX3_aggregate 70 = .ok (.freturn, 1) := by decide +kernel
end
section
theorem dX4_init_0 : decode cX4_init 0 = .ok (.aload_n 0, 1) := by decide +kernel
theorem dX4_init_1 : decode cX4_init 1 = .ok (.invokespecial 3, 3) := by decide +kernel
theorem dX4_init_4 : decode cX4_init 4 = .ok (.aload_n 0, 1) := by decide +kernel
theorem dX4_init_5 : decode cX4_init 5 = .ok (.bipush 10, 2) := by decide +kernel
theorem dX4_init_7 : decode cX4_init 7 = .ok (.newarray .int, 2) := by decide +kernel
theorem dX4_init_9 : decode cX4_init 9 = .ok (.putfield 9, 3) := by decide +kernel
theorem dX4_init_12 : decode cX4_init 12 = .ok (.aload_n 0, 1) := by decide +kernel
theorem dX4_init_13 : decode cX4_init 13 = .ok (.bipush 10, 2) := by decide +kernel
theorem dX4_init_15 : decode cX4_init 15 = .ok (.newarray .int, 2) := by decide +kernel
theorem dX4_init_17 : decode cX4_init 17 = .ok (.putfield 15, 3) := by decide +kernel
theorem dX4_init_20 : decode cX4_init 20 = .ok (.aload_n 0, 1) := by decide +kernel
theorem dX4_init_21 : decode cX4_init 21 = .ok (.bipush 10, 2) := by decide +kernel
theorem dX4_init_23 : decode cX4_init 23 = .ok (.newarray .int, 2) := by decide +kernel
theorem dX4_init_25 : decode cX4_init 25 = .ok (.putfield 18, 3) := by decide +kernel
theorem dX4_init_28 : decode cX4_init 28 = .ok (.aload_n 0, 1) := by decide +kernel
theorem dX4_init_29 : decode cX4_init 29 = .ok (.bipush 60, 2) := by decide +kernel
theorem dX4_init_31 : decode cX4_init 31 = .ok (.newarray .int, 2) := by decide +kernel
theorem dX4_init_33 : decode cX4_init 33 = .ok (.putfield 21, 3) := by decide +kernel
theorem dX4_init_36 : decode cX4_init 36 = .ok (.return_, 1) := by decide +kernel
theorem dX4_append_0 : decode cX4_append 0 = .ok (.aload_n 0, 1) := by decide +kernel
theorem dX4_append_1 : decode cX4_append 1 = .ok (.getfield 21, 3) := by decide +kernel
theorem dX4_append_4 : decode cX4_append 4 = .ok (.aload_n 0, 1) := by decide +kernel
theorem dX4_append_5 : decode cX4_append 5 = .ok (.getfield 24, 3) := by decide +kernel
theorem dX4_append_8 : decode cX4_append 8 = .ok (.iload_n 1, 1) := by decide +kernel
theorem dX4_append_9 : decode cX4_append 9 = .ok (.iastore, 1) := by decide +kernel
theorem dX4_append_10 : decode cX4_append 10 = .ok (.aload_n 0, 1) := by decide +kernel
theorem dX4_append_11 : decode cX4_append 11 = .ok (.dup, 1) := by decide +kernel
theorem dX4_append_12 : decode cX4_append 12 = .ok (.getfield 24, 3) := by decide +kernel
theorem dX4_append_15 : decode cX4_append 15 = .ok (.iconst 1, 1) := by decide +kernel
theorem dX4_append_16 : decode cX4_append 16 = .ok (.iadd, 1) := by decide +kernel
theorem dX4_append_17 : decode cX4_append 17 = .ok (.putfield 24, 3) := by decide +kernel
theorem dX4_append_20 : decode cX4_append 20 = .ok (.aload_n 0, 1) := by decide +kernel
theorem dX4_append_21 : decode cX4_append 21 = .ok (.getfield 24, 3) := by decide +kernel
theorem dX4_append_24 : decode cX4_append 24 = .ok (.ireturn, 1) := by decide +kernel
theorem dX4_clear_0 : decode cX4_clear 0 = .ok (.aload_n 0, 1) := by decide +kernel
theorem dX4_clear_1 : decode cX4_clear 1 = .ok (.getfield 24, 3) := by decide +kernel
theorem dX4_clear_4 : decode cX4_clear 4 = .ok (.istore_n 1, 1) := by decide +kernel
theorem dX4_clear_5 : decode cX4_clear 5 = .ok (.aload_n 0, 1) := by decide +kernel
theorem dX4_clear_6 : decode cX4_clear 6 = .ok (.iconst 0, 1) := by decide +kernel
theorem dX4_clear_7 : decode cX4_clear 7 = .ok (.putfield 24, 3) := by decide +kernel
theorem dX4_clear_10 : decode cX4_clear 10 = .ok (.iload_n 1, 1) := by decide +kernel
theorem dX4_clear_11 : decode cX4_clear 11 = .ok (.ireturn, 1) := by decide +kernel
set_option maxRecDepth 20000 in
theorem ggX4_read_X4_readQuotation : GoodIn wsX4_read wsX4_readQuotation := goodIn_r _ [7, 8, 9, 10, 11, 12, 13, 14, 6, 15, 1, 2, 16, 17, 18, 19, 20, 21, 22, 23, 24, 25, 26, 27, 28, 29, 30, 31, 32, 33] (by decide +kernel) (by decide +kernel)
set_option maxRecDepth 20000 in
theorem gX4_read_X4_readQuotation : GoodIn wsX4_read (wsV RX4 31 RX4 yX4_readQuotation wsX4_readQuotation) := goodIn_app (goodIn_of _ (by decide +kernel)) ggX4_read_X4_readQuotation
theorem dX4_read_0 : decode cX4_read 0 = .ok (.aload_n 0, 1) := by decide +kernel
theorem dX4_read_1 : decode cX4_read 1 = .ok (.iconst 0, 1) := by decide +kernel
theorem dX4_read_2 : decode cX4_read 2 = .ok (.putfield 28, 3) := by decide +kernel
theorem dX4_read_5 : decode cX4_read 5 = .ok (.iconst 0, 1) := by decide +kernel
theorem dX4_read_6 : decode cX4_read 6 = .ok (.istore_n 2, 1) := by decide +kernel
theorem dX4_read_7 : decode cX4_read 7 = .ok (.iload_n 2, 1) := by decide +kernel
theorem dX4_read_8 : decode cX4_read 8 = .ok (.bipush 10, 2) := by decide +kernel
theorem dX4_read_10 : decode cX4_read 10 = .ok (.if_icmp .ge 41, 3) := by decide +kernel
theorem dX4_read_13 : decode cX4_read 13 = .ok (.aload_n 0, 1) := by decide +kernel
theorem dX4_read_14 : decode cX4_read 14 = .ok (.iload_n 2, 1) := by decide +kernel
theorem dX4_read_15 : decode cX4_read 15 = .ok (.iload_n 1, 1) := by decide +kernel
theorem dX4_read_16 : decode cX4_read 16 = .ok (.invokevirtual 31, 3) := by decide +kernel
theorem dX4_read_19 : decode cX4_read 19 = .ok (.ifCond .ne 11, 3) := by decide +kernel
theorem dX4_read_22 : decode cX4_read 22 = .ok (.bipush (-10), 2) := by decide +kernel
theorem dX4_read_24 : decode cX4_read 24 = .ok (.aload_n 0, 1) := by decide +kernel
theorem dX4_read_25 : decode cX4_read 25 = .ok (.getfield 28, 3) := by decide +kernel
theorem dX4_read_28 : decode cX4_read 28 = .ok (.isub, 1) := by decide +kernel
theorem dX4_read_29 : decode cX4_read 29 = .ok (.ireturn, 1) := by decide +kernel
theorem dX4_read_30 : decode cX4_read 30 = .ok (.aload_n 0, 1) := by decide +kernel
theorem dX4_read_31 : decode cX4_read 31 = .ok (.getfield 28, 3) := by decide +kernel
theorem dX4_read_34 : decode cX4_read 34 = .ok (.aload_n 0, 1) := by decide +kernel
theorem dX4_read_35 : decode cX4_read 35 = .ok (.getfield 24, 3) := by decide +kernel
theorem dX4_read_38 : decode cX4_read 38 = .ok (.if_icmp .lt 7, 3) := by decide +kernel
theorem dX4_read_41 : decode cX4_read 41 = .ok (.iload_n 2, 1) := by decide +kernel
theorem dX4_read_42 : decode cX4_read 42 = .ok (.iconst 1, 1) := by decide +kernel
theorem dX4_read_43 : decode cX4_read 43 = .ok (.iadd, 1) := by decide +kernel
theorem dX4_read_44 : decode cX4_read 44 = .ok (.ireturn, 1) := by decide +kernel
theorem dX4_read_45 : decode cX4_read 45 = .ok (.iinc 2 1, 3) := by decide +kernel
theorem dX4_read_48 : decode cX4_read 48 = .ok (.goto (-41), 3) := by decide +kernel
theorem dX4_read_51 : decode cX4_read 51 = .ok (.bipush (-10), 2) := by decide +kernel
theorem dX4_read_53 : decode cX4_read 53 = .ok (.aload_n 0, 1) := by decide +kernel
theorem dX4_read_54 : decode cX4_read 54 = .ok (.getfield 28, 3) := by decide +kernel
theorem dX4_read_57 : decode cX4_read 57 = .ok (.isub, 1) := by decide +kernel
theorem dX4_read_58 : decode cX4_read 58 = .ok (.ireturn, 1) := by decide +kernel
set_option maxRecDepth 20000 in
theorem ggX4_readQuotation_X4_readNumber : GoodIn wsX4_readQuotation wsX4_readNumber := goodIn_r _ [9, 10, 11, 12, 13, 14, 8, 15, 16, 17, 18, 19, 24, 25, 26, 27, 28, 29] (by decide +kernel) (by decide +kernel)
set_option maxRecDepth 20000 in
theorem gX4_readQuotation_X4_readNumber : GoodIn wsX4_readQuotation (wsV RX4 35 RX4 yX4_readNumber wsX4_readNumber) := goodIn_app (goodIn_of _ (by decide +kernel)) ggX4_readQuotation_X4_readNumber
set_option maxRecDepth 20000 in
theorem ggX4_readQuotation_X4_skip : GoodIn wsX4_readQuotation wsX4_skip := goodIn_r _ [23, 10, 11, 12, 24, 25, 26, 27, 28, 29] (by decide +kernel) (by decide +kernel)
set_option maxRecDepth 20000 in
theorem gX4_readQuotation_X4_skip : GoodIn wsX4_readQuotation (wsV RX4 39 RX4 yX4_skip wsX4_skip) := goodIn_app (goodIn_of _ (by decide +kernel)) ggX4_readQuotation_X4_skip
theorem dX4_readQuotation_0 : decode cX4_readQuotation 0 = .ok (.aload_n 0, 1) := by decide +kernel
theorem dX4_readQuotation_1 : decode cX4_readQuotation 1 = .ok (.getfield 9, 3) := by decide +kernel
theorem dX4_readQuotation_4 : decode cX4_readQuotation 4 = .ok (.iload_n 1, 1) := by decide +kernel
theorem dX4_readQuotation_5 : decode cX4_readQuotation 5 = .ok (.aload_n 0, 1) := by decide +kernel
theorem dX4_readQuotation_6 : decode cX4_readQuotation 6 = .ok (.iload_n 2, 1) := by decide +kernel
theorem dX4_readQuotation_7 : decode cX4_readQuotation 7 = .ok (.iconst 1, 1) := by decide +kernel
theorem dX4_readQuotation_8 : decode cX4_readQuotation 8 = .ok (.isub, 1) := by decide +kernel
theorem dX4_readQuotation_9 : decode cX4_readQuotation 9 = .ok (.invokevirtual 35, 3) := by decide +kernel
theorem dX4_readQuotation_12 : decode cX4_readQuotation 12 = .ok (.iastore, 1) := by decide +kernel
theorem dX4_readQuotation_13 : decode cX4_readQuotation 13 = .ok (.aload_n 0, 1) := by decide +kernel
theorem dX4_readQuotation_14 : decode cX4_readQuotation 14 = .ok (.getfield 9, 3) := by decide +kernel
theorem dX4_readQuotation_17 : decode cX4_readQuotation 17 = .ok (.iload_n 1, 1) := by decide +kernel
theorem dX4_readQuotation_18 : decode cX4_readQuotation 18 = .ok (.iaload, 1) := by decide +kernel
theorem dX4_readQuotation_19 : decode cX4_readQuotation 19 = .ok (.iconst (-1), 1) := by decide +kernel
theorem dX4_readQuotation_20 : decode cX4_readQuotation 20 = .ok (.if_icmp .eq 12, 3) := by decide +kernel
theorem dX4_readQuotation_23 : decode cX4_readQuotation 23 = .ok (.aload_n 0, 1) := by decide +kernel
theorem dX4_readQuotation_24 : decode cX4_readQuotation 24 = .ok (.bipush 64, 2) := by decide +kernel
theorem dX4_readQuotation_26 : decode cX4_readQuotation 26 = .ok (.invokevirtual 39, 3) := by decide +kernel
theorem dX4_readQuotation_29 : decode cX4_readQuotation 29 = .ok (.ifCond .ne 5, 3) := by decide +kernel
theorem dX4_readQuotation_32 : decode cX4_readQuotation 32 = .ok (.iconst 0, 1) := by decide +kernel
theorem dX4_readQuotation_33 : decode cX4_readQuotation 33 = .ok (.ireturn, 1) := by decide +kernel
theorem dX4_readQuotation_34 : decode cX4_readQuotation 34 = .ok (.aload_n 0, 1) := by decide +kernel
theorem dX4_readQuotation_35 : decode cX4_readQuotation 35 = .ok (.getfield 15, 3) := by decide +kernel
theorem dX4_readQuotation_38 : decode cX4_readQuotation 38 = .ok (.iload_n 1, 1) := by decide +kernel
theorem dX4_readQuotation_39 : decode cX4_readQuotation 39 = .ok (.aload_n 0, 1) := by decide +kernel
theorem dX4_readQuotation_40 : decode cX4_readQuotation 40 = .ok (.bipush 23, 2) := by decide +kernel
theorem dX4_readQuotation_42 : decode cX4_readQuotation 42 = .ok (.invokevirtual 35, 3) := by decide +kernel
theorem dX4_readQuotation_45 : decode cX4_readQuotation 45 = .ok (.iastore, 1) := by decide +kernel
theorem dX4_readQuotation_46 : decode cX4_readQuotation 46 = .ok (.aload_n 0, 1) := by decide +kernel
theorem dX4_readQuotation_47 : decode cX4_readQuotation 47 = .ok (.getfield 15, 3) := by decide +kernel
theorem dX4_readQuotation_50 : decode cX4_readQuotation 50 = .ok (.iload_n 1, 1) := by decide +kernel
theorem dX4_readQuotation_51 : decode cX4_readQuotation 51 = .ok (.iaload, 1) := by decide +kernel
theorem dX4_readQuotation_52 : decode cX4_readQuotation 52 = .ok (.iconst (-1), 1) := by decide +kernel
theorem dX4_readQuotation_53 : decode cX4_readQuotation 53 = .ok (.if_icmp .eq 12, 3) := by decide +kernel
theorem dX4_readQuotation_56 : decode cX4_readQuotation 56 = .ok (.aload_n 0, 1) := by decide +kernel
theorem dX4_readQuotation_57 : decode cX4_readQuotation 57 = .ok (.bipush 61, 2) := by decide +kernel
theorem dX4_readQuotation_59 : decode cX4_readQuotation 59 = .ok (.invokevirtual 39, 3) := by decide +kernel
theorem dX4_readQuotation_62 : decode cX4_readQuotation 62 = .ok (.ifCond .ne 5, 3) := by decide +kernel
theorem dX4_readQuotation_65 : decode cX4_readQuotation 65 = .ok (.iconst 0, 1) := by decide +kernel
theorem dX4_readQuotation_66 : decode cX4_readQuotation 66 = .ok (.ireturn, 1) := by decide +kernel
theorem dX4_readQuotation_67 : decode cX4_readQuotation 67 = .ok (.aload_n 0, 1) := by decide +kernel
theorem dX4_readQuotation_68 : decode cX4_readQuotation 68 = .ok (.getfield 18, 3) := by decide +kernel
theorem dX4_readQuotation_71 : decode cX4_readQuotation 71 = .ok (.iload_n 1, 1) := by decide +kernel
theorem dX4_readQuotation_72 : decode cX4_readQuotation 72 = .ok (.aload_n 0, 1) := by decide +kernel
theorem dX4_readQuotation_73 : decode cX4_readQuotation 73 = .ok (.ldc 43, 2) := by decide +kernel
theorem dX4_readQuotation_75 : decode cX4_readQuotation 75 = .ok (.invokevirtual 35, 3) := by decide +kernel
theorem dX4_readQuotation_78 : decode cX4_readQuotation 78 = .ok (.iastore, 1) := by decide +kernel
theorem dX4_readQuotation_79 : decode cX4_readQuotation 79 = .ok (.aload_n 0, 1) := by decide +kernel
theorem dX4_readQuotation_80 : decode cX4_readQuotation 80 = .ok (.getfield 18, 3) := by decide +kernel
theorem dX4_readQuotation_83 : decode cX4_readQuotation 83 = .ok (.iload_n 1, 1) := by decide +kernel
theorem dX4_readQuotation_84 : decode cX4_readQuotation 84 = .ok (.iaload, 1) := by decide +kernel
theorem dX4_readQuotation_85 : decode cX4_readQuotation 85 = .ok (.iconst (-1), 1) := by decide +kernel
theorem dX4_readQuotation_86 : decode cX4_readQuotation 86 = .ok (.if_icmp .eq 16, 3) := by decide +kernel
theorem dX4_readQuotation_89 : decode cX4_readQuotation 89 = .ok (.aload_n 0, 1) := by decide +kernel
theorem dX4_readQuotation_90 : decode cX4_readQuotation 90 = .ok (.bipush 59, 2) := by decide +kernel
theorem dX4_readQuotation_92 : decode cX4_readQuotation 92 = .ok (.invokevirtual 39, 3) := by decide +kernel
theorem dX4_readQuotation_95 : decode cX4_readQuotation 95 = .ok (.ifCond .eq 7, 3) := by decide +kernel
theorem dX4_readQuotation_98 : decode cX4_readQuotation 98 = .ok (.iconst 1, 1) := by decide +kernel
theorem dX4_readQuotation_99 : decode cX4_readQuotation 99 = .ok (.goto 4, 3) := by decide +kernel
theorem dX4_readQuotation_102 : decode cX4_readQuotation 102 = .ok (.iconst 0, 1) := by decide +kernel
theorem dX4_readQuotation_103 : decode cX4_readQuotation 103 = .ok (.ireturn, 1) := by decide +kernel
set_option maxRecDepth 20000 in
theorem ggX4_readNumber_X4_isDigit : GoodIn wsX4_readNumber wsX4_isDigit := goodIn_r _ [7] (by decide +kernel) (by decide +kernel)
set_option maxRecDepth 20000 in
theorem gX4_readNumber_X4_isDigit : GoodIn wsX4_readNumber (va_wsS RX4 44 yX4_isDigit wsX4_isDigit) := goodIn_app (goodIn_of _ (by decide +kernel)) ggX4_readNumber_X4_isDigit
set_option maxRecDepth 20000 in
theorem ggX4_readNumber_X4_hasNumberForm : GoodIn wsX4_readNumber wsX4_hasNumberForm := goodIn_r _ [11, 3, 12, 13, 14, 15, 16, 17] (by decide +kernel) (by decide +kernel)
set_option maxRecDepth 20000 in
theorem gX4_readNumber_X4_hasNumberForm : GoodIn wsX4_readNumber (wsV RX4 48 RX4 yX4_hasNumberForm wsX4_hasNumberForm) := goodIn_app (goodIn_of _ (by decide +kernel)) ggX4_readNumber_X4_hasNumberForm
theorem dX4_readNumber_0 : decode cX4_readNumber 0 = .ok (.aload_n 0, 1) := by decide +kernel
theorem dX4_readNumber_1 : decode cX4_readNumber 1 = .ok (.getfield 28, 3) := by decide +kernel
theorem dX4_readNumber_4 : decode cX4_readNumber 4 = .ok (.istore_n 2, 1) := by decide +kernel
theorem dX4_readNumber_5 : decode cX4_readNumber 5 = .ok (.iconst 0, 1) := by decide +kernel
theorem dX4_readNumber_6 : decode cX4_readNumber 6 = .ok (.istore_n 3, 1) := by decide +kernel
theorem dX4_readNumber_7 : decode cX4_readNumber 7 = .ok (.aload_n 0, 1) := by decide +kernel
theorem dX4_readNumber_8 : decode cX4_readNumber 8 = .ok (.getfield 28, 3) := by decide +kernel
theorem dX4_readNumber_11 : decode cX4_readNumber 11 = .ok (.aload_n 0, 1) := by decide +kernel
theorem dX4_readNumber_12 : decode cX4_readNumber 12 = .ok (.getfield 24, 3) := by decide +kernel
theorem dX4_readNumber_15 : decode cX4_readNumber 15 = .ok (.if_icmp .ge 59, 3) := by decide +kernel
theorem dX4_readNumber_18 : decode cX4_readNumber 18 = .ok (.aload_n 0, 1) := by decide +kernel
theorem dX4_readNumber_19 : decode cX4_readNumber 19 = .ok (.getfield 21, 3) := by decide +kernel
theorem dX4_readNumber_22 : decode cX4_readNumber 22 = .ok (.aload_n 0, 1) := by decide +kernel
theorem dX4_readNumber_23 : decode cX4_readNumber 23 = .ok (.getfield 28, 3) := by decide +kernel
theorem dX4_readNumber_26 : decode cX4_readNumber 26 = .ok (.iaload, 1) := by decide +kernel
theorem dX4_readNumber_27 : decode cX4_readNumber 27 = .ok (.invokestatic 44, 3) := by decide +kernel
theorem dX4_readNumber_30 : decode cX4_readNumber 30 = .ok (.ifCond .eq 44, 3) := by decide +kernel
theorem dX4_readNumber_33 : decode cX4_readNumber 33 = .ok (.aload_n 0, 1) := by decide +kernel
theorem dX4_readNumber_34 : decode cX4_readNumber 34 = .ok (.getfield 28, 3) := by decide +kernel
theorem dX4_readNumber_37 : decode cX4_readNumber 37 = .ok (.iload_n 2, 1) := by decide +kernel
theorem dX4_readNumber_38 : decode cX4_readNumber 38 = .ok (.isub, 1) := by decide +kernel
theorem dX4_readNumber_39 : decode cX4_readNumber 39 = .ok (.iconst 5, 1) := by decide +kernel
theorem dX4_readNumber_40 : decode cX4_readNumber 40 = .ok (.if_icmp .ge 21, 3) := by decide +kernel
theorem dX4_readNumber_43 : decode cX4_readNumber 43 = .ok (.iload_n 3, 1) := by decide +kernel
theorem dX4_readNumber_44 : decode cX4_readNumber 44 = .ok (.bipush 10, 2) := by decide +kernel
theorem dX4_readNumber_46 : decode cX4_readNumber 46 = .ok (.imul, 1) := by decide +kernel
theorem dX4_readNumber_47 : decode cX4_readNumber 47 = .ok (.aload_n 0, 1) := by decide +kernel
theorem dX4_readNumber_48 : decode cX4_readNumber 48 = .ok (.getfield 21, 3) := by decide +kernel
theorem dX4_readNumber_51 : decode cX4_readNumber 51 = .ok (.aload_n 0, 1) := by decide +kernel
theorem dX4_readNumber_52 : decode cX4_readNumber 52 = .ok (.getfield 28, 3) := by decide +kernel
theorem dX4_readNumber_55 : decode cX4_readNumber 55 = .ok (.iaload, 1) := by decide +kernel
theorem dX4_readNumber_56 : decode cX4_readNumber 56 = .ok (.bipush 48, 2) := by decide +kernel
theorem dX4_readNumber_58 : decode cX4_readNumber 58 = .ok (.isub, 1) := by decide +kernel
theorem dX4_readNumber_59 : decode cX4_readNumber 59 = .ok (.iadd, 1) := by decide +kernel
theorem dX4_readNumber_60 : decode cX4_readNumber 60 = .ok (.istore_n 3, 1) := by decide +kernel
theorem dX4_readNumber_61 : decode cX4_readNumber 61 = .ok (.aload_n 0, 1) := by decide +kernel
theorem dX4_readNumber_62 : decode cX4_readNumber 62 = .ok (.dup, 1) := by decide +kernel
theorem dX4_readNumber_63 : decode cX4_readNumber 63 = .ok (.getfield 28, 3) := by decide +kernel
theorem dX4_readNumber_66 : decode cX4_readNumber 66 = .ok (.iconst 1, 1) := by decide +kernel
theorem dX4_readNumber_67 : decode cX4_readNumber 67 = .ok (.iadd, 1) := by decide +kernel
theorem dX4_readNumber_68 : decode cX4_readNumber 68 = .ok (.putfield 28, 3) := by decide +kernel
theorem dX4_readNumber_71 : decode cX4_readNumber 71 = .ok (.goto (-64), 3) := by decide +kernel
theorem dX4_readNumber_74 : decode cX4_readNumber 74 = .ok (.aload_n 0, 1) := by decide +kernel
theorem dX4_readNumber_75 : decode cX4_readNumber 75 = .ok (.getfield 28, 3) := by decide +kernel
theorem dX4_readNumber_78 : decode cX4_readNumber 78 = .ok (.iload_n 2, 1) := by decide +kernel
theorem dX4_readNumber_79 : decode cX4_readNumber 79 = .ok (.isub, 1) := by decide +kernel
theorem dX4_readNumber_80 : decode cX4_readNumber 80 = .ok (.istore 4, 2) := by decide +kernel
theorem dX4_readNumber_82 : decode cX4_readNumber 82 = .ok (.aload_n 0, 1) := by decide +kernel
theorem dX4_readNumber_83 : decode cX4_readNumber 83 = .ok (.iload_n 2, 1) := by decide +kernel
theorem dX4_readNumber_84 : decode cX4_readNumber 84 = .ok (.iload 4, 2) := by decide +kernel
theorem dX4_readNumber_86 : decode cX4_readNumber 86 = .ok (.invokevirtual 48, 3) := by decide +kernel
theorem dX4_readNumber_89 : decode cX4_readNumber 89 = .ok (.ifCond .eq 10, 3) := by decide +kernel
theorem dX4_readNumber_92 : decode cX4_readNumber 92 = .ok (.iload_n 3, 1) := by decide +kernel
theorem dX4_readNumber_93 : decode cX4_readNumber 93 = .ok (.iload_n 1, 1) := by decide +kernel
theorem dX4_readNumber_94 : decode cX4_readNumber 94 = .ok (.if_icmp .gt 5, 3) := by decide +kernel
theorem dX4_readNumber_97 : decode cX4_readNumber 97 = .ok (.iload_n 3, 1) := by decide +kernel
theorem dX4_readNumber_98 : decode cX4_readNumber 98 = .ok (.ireturn, 1) := by decide +kernel
theorem dX4_readNumber_99 : decode cX4_readNumber 99 = .ok (.aload_n 0, 1) := by decide +kernel
theorem dX4_readNumber_100 : decode cX4_readNumber 100 = .ok (.iload_n 2, 1) := by decide +kernel
theorem dX4_readNumber_101 : decode cX4_readNumber 101 = .ok (.putfield 28, 3) := by decide +kernel
theorem dX4_readNumber_104 : decode cX4_readNumber 104 = .ok (.iconst (-1), 1) := by decide +kernel
theorem dX4_readNumber_105 : decode cX4_readNumber 105 = .ok (.ireturn, 1) := by decide +kernel
theorem dX4_hasNumberForm_0 : decode cX4_hasNumberForm 0 = .ok (.iload_n 2, 1) := by decide +kernel
theorem dX4_hasNumberForm_1 : decode cX4_hasNumberForm 1 = .ok (.iconst 1, 1) := by decide +kernel
theorem dX4_hasNumberForm_2 : decode cX4_hasNumberForm 2 = .ok (.if_icmp .ne 5, 3) := by decide +kernel
theorem dX4_hasNumberForm_5 : decode cX4_hasNumberForm 5 = .ok (.iconst 1, 1) := by decide +kernel
theorem dX4_hasNumberForm_6 : decode cX4_hasNumberForm 6 = .ok (.ireturn, 1) := by decide +kernel
theorem dX4_hasNumberForm_7 : decode cX4_hasNumberForm 7 = .ok (.iload_n 2, 1) := by decide +kernel
theorem dX4_hasNumberForm_8 : decode cX4_hasNumberForm 8 = .ok (.iconst 1, 1) := by decide +kernel
theorem dX4_hasNumberForm_9 : decode cX4_hasNumberForm 9 = .ok (.if_icmp .le 23, 3) := by decide +kernel
theorem dX4_hasNumberForm_12 : decode cX4_hasNumberForm 12 = .ok (.iload_n 2, 1) := by decide +kernel
theorem dX4_hasNumberForm_13 : decode cX4_hasNumberForm 13 = .ok (.iconst 5, 1) := by decide +kernel
theorem dX4_hasNumberForm_14 : decode cX4_hasNumberForm 14 = .ok (.if_icmp .gt 18, 3) := by decide +kernel
theorem dX4_hasNumberForm_17 : decode cX4_hasNumberForm 17 = .ok (.aload_n 0, 1) := by decide +kernel
theorem dX4_hasNumberForm_18 : decode cX4_hasNumberForm 18 = .ok (.getfield 21, 3) := by decide +kernel
theorem dX4_hasNumberForm_21 : decode cX4_hasNumberForm 21 = .ok (.iload_n 1, 1) := by decide +kernel
theorem dX4_hasNumberForm_22 : decode cX4_hasNumberForm 22 = .ok (.iaload, 1) := by decide +kernel
theorem dX4_hasNumberForm_23 : decode cX4_hasNumberForm 23 = .ok (.bipush 48, 2) := by decide +kernel
theorem dX4_hasNumberForm_25 : decode cX4_hasNumberForm 25 = .ok (.if_icmp .eq 7, 3) := by decide +kernel
theorem dX4_hasNumberForm_28 : decode cX4_hasNumberForm 28 = .ok (.iconst 1, 1) := by decide +kernel
theorem dX4_hasNumberForm_29 : decode cX4_hasNumberForm 29 = .ok (.goto 4, 3) := by decide +kernel
theorem dX4_hasNumberForm_32 : decode cX4_hasNumberForm 32 = .ok (.iconst 0, 1) := by decide +kernel
theorem dX4_hasNumberForm_33 : decode cX4_hasNumberForm 33 = .ok (.ireturn, 1) := by decide +kernel
theorem dX4_skip_0 : decode cX4_skip 0 = .ok (.aload_n 0, 1) := by decide +kernel
theorem dX4_skip_1 : decode cX4_skip 1 = .ok (.getfield 28, 3) := by decide +kernel
theorem dX4_skip_4 : decode cX4_skip 4 = .ok (.aload_n 0, 1) := by decide +kernel
theorem dX4_skip_5 : decode cX4_skip 5 = .ok (.getfield 24, 3) := by decide +kernel
theorem dX4_skip_8 : decode cX4_skip 8 = .ok (.if_icmp .ge 16, 3) := by decide +kernel
theorem dX4_skip_11 : decode cX4_skip 11 = .ok (.aload_n 0, 1) := by decide +kernel
theorem dX4_skip_12 : decode cX4_skip 12 = .ok (.getfield 21, 3) := by decide +kernel
theorem dX4_skip_15 : decode cX4_skip 15 = .ok (.aload_n 0, 1) := by decide +kernel
theorem dX4_skip_16 : decode cX4_skip 16 = .ok (.getfield 28, 3) := by decide +kernel
theorem dX4_skip_19 : decode cX4_skip 19 = .ok (.iaload, 1) := by decide +kernel
theorem dX4_skip_20 : decode cX4_skip 20 = .ok (.iload_n 1, 1) := by decide +kernel
theorem dX4_skip_21 : decode cX4_skip 21 = .ok (.if_icmp .eq 5, 3) := by decide +kernel
theorem dX4_skip_24 : decode cX4_skip 24 = .ok (.iconst 0, 1) := by decide +kernel
theorem dX4_skip_25 : decode cX4_skip 25 = .ok (.ireturn, 1) := by decide +kernel
theorem dX4_skip_26 : decode cX4_skip 26 = .ok (.aload_n 0, 1) := by decide +kernel
theorem dX4_skip_27 : decode cX4_skip 27 = .ok (.dup, 1) := by decide +kernel
theorem dX4_skip_28 : decode cX4_skip 28 = .ok (.getfield 28, 3) := by decide +kernel
theorem dX4_skip_31 : decode cX4_skip 31 = .ok (.iconst 1, 1) := by decide +kernel
theorem dX4_skip_32 : decode cX4_skip 32 = .ok (.iadd, 1) := by decide +kernel
theorem dX4_skip_33 : decode cX4_skip 33 = .ok (.putfield 28, 3) := by decide +kernel
theorem dX4_skip_36 : decode cX4_skip 36 = .ok (.iconst 1, 1) := by decide +kernel
theorem dX4_skip_37 : decode cX4_skip 37 = .ok (.ireturn, 1) := by decide +kernel
theorem dX4_isDigit_0 : decode cX4_isDigit 0 = .ok (.iload_n 0, 1) := by decide +kernel
theorem dX4_isDigit_1 : decode cX4_isDigit 1 = .ok (.bipush 48, 2) := by decide +kernel
theorem dX4_isDigit_3 : decode cX4_isDigit 3 = .ok (.if_icmp .lt 13, 3) := by decide +kernel
theorem dX4_isDigit_6 : decode cX4_isDigit 6 = .ok (.iload_n 0, 1) := by decide +kernel
theorem dX4_isDigit_7 : decode cX4_isDigit 7 = .ok (.bipush 57, 2) := by decide +kernel
theorem dX4_isDigit_9 : decode cX4_isDigit 9 = .ok (.if_icmp .gt 7, 3) := by decide +kernel
theorem dX4_isDigit_12 : decode cX4_isDigit 12 = .ok (.iconst 1, 1) := by decide +kernel
theorem dX4_isDigit_13 : decode cX4_isDigit 13 = .ok (.goto 4, 3) := by decide +kernel
theorem dX4_isDigit_16 : decode cX4_isDigit 16 = .ok (.iconst 0, 1) := by decide +kernel
theorem dX4_isDigit_17 : decode cX4_isDigit 17 = .ok (.ireturn, 1) := by decide +kernel
end
section
theorem dX1_init_0 : decode cX1_init 0 = .ok (.aload_n 0, 1) := by decide +kernel
theorem dX1_init_1 : decode cX1_init 1 = .ok (.invokespecial 3, 3) := by decide +kernel
theorem dX1_init_4 : decode cX1_init 4 = .ok (.aload_n 0, 1) := by decide +kernel
theorem dX1_init_5 : decode cX1_init 5 = .ok (.bipush 8, 2) := by decide +kernel
theorem dX1_init_7 : decode cX1_init 7 = .ok (.anewarray 9, 3) := by decide +kernel
theorem dX1_init_10 : decode cX1_init 10 = .ok (.putfield 11, 3) := by decide +kernel
theorem dX1_init_13 : decode cX1_init 13 = .ok (.iconst 0, 1) := by decide +kernel
theorem dX1_init_14 : decode cX1_init 14 = .ok (.istore_n 1, 1) := by decide +kernel
theorem dX1_init_15 : decode cX1_init 15 = .ok (.iload_n 1, 1) := by decide +kernel
theorem dX1_init_16 : decode cX1_init 16 = .ok (.bipush 8, 2) := by decide +kernel
theorem dX1_init_18 : decode cX1_init 18 = .ok (.if_icmp .ge 22, 3) := by decide +kernel
theorem dX1_init_21 : decode cX1_init 21 = .ok (.aload_n 0, 1) := by decide +kernel
theorem dX1_init_22 : decode cX1_init 22 = .ok (.getfield 11, 3) := by decide +kernel
theorem dX1_init_25 : decode cX1_init 25 = .ok (.iload_n 1, 1) := by decide +kernel
theorem dX1_init_26 : decode cX1_init 26 = .ok (.new 9, 3) := by decide +kernel
theorem dX1_init_29 : decode cX1_init 29 = .ok (.dup, 1) := by decide +kernel
theorem dX1_init_30 : decode cX1_init 30 = .ok (.invokespecial 17, 3) := by decide +kernel
theorem dX1_init_33 : decode cX1_init 33 = .ok (.aastore, 1) := by decide +kernel
theorem dX1_init_34 : decode cX1_init 34 = .ok (.iinc 1 1, 3) := by decide +kernel
theorem dX1_init_37 : decode cX1_init 37 = .ok (.goto (-22), 3) := by decide +kernel
theorem dX1_init_40 : decode cX1_init 40 = .ok (.return_, 1) := by decide +kernel
set_option maxRecDepth 20000 in
theorem ggX1_keep_X0_copyFrom : GoodIn wsX1_keep wsX0_copyFrom := goodIn_r _ [8, 9, 10, 11, 12, 13, 14, 15, 16, 17, 18, 19, 20, 21, 22, 26, 27, 28, 29, 30, 31, 32, 33, 34, 35] (by decide +kernel) (by decide +kernel)
set_option maxRecDepth 20000 in
theorem gX1_keep_X0_copyFrom : GoodIn wsX1_keep (wsV RX1 22 RX0 yX0_copyFrom wsX0_copyFrom) := goodIn_app (goodIn_of _ (by decide +kernel)) ggX1_keep_X0_copyFrom
theorem dX1_keep_0 : decode cX1_keep 0 = .ok (.aload_n 0, 1) := by decide +kernel
theorem dX1_keep_1 : decode cX1_keep 1 = .ok (.getfield 11, 3) := by decide +kernel
theorem dX1_keep_4 : decode cX1_keep 4 = .ok (.aload_n 0, 1) := by decide +kernel
theorem dX1_keep_5 : decode cX1_keep 5 = .ok (.getfield 18, 3) := by decide +kernel
theorem dX1_keep_8 : decode cX1_keep 8 = .ok (.aaload, 1) := by decide +kernel
theorem dX1_keep_9 : decode cX1_keep 9 = .ok (.astore_n 2, 1) := by decide +kernel
theorem dX1_keep_10 : decode cX1_keep 10 = .ok (.aload_n 2, 1) := by decide +kernel
theorem dX1_keep_11 : decode cX1_keep 11 = .ok (.ifnull 8, 3) := by decide +kernel
theorem dX1_keep_14 : decode cX1_keep 14 = .ok (.aload_n 2, 1) := by decide +kernel
theorem dX1_keep_15 : decode cX1_keep 15 = .ok (.aload_n 1, 1) := by decide +kernel
theorem dX1_keep_16 : decode cX1_keep 16 = .ok (.invokevirtual 22, 3) := by decide +kernel
theorem dX1_keep_19 : decode cX1_keep 19 = .ok (.aload_n 0, 1) := by decide +kernel
theorem dX1_keep_20 : decode cX1_keep 20 = .ok (.aload_n 0, 1) := by decide +kernel
theorem dX1_keep_21 : decode cX1_keep 21 = .ok (.getfield 18, 3) := by decide +kernel
theorem dX1_keep_24 : decode cX1_keep 24 = .ok (.iconst 1, 1) := by decide +kernel
theorem dX1_keep_25 : decode cX1_keep 25 = .ok (.iadd, 1) := by decide +kernel
theorem dX1_keep_26 : decode cX1_keep 26 = .ok (.bipush 8, 2) := by decide +kernel
theorem dX1_keep_28 : decode cX1_keep 28 = .ok (.if_icmp .ge 12, 3) := by decide +kernel
theorem dX1_keep_31 : decode cX1_keep 31 = .ok (.aload_n 0, 1) := by decide +kernel
theorem dX1_keep_32 : decode cX1_keep 32 = .ok (.getfield 18, 3) := by decide +kernel
theorem dX1_keep_35 : decode cX1_keep 35 = .ok (.iconst 1, 1) := by decide +kernel
theorem dX1_keep_36 : decode cX1_keep 36 = .ok (.iadd, 1) := by decide +kernel
theorem dX1_keep_37 : decode cX1_keep 37 = .ok (.goto 4, 3) := by decide +kernel
theorem dX1_keep_40 : decode cX1_keep 40 = .ok (.iconst 0, 1) := by decide +kernel
theorem dX1_keep_41 : decode cX1_keep 41 = .ok (.putfield 18, 3) := by decide +kernel
theorem dX1_keep_44 : decode cX1_keep 44 = .ok (.aload_n 0, 1) := by decide +kernel
theorem dX1_keep_45 : decode cX1_keep 45 = .ok (.aload_n 0, 1) := by decide +kernel
theorem dX1_keep_46 : decode cX1_keep 46 = .ok (.getfield 26, 3) := by decide +kernel
theorem dX1_keep_49 : decode cX1_keep 49 = .ok (.bipush 8, 2) := by decide +kernel
theorem dX1_keep_51 : decode cX1_keep 51 = .ok (.if_icmp .ge 12, 3) := by decide +kernel
theorem dX1_keep_54 : decode cX1_keep 54 = .ok (.aload_n 0, 1) := by decide +kernel
theorem dX1_keep_55 : decode cX1_keep 55 = .ok (.getfield 26, 3) := by decide +kernel
theorem dX1_keep_58 : decode cX1_keep 58 = .ok (.iconst 1, 1) := by decide +kernel
theorem dX1_keep_59 : decode cX1_keep 59 = .ok (.iadd, 1) := by decide +kernel
theorem dX1_keep_60 : decode cX1_keep 60 = .ok (.goto 5, 3) := by decide +kernel
theorem dX1_keep_63 : decode cX1_keep 63 = .ok (.bipush 8, 2) := by decide +kernel
theorem dX1_keep_65 : decode cX1_keep 65 = .ok (.putfield 26, 3) := by decide +kernel
theorem dX1_keep_68 : decode cX1_keep 68 = .ok (.return_, 1) := by decide +kernel
set_option maxRecDepth 20000 in
theorem ggX1_takeBack_X0_copyFrom : GoodIn wsX1_takeBack wsX0_copyFrom := goodIn_r _ [8, 9, 10, 11, 12, 13, 14, 15, 16, 17, 18, 19, 20, 21, 22, 26, 27, 28, 29, 30, 31, 32, 33, 34, 35] (by decide +kernel) (by decide +kernel)
set_option maxRecDepth 20000 in
theorem gX1_takeBack_X0_copyFrom : GoodIn wsX1_takeBack (wsV RX1 22 RX0 yX0_copyFrom wsX0_copyFrom) := goodIn_app (goodIn_of _ (by decide +kernel)) ggX1_takeBack_X0_copyFrom
theorem dX1_takeBack_0 : decode cX1_takeBack 0 = .ok (.aload_n 0, 1) := by decide +kernel
theorem dX1_takeBack_1 : decode cX1_takeBack 1 = .ok (.aload_n 0, 1) := by decide +kernel
theorem dX1_takeBack_2 : decode cX1_takeBack 2 = .ok (.getfield 18, 3) := by decide +kernel
theorem dX1_takeBack_5 : decode cX1_takeBack 5 = .ok (.ifCond .le 12, 3) := by decide +kernel
theorem dX1_takeBack_8 : decode cX1_takeBack 8 = .ok (.aload_n 0, 1) := by decide +kernel
theorem dX1_takeBack_9 : decode cX1_takeBack 9 = .ok (.getfield 18, 3) := by decide +kernel
theorem dX1_takeBack_12 : decode cX1_takeBack 12 = .ok (.iconst 1, 1) := by decide +kernel
theorem dX1_takeBack_13 : decode cX1_takeBack 13 = .ok (.isub, 1) := by decide +kernel
theorem dX1_takeBack_14 : decode cX1_takeBack 14 = .ok (.goto 5, 3) := by decide +kernel
theorem dX1_takeBack_17 : decode cX1_takeBack 17 = .ok (.bipush 7, 2) := by decide +kernel
theorem dX1_takeBack_19 : decode cX1_takeBack 19 = .ok (.putfield 18, 3) := by decide +kernel
theorem dX1_takeBack_22 : decode cX1_takeBack 22 = .ok (.aload_n 0, 1) := by decide +kernel
theorem dX1_takeBack_23 : decode cX1_takeBack 23 = .ok (.dup, 1) := by decide +kernel
theorem dX1_takeBack_24 : decode cX1_takeBack 24 = .ok (.getfield 26, 3) := by decide +kernel
theorem dX1_takeBack_27 : decode cX1_takeBack 27 = .ok (.iconst 1, 1) := by decide +kernel
theorem dX1_takeBack_28 : decode cX1_takeBack 28 = .ok (.isub, 1) := by decide +kernel
theorem dX1_takeBack_29 : decode cX1_takeBack 29 = .ok (.putfield 26, 3) := by decide +kernel
theorem dX1_takeBack_32 : decode cX1_takeBack 32 = .ok (.aload_n 0, 1) := by decide +kernel
theorem dX1_takeBack_33 : decode cX1_takeBack 33 = .ok (.getfield 11, 3) := by decide +kernel
theorem dX1_takeBack_36 : decode cX1_takeBack 36 = .ok (.aload_n 0, 1) := by decide +kernel
theorem dX1_takeBack_37 : decode cX1_takeBack 37 = .ok (.getfield 18, 3) := by decide +kernel
theorem dX1_takeBack_40 : decode cX1_takeBack 40 = .ok (.aaload, 1) := by decide +kernel
theorem dX1_takeBack_41 : decode cX1_takeBack 41 = .ok (.astore_n 2, 1) := by decide +kernel
theorem dX1_takeBack_42 : decode cX1_takeBack 42 = .ok (.aload_n 2, 1) := by decide +kernel
theorem dX1_takeBack_43 : decode cX1_takeBack 43 = .ok (.ifnull 8, 3) := by decide +kernel
theorem dX1_takeBack_46 : decode cX1_takeBack 46 = .ok (.aload_n 1, 1) := by decide +kernel
theorem dX1_takeBack_47 : decode cX1_takeBack 47 = .ok (.aload_n 2, 1) := by decide +kernel
theorem dX1_takeBack_48 : decode cX1_takeBack 48 = .ok (.invokevirtual 22, 3) := by decide +kernel
theorem dX1_takeBack_51 : decode cX1_takeBack 51 = .ok (.aload_n 0, 1) := by decide +kernel
theorem dX1_takeBack_52 : decode cX1_takeBack 52 = .ok (.getfield 26, 3) := by decide +kernel
theorem dX1_takeBack_55 : decode cX1_takeBack 55 = .ok (.ireturn, 1) := by decide +kernel
end
section
theorem dX6_init_0 : decode cX6_init 0 = .ok (.aload_n 0, 1) := by decide +kernel
theorem dX6_init_1 : decode cX6_init 1 = .ok (.invokespecial 3, 3) := by decide +kernel
theorem dX6_init_4 : decode cX6_init 4 = .ok (.aload_n 0, 1) := by decide +kernel
theorem dX6_init_5 : decode cX6_init 5 = .ok (.new 9, 3) := by decide +kernel
theorem dX6_init_8 : decode cX6_init 8 = .ok (.dup, 1) := by decide +kernel
theorem dX6_init_9 : decode cX6_init 9 = .ok (.invokespecial 11, 3) := by decide +kernel
theorem dX6_init_12 : decode cX6_init 12 = .ok (.putfield 12, 3) := by decide +kernel
theorem dX6_init_15 : decode cX6_init 15 = .ok (.aload_n 0, 1) := by decide +kernel
theorem dX6_init_16 : decode cX6_init 16 = .ok (.new 16, 3) := by decide +kernel
theorem dX6_init_19 : decode cX6_init 19 = .ok (.dup, 1) := by decide +kernel
theorem dX6_init_20 : decode cX6_init 20 = .ok (.invokespecial 18, 3) := by decide +kernel
theorem dX6_init_23 : decode cX6_init 23 = .ok (.putfield 19, 3) := by decide +kernel
theorem dX6_init_26 : decode cX6_init 26 = .ok (.aload_n 0, 1) := by decide +kernel
theorem dX6_init_27 : decode cX6_init 27 = .ok (.new 23, 3) := by decide +kernel
theorem dX6_init_30 : decode cX6_init 30 = .ok (.dup, 1) := by decide +kernel
theorem dX6_init_31 : decode cX6_init 31 = .ok (.invokespecial 25, 3) := by decide +kernel
theorem dX6_init_34 : decode cX6_init 34 = .ok (.putfield 26, 3) := by decide +kernel
theorem dX6_init_37 : decode cX6_init 37 = .ok (.aload_n 0, 1) := by decide +kernel
theorem dX6_init_38 : decode cX6_init 38 = .ok (.new 30, 3) := by decide +kernel
theorem dX6_init_41 : decode cX6_init 41 = .ok (.dup, 1) := by decide +kernel
theorem dX6_init_42 : decode cX6_init 42 = .ok (.aload_n 0, 1) := by decide +kernel
theorem dX6_init_43 : decode cX6_init 43 = .ok (.getfield 12, 3) := by decide +kernel
theorem dX6_init_46 : decode cX6_init 46 = .ok (.invokespecial 32, 3) := by decide +kernel
theorem dX6_init_49 : decode cX6_init 49 = .ok (.putfield 35, 3) := by decide +kernel
theorem dX6_init_52 : decode cX6_init 52 = .ok (.return_, 1) := by decide +kernel
set_option maxRecDepth 20000 in
theorem ggX6_addItem_X6_isStratum : GoodIn wsX6_addItem wsX6_isStratum := goodIn_r _ [6] (by decide +kernel) (by decide +kernel)
set_option maxRecDepth 20000 in
theorem gX6_addItem_X6_isStratum : GoodIn wsX6_addItem (va_wsS RX6 39 yX6_isStratum wsX6_isStratum) := goodIn_app (goodIn_of _ (by decide +kernel)) ggX6_addItem_X6_isStratum
set_option maxRecDepth 20000 in
theorem ggX6_addItem_X6_isWithin : GoodIn wsX6_addItem wsX6_isWithin := goodIn_r _ [9] (by decide +kernel) (by decide +kernel)
set_option maxRecDepth 20000 in
theorem gX6_addItem_X6_isWithin : GoodIn wsX6_addItem (va_wsS RX6 43 yX6_isWithin wsX6_isWithin) := goodIn_app (goodIn_of _ (by decide +kernel)) ggX6_addItem_X6_isWithin
set_option maxRecDepth 20000 in
theorem ggX6_addItem_X6_beginEdit : GoodIn wsX6_addItem wsX6_beginEdit := goodIn_r _ [13, 14, 1, 15, 16, 17, 18, 19, 20, 21, 22, 23, 24, 25, 26, 27, 28, 29, 30, 31, 32, 33, 34, 35, 36, 37, 38, 39, 40, 41, 42, 43, 44, 45, 46, 47, 48, 53, 54, 55, 56, 67, 68, 69, 57, 58, 59, 60, 61, 62, 63, 64, 65, 66, 70, 71, 72, 73] (by decide +kernel) (by decide +kernel)
set_option maxRecDepth 20000 in
theorem gX6_addItem_X6_beginEdit : GoodIn wsX6_addItem (wsV RX6 51 RX6 yX6_beginEdit wsX6_beginEdit) := goodIn_app (goodIn_of _ (by decide +kernel)) ggX6_addItem_X6_beginEdit
set_option maxRecDepth 20000 in
theorem ggX6_addItem_X0_append : GoodIn wsX6_addItem wsX0_append := goodIn_r _ [52, 29, 36, 37, 38, 57, 58, 59, 60, 61, 62, 63, 64, 65, 66] (by decide +kernel) (by decide +kernel)
set_option maxRecDepth 20000 in
theorem gX6_addItem_X0_append : GoodIn wsX6_addItem (wsV RX6 54 RX0 yX0_append wsX0_append) := goodIn_app (goodIn_of _ (by decide +kernel)) ggX6_addItem_X0_append
theorem dX6_addItem_0 : decode cX6_addItem 0 = .ok (.iload_n 1, 1) := by decide +kernel
theorem dX6_addItem_1 : decode cX6_addItem 1 = .ok (.invokestatic 39, 3) := by decide +kernel
theorem dX6_addItem_4 : decode cX6_addItem 4 = .ok (.ifCond .eq 25, 3) := by decide +kernel
theorem dX6_addItem_7 : decode cX6_addItem 7 = .ok (.iload_n 2, 1) := by decide +kernel
theorem dX6_addItem_8 : decode cX6_addItem 8 = .ok (.iconst 1, 1) := by decide +kernel
theorem dX6_addItem_9 : decode cX6_addItem 9 = .ok (.sipush 1000, 3) := by decide +kernel
theorem dX6_addItem_12 : decode cX6_addItem 12 = .ok (.invokestatic 43, 3) := by decide +kernel
theorem dX6_addItem_15 : decode cX6_addItem 15 = .ok (.ifCond .eq 14, 3) := by decide +kernel
theorem dX6_addItem_18 : decode cX6_addItem 18 = .ok (.iload_n 3, 1) := by decide +kernel
theorem dX6_addItem_19 : decode cX6_addItem 19 = .ok (.iconst 1, 1) := by decide +kernel
theorem dX6_addItem_20 : decode cX6_addItem 20 = .ok (.sipush 4095, 3) := by decide +kernel
theorem dX6_addItem_23 : decode cX6_addItem 23 = .ok (.invokestatic 43, 3) := by decide +kernel
theorem dX6_addItem_26 : decode cX6_addItem 26 = .ok (.ifCond .ne 5, 3) := by decide +kernel
theorem dX6_addItem_29 : decode cX6_addItem 29 = .ok (.iconst (-1), 1) := by decide +kernel
theorem dX6_addItem_30 : decode cX6_addItem 30 = .ok (.ireturn, 1) := by decide +kernel
theorem dX6_addItem_31 : decode cX6_addItem 31 = .ok (.aload_n 0, 1) := by decide +kernel
theorem dX6_addItem_32 : decode cX6_addItem 32 = .ok (.getfield 12, 3) := by decide +kernel
theorem dX6_addItem_35 : decode cX6_addItem 35 = .ok (.getfield 47, 3) := by decide +kernel
theorem dX6_addItem_38 : decode cX6_addItem 38 = .ok (.bipush 12, 2) := by decide +kernel
theorem dX6_addItem_40 : decode cX6_addItem 40 = .ok (.if_icmp .lt 6, 3) := by decide +kernel
theorem dX6_addItem_43 : decode cX6_addItem 43 = .ok (.bipush (-3), 2) := by decide +kernel
theorem dX6_addItem_45 : decode cX6_addItem 45 = .ok (.ireturn, 1) := by decide +kernel
theorem dX6_addItem_46 : decode cX6_addItem 46 = .ok (.aload_n 0, 1) := by decide +kernel
theorem dX6_addItem_47 : decode cX6_addItem 47 = .ok (.invokevirtual 51, 3) := by decide +kernel
theorem dX6_addItem_50 : decode cX6_addItem 50 = .ok (.aload_n 0, 1) := by decide +kernel
theorem dX6_addItem_51 : decode cX6_addItem 51 = .ok (.getfield 12, 3) := by decide +kernel
theorem dX6_addItem_54 : decode cX6_addItem 54 = .ok (.iload_n 1, 1) := by decide +kernel
theorem dX6_addItem_55 : decode cX6_addItem 55 = .ok (.iload_n 2, 1) := by decide +kernel
theorem dX6_addItem_56 : decode cX6_addItem 56 = .ok (.iload_n 3, 1) := by decide +kernel
theorem dX6_addItem_57 : decode cX6_addItem 57 = .ok (.invokevirtual 54, 3) := by decide +kernel
theorem dX6_addItem_60 : decode cX6_addItem 60 = .ok (.ireturn, 1) := by decide +kernel
theorem dX6_itemCount_0 : decode cX6_itemCount 0 = .ok (.aload_n 0, 1) := by decide +kernel
theorem dX6_itemCount_1 : decode cX6_itemCount 1 = .ok (.getfield 12, 3) := by decide +kernel
theorem dX6_itemCount_4 : decode cX6_itemCount 4 = .ok (.getfield 47, 3) := by decide +kernel
theorem dX6_itemCount_7 : decode cX6_itemCount 7 = .ok (.ireturn, 1) := by decide +kernel
set_option maxRecDepth 20000 in
theorem ggX6_setPrice_X6_isItem : GoodIn wsX6_setPrice wsX6_isItem := goodIn_r _ [8, 2, 9, 58, 59, 60, 61, 62, 63, 64, 65, 66, 67, 68, 69, 70, 71] (by decide +kernel) (by decide +kernel)
set_option maxRecDepth 20000 in
theorem gX6_setPrice_X6_isItem : GoodIn wsX6_setPrice (wsV RX6 58 RX6 yX6_isItem wsX6_isItem) := goodIn_app (goodIn_of _ (by decide +kernel)) ggX6_setPrice_X6_isItem
set_option maxRecDepth 20000 in
theorem ggX6_setPrice_X6_isMonth : GoodIn wsX6_setPrice wsX6_isMonth := goodIn_r _ [12] (by decide +kernel) (by decide +kernel)
set_option maxRecDepth 20000 in
theorem gX6_setPrice_X6_isMonth : GoodIn wsX6_setPrice (va_wsS RX6 61 yX6_isMonth wsX6_isMonth) := goodIn_app (goodIn_of _ (by decide +kernel)) ggX6_setPrice_X6_isMonth
set_option maxRecDepth 20000 in
theorem ggX6_setPrice_X6_isWithin : GoodIn wsX6_setPrice wsX6_isWithin := goodIn_r _ [15] (by decide +kernel) (by decide +kernel)
set_option maxRecDepth 20000 in
theorem gX6_setPrice_X6_isWithin : GoodIn wsX6_setPrice (va_wsS RX6 43 yX6_isWithin wsX6_isWithin) := goodIn_app (goodIn_of _ (by decide +kernel)) ggX6_setPrice_X6_isWithin
set_option maxRecDepth 20000 in
theorem ggX6_setPrice_X6_cell : GoodIn wsX6_setPrice wsX6_cell := goodIn_r _ [18] (by decide +kernel) (by decide +kernel)
set_option maxRecDepth 20000 in
theorem gX6_setPrice_X6_cell : GoodIn wsX6_setPrice (va_wsS RX6 69 yX6_cell wsX6_cell) := goodIn_app (goodIn_of _ (by decide +kernel)) ggX6_setPrice_X6_cell
set_option maxRecDepth 20000 in
theorem ggX6_setPrice_X6_beginEdit : GoodIn wsX6_setPrice wsX6_beginEdit := goodIn_r _ [22, 23, 2, 24, 25, 26, 27, 28, 29, 30, 31, 32, 33, 34, 35, 36, 37, 38, 39, 40, 41, 42, 43, 44, 45, 46, 47, 48, 49, 50, 51, 52, 53, 54, 55, 56, 57, 58, 59, 60, 61, 72, 73, 74, 62, 63, 64, 65, 66, 67, 68, 69, 70, 71, 75, 76, 77, 78] (by decide +kernel) (by decide +kernel)
set_option maxRecDepth 20000 in
theorem gX6_setPrice_X6_beginEdit : GoodIn wsX6_setPrice (wsV RX6 51 RX6 yX6_beginEdit wsX6_beginEdit) := goodIn_app (goodIn_of _ (by decide +kernel)) ggX6_setPrice_X6_beginEdit
theorem dX6_setPrice_0 : decode cX6_setPrice 0 = .ok (.aload_n 0, 1) := by decide +kernel
theorem dX6_setPrice_1 : decode cX6_setPrice 1 = .ok (.iload_n 1, 1) := by decide +kernel
theorem dX6_setPrice_2 : decode cX6_setPrice 2 = .ok (.invokevirtual 58, 3) := by decide +kernel
theorem dX6_setPrice_5 : decode cX6_setPrice 5 = .ok (.ifCond .eq 20, 3) := by decide +kernel
theorem dX6_setPrice_8 : decode cX6_setPrice 8 = .ok (.iload_n 2, 1) := by decide +kernel
theorem dX6_setPrice_9 : decode cX6_setPrice 9 = .ok (.invokestatic 61, 3) := by decide +kernel
theorem dX6_setPrice_12 : decode cX6_setPrice 12 = .ok (.ifCond .eq 13, 3) := by decide +kernel
theorem dX6_setPrice_15 : decode cX6_setPrice 15 = .ok (.iload_n 3, 1) := by decide +kernel
theorem dX6_setPrice_16 : decode cX6_setPrice 16 = .ok (.iconst 0, 1) := by decide +kernel
theorem dX6_setPrice_17 : decode cX6_setPrice 17 = .ok (.ldc 64, 2) := by decide +kernel
theorem dX6_setPrice_19 : decode cX6_setPrice 19 = .ok (.invokestatic 43, 3) := by decide +kernel
theorem dX6_setPrice_22 : decode cX6_setPrice 22 = .ok (.ifCond .ne 5, 3) := by decide +kernel
theorem dX6_setPrice_25 : decode cX6_setPrice 25 = .ok (.iconst (-1), 1) := by decide +kernel
theorem dX6_setPrice_26 : decode cX6_setPrice 26 = .ok (.ireturn, 1) := by decide +kernel
theorem dX6_setPrice_27 : decode cX6_setPrice 27 = .ok (.aload_n 0, 1) := by decide +kernel
theorem dX6_setPrice_28 : decode cX6_setPrice 28 = .ok (.getfield 12, 3) := by decide +kernel
theorem dX6_setPrice_31 : decode cX6_setPrice 31 = .ok (.getfield 65, 3) := by decide +kernel
theorem dX6_setPrice_34 : decode cX6_setPrice 34 = .ok (.iload_n 1, 1) := by decide +kernel
theorem dX6_setPrice_35 : decode cX6_setPrice 35 = .ok (.iload_n 2, 1) := by decide +kernel
theorem dX6_setPrice_36 : decode cX6_setPrice 36 = .ok (.invokestatic 69, 3) := by decide +kernel
theorem dX6_setPrice_39 : decode cX6_setPrice 39 = .ok (.iaload, 1) := by decide +kernel
theorem dX6_setPrice_40 : decode cX6_setPrice 40 = .ok (.istore 4, 2) := by decide +kernel
theorem dX6_setPrice_42 : decode cX6_setPrice 42 = .ok (.aload_n 0, 1) := by decide +kernel
theorem dX6_setPrice_43 : decode cX6_setPrice 43 = .ok (.invokevirtual 51, 3) := by decide +kernel
theorem dX6_setPrice_46 : decode cX6_setPrice 46 = .ok (.aload_n 0, 1) := by decide +kernel
theorem dX6_setPrice_47 : decode cX6_setPrice 47 = .ok (.getfield 12, 3) := by decide +kernel
theorem dX6_setPrice_50 : decode cX6_setPrice 50 = .ok (.getfield 65, 3) := by decide +kernel
theorem dX6_setPrice_53 : decode cX6_setPrice 53 = .ok (.iload_n 1, 1) := by decide +kernel
theorem dX6_setPrice_54 : decode cX6_setPrice 54 = .ok (.iload_n 2, 1) := by decide +kernel
theorem dX6_setPrice_55 : decode cX6_setPrice 55 = .ok (.invokestatic 69, 3) := by decide +kernel
theorem dX6_setPrice_58 : decode cX6_setPrice 58 = .ok (.iload_n 3, 1) := by decide +kernel
theorem dX6_setPrice_59 : decode cX6_setPrice 59 = .ok (.iastore, 1) := by decide +kernel
theorem dX6_setPrice_60 : decode cX6_setPrice 60 = .ok (.iload 4, 2) := by decide +kernel
theorem dX6_setPrice_62 : decode cX6_setPrice 62 = .ok (.ireturn, 1) := by decide +kernel
set_option maxRecDepth 20000 in
theorem ggX6_quotedPrice_X6_isItem : GoodIn wsX6_quotedPrice wsX6_isItem := goodIn_r _ [7, 1, 8, 15, 16, 17, 18, 19, 20, 21, 22, 23, 24, 25, 26, 27, 28] (by decide +kernel) (by decide +kernel)
set_option maxRecDepth 20000 in
theorem gX6_quotedPrice_X6_isItem : GoodIn wsX6_quotedPrice (wsV RX6 58 RX6 yX6_isItem wsX6_isItem) := goodIn_app (goodIn_of _ (by decide +kernel)) ggX6_quotedPrice_X6_isItem
set_option maxRecDepth 20000 in
theorem ggX6_quotedPrice_X6_isMonth : GoodIn wsX6_quotedPrice wsX6_isMonth := goodIn_r _ [11] (by decide +kernel) (by decide +kernel)
set_option maxRecDepth 20000 in
theorem gX6_quotedPrice_X6_isMonth : GoodIn wsX6_quotedPrice (va_wsS RX6 61 yX6_isMonth wsX6_isMonth) := goodIn_app (goodIn_of _ (by decide +kernel)) ggX6_quotedPrice_X6_isMonth
set_option maxRecDepth 20000 in
theorem ggX6_quotedPrice_X6_cell : GoodIn wsX6_quotedPrice wsX6_cell := goodIn_r _ [14] (by decide +kernel) (by decide +kernel)
set_option maxRecDepth 20000 in
theorem gX6_quotedPrice_X6_cell : GoodIn wsX6_quotedPrice (va_wsS RX6 69 yX6_cell wsX6_cell) := goodIn_app (goodIn_of _ (by decide +kernel)) ggX6_quotedPrice_X6_cell
theorem dX6_quotedPrice_0 : decode cX6_quotedPrice 0 = .ok (.aload_n 0, 1) := by decide +kernel
theorem dX6_quotedPrice_1 : decode cX6_quotedPrice 1 = .ok (.iload_n 1, 1) := by decide +kernel
theorem dX6_quotedPrice_2 : decode cX6_quotedPrice 2 = .ok (.invokevirtual 58, 3) := by decide +kernel
theorem dX6_quotedPrice_5 : decode cX6_quotedPrice 5 = .ok (.ifCond .eq 10, 3) := by decide +kernel
theorem dX6_quotedPrice_8 : decode cX6_quotedPrice 8 = .ok (.iload_n 2, 1) := by decide +kernel
theorem dX6_quotedPrice_9 : decode cX6_quotedPrice 9 = .ok (.invokestatic 61, 3) := by decide +kernel
theorem dX6_quotedPrice_12 : decode cX6_quotedPrice 12 = .ok (.ifCond .ne 5, 3) := by decide +kernel
theorem dX6_quotedPrice_15 : decode cX6_quotedPrice 15 = .ok (.iconst (-1), 1) := by decide +kernel
theorem dX6_quotedPrice_16 : decode cX6_quotedPrice 16 = .ok (.ireturn, 1) := by decide +kernel
theorem dX6_quotedPrice_17 : decode cX6_quotedPrice 17 = .ok (.aload_n 0, 1) := by decide +kernel
theorem dX6_quotedPrice_18 : decode cX6_quotedPrice 18 = .ok (.getfield 12, 3) := by decide +kernel
theorem dX6_quotedPrice_21 : decode cX6_quotedPrice 21 = .ok (.getfield 65, 3) := by decide +kernel
theorem dX6_quotedPrice_24 : decode cX6_quotedPrice 24 = .ok (.iload_n 1, 1) := by decide +kernel
theorem dX6_quotedPrice_25 : decode cX6_quotedPrice 25 = .ok (.iload_n 2, 1) := by decide +kernel
theorem dX6_quotedPrice_26 : decode cX6_quotedPrice 26 = .ok (.invokestatic 69, 3) := by decide +kernel
theorem dX6_quotedPrice_29 : decode cX6_quotedPrice 29 = .ok (.iaload, 1) := by decide +kernel
theorem dX6_quotedPrice_30 : decode cX6_quotedPrice 30 = .ok (.ireturn, 1) := by decide +kernel
set_option maxRecDepth 20000 in
theorem ggX6_appendCharacter_X6_isWithin : GoodIn wsX6_appendCharacter wsX6_isWithin := goodIn_r _ [6] (by decide +kernel) (by decide +kernel)
set_option maxRecDepth 20000 in
theorem gX6_appendCharacter_X6_isWithin : GoodIn wsX6_appendCharacter (va_wsS RX6 43 yX6_isWithin wsX6_isWithin) := goodIn_app (goodIn_of _ (by decide +kernel)) ggX6_appendCharacter_X6_isWithin
set_option maxRecDepth 20000 in
theorem ggX6_appendCharacter_X4_append : GoodIn wsX6_appendCharacter wsX4_append := goodIn_r _ [11, 12, 13, 18, 19, 20, 21, 22, 23] (by decide +kernel) (by decide +kernel)
set_option maxRecDepth 20000 in
theorem gX6_appendCharacter_X4_append : GoodIn wsX6_appendCharacter (wsV RX6 76 RX4 yX4_append wsX4_append) := goodIn_app (goodIn_of _ (by decide +kernel)) ggX6_appendCharacter_X4_append
theorem dX6_appendCharacter_0 : decode cX6_appendCharacter 0 = .ok (.iload_n 1, 1) := by decide +kernel
theorem dX6_appendCharacter_1 : decode cX6_appendCharacter 1 = .ok (.iconst 0, 1) := by decide +kernel
theorem dX6_appendCharacter_2 : decode cX6_appendCharacter 2 = .ok (.sipush 255, 3) := by decide +kernel
theorem dX6_appendCharacter_5 : decode cX6_appendCharacter 5 = .ok (.invokestatic 43, 3) := by decide +kernel
theorem dX6_appendCharacter_8 : decode cX6_appendCharacter 8 = .ok (.ifCond .ne 5, 3) := by decide +kernel
theorem dX6_appendCharacter_11 : decode cX6_appendCharacter 11 = .ok (.iconst (-1), 1) := by decide +kernel
theorem dX6_appendCharacter_12 : decode cX6_appendCharacter 12 = .ok (.ireturn, 1) := by decide +kernel
theorem dX6_appendCharacter_13 : decode cX6_appendCharacter 13 = .ok (.aload_n 0, 1) := by decide +kernel
theorem dX6_appendCharacter_14 : decode cX6_appendCharacter 14 = .ok (.getfield 26, 3) := by decide +kernel
theorem dX6_appendCharacter_17 : decode cX6_appendCharacter 17 = .ok (.getfield 73, 3) := by decide +kernel
theorem dX6_appendCharacter_20 : decode cX6_appendCharacter 20 = .ok (.bipush 60, 2) := by decide +kernel
theorem dX6_appendCharacter_22 : decode cX6_appendCharacter 22 = .ok (.if_icmp .lt 6, 3) := by decide +kernel
theorem dX6_appendCharacter_25 : decode cX6_appendCharacter 25 = .ok (.bipush (-3), 2) := by decide +kernel
theorem dX6_appendCharacter_27 : decode cX6_appendCharacter 27 = .ok (.ireturn, 1) := by decide +kernel
theorem dX6_appendCharacter_28 : decode cX6_appendCharacter 28 = .ok (.aload_n 0, 1) := by decide +kernel
theorem dX6_appendCharacter_29 : decode cX6_appendCharacter 29 = .ok (.getfield 26, 3) := by decide +kernel
theorem dX6_appendCharacter_32 : decode cX6_appendCharacter 32 = .ok (.iload_n 1, 1) := by decide +kernel
theorem dX6_appendCharacter_33 : decode cX6_appendCharacter 33 = .ok (.invokevirtual 76, 3) := by decide +kernel
theorem dX6_appendCharacter_36 : decode cX6_appendCharacter 36 = .ok (.ireturn, 1) := by decide +kernel
set_option maxRecDepth 20000 in
theorem ggX6_clearText_X4_clear : GoodIn wsX6_clearText wsX4_clear := goodIn_r _ [6, 7, 12, 13, 14, 15, 16, 17] (by decide +kernel) (by decide +kernel)
set_option maxRecDepth 20000 in
theorem gX6_clearText_X4_clear : GoodIn wsX6_clearText (wsV RX6 79 RX4 yX4_clear wsX4_clear) := goodIn_app (goodIn_of _ (by decide +kernel)) ggX6_clearText_X4_clear
theorem dX6_clearText_0 : decode cX6_clearText 0 = .ok (.aload_n 0, 1) := by decide +kernel
theorem dX6_clearText_1 : decode cX6_clearText 1 = .ok (.getfield 26, 3) := by decide +kernel
theorem dX6_clearText_4 : decode cX6_clearText 4 = .ok (.invokevirtual 79, 3) := by decide +kernel
theorem dX6_clearText_7 : decode cX6_clearText 7 = .ok (.ireturn, 1) := by decide +kernel
set_option maxRecDepth 20000 in
theorem ggX6_importPrices_X4_read : GoodIn wsX6_importPrices wsX4_read := goodIn_r _ [12, 13, 14, 15, 16, 17, 11, 18, 19, 20, 21, 22, 23, 24, 25, 26, 27, 28, 29, 30, 31, 32, 33, 34, 35, 36, 37, 38, 100, 101, 102, 103, 104, 105] (by decide +kernel) (by decide +kernel)
set_option maxRecDepth 20000 in
theorem gX6_importPrices_X4_read : GoodIn wsX6_importPrices (wsV RX6 83 RX4 yX4_read wsX4_read) := goodIn_app (goodIn_of _ (by decide +kernel)) ggX6_importPrices_X4_read
set_option maxRecDepth 20000 in
theorem ggX6_importPrices_X6_beginEdit : GoodIn wsX6_importPrices wsX6_beginEdit := goodIn_r _ [43, 44, 2, 45, 46, 47, 48, 49, 50, 51, 52, 53, 54, 55, 56, 57, 58, 59, 60, 61, 62, 63, 64, 65, 66, 67, 68, 69, 70, 71, 72, 73, 74, 75, 76, 77, 78, 86, 87, 88, 89, 106, 107, 108, 90, 91, 92, 93, 94, 95, 96, 97, 98, 99, 109, 110, 111, 112] (by decide +kernel) (by decide +kernel)
set_option maxRecDepth 20000 in
theorem gX6_importPrices_X6_beginEdit : GoodIn wsX6_importPrices (wsV RX6 51 RX6 yX6_beginEdit wsX6_beginEdit) := goodIn_app (goodIn_of _ (by decide +kernel)) ggX6_importPrices_X6_beginEdit
set_option maxRecDepth 20000 in
theorem ggX6_importPrices_X6_cell : GoodIn wsX6_importPrices wsX6_cell := goodIn_r _ [81] (by decide +kernel) (by decide +kernel)
set_option maxRecDepth 20000 in
theorem gX6_importPrices_X6_cell : GoodIn wsX6_importPrices (va_wsS RX6 69 yX6_cell wsX6_cell) := goodIn_app (goodIn_of _ (by decide +kernel)) ggX6_importPrices_X6_cell
set_option maxRecDepth 20000 in
theorem ggX6_importPrices_X4_clear : GoodIn wsX6_importPrices wsX4_clear := goodIn_r _ [85, 14, 100, 101, 102, 103, 104, 105] (by decide +kernel) (by decide +kernel)
set_option maxRecDepth 20000 in
theorem gX6_importPrices_X4_clear : GoodIn wsX6_importPrices (wsV RX6 79 RX4 yX4_clear wsX4_clear) := goodIn_app (goodIn_of _ (by decide +kernel)) ggX6_importPrices_X4_clear
theorem dX6_importPrices_0 : decode cX6_importPrices 0 = .ok (.aload_n 0, 1) := by decide +kernel
theorem dX6_importPrices_1 : decode cX6_importPrices 1 = .ok (.getfield 26, 3) := by decide +kernel
theorem dX6_importPrices_4 : decode cX6_importPrices 4 = .ok (.aload_n 0, 1) := by decide +kernel
theorem dX6_importPrices_5 : decode cX6_importPrices 5 = .ok (.getfield 12, 3) := by decide +kernel
theorem dX6_importPrices_8 : decode cX6_importPrices 8 = .ok (.getfield 47, 3) := by decide +kernel
theorem dX6_importPrices_11 : decode cX6_importPrices 11 = .ok (.invokevirtual 83, 3) := by decide +kernel
theorem dX6_importPrices_14 : decode cX6_importPrices 14 = .ok (.istore_n 1, 1) := by decide +kernel
theorem dX6_importPrices_15 : decode cX6_importPrices 15 = .ok (.iload_n 1, 1) := by decide +kernel
theorem dX6_importPrices_16 : decode cX6_importPrices 16 = .ok (.ifCond .ge 5, 3) := by decide +kernel
theorem dX6_importPrices_19 : decode cX6_importPrices 19 = .ok (.iload_n 1, 1) := by decide +kernel
theorem dX6_importPrices_20 : decode cX6_importPrices 20 = .ok (.ireturn, 1) := by decide +kernel
theorem dX6_importPrices_21 : decode cX6_importPrices 21 = .ok (.aload_n 0, 1) := by decide +kernel
theorem dX6_importPrices_22 : decode cX6_importPrices 22 = .ok (.invokevirtual 51, 3) := by decide +kernel
theorem dX6_importPrices_25 : decode cX6_importPrices 25 = .ok (.iconst 0, 1) := by decide +kernel
theorem dX6_importPrices_26 : decode cX6_importPrices 26 = .ok (.istore_n 2, 1) := by decide +kernel
theorem dX6_importPrices_27 : decode cX6_importPrices 27 = .ok (.iload_n 2, 1) := by decide +kernel
theorem dX6_importPrices_28 : decode cX6_importPrices 28 = .ok (.iload_n 1, 1) := by decide +kernel
theorem dX6_importPrices_29 : decode cX6_importPrices 29 = .ok (.if_icmp .ge 53, 3) := by decide +kernel
theorem dX6_importPrices_32 : decode cX6_importPrices 32 = .ok (.iload_n 2, 1) := by decide +kernel
theorem dX6_importPrices_33 : decode cX6_importPrices 33 = .ok (.bipush 10, 2) := by decide +kernel
theorem dX6_importPrices_35 : decode cX6_importPrices 35 = .ok (.if_icmp .ge 47, 3) := by decide +kernel
theorem dX6_importPrices_38 : decode cX6_importPrices 38 = .ok (.aload_n 0, 1) := by decide +kernel
theorem dX6_importPrices_39 : decode cX6_importPrices 39 = .ok (.getfield 12, 3) := by decide +kernel
theorem dX6_importPrices_42 : decode cX6_importPrices 42 = .ok (.getfield 65, 3) := by decide +kernel
theorem dX6_importPrices_45 : decode cX6_importPrices 45 = .ok (.aload_n 0, 1) := by decide +kernel
theorem dX6_importPrices_46 : decode cX6_importPrices 46 = .ok (.getfield 26, 3) := by decide +kernel
theorem dX6_importPrices_49 : decode cX6_importPrices 49 = .ok (.getfield 86, 3) := by decide +kernel
theorem dX6_importPrices_52 : decode cX6_importPrices 52 = .ok (.iload_n 2, 1) := by decide +kernel
theorem dX6_importPrices_53 : decode cX6_importPrices 53 = .ok (.iaload, 1) := by decide +kernel
theorem dX6_importPrices_54 : decode cX6_importPrices 54 = .ok (.aload_n 0, 1) := by decide +kernel
theorem dX6_importPrices_55 : decode cX6_importPrices 55 = .ok (.getfield 26, 3) := by decide +kernel
theorem dX6_importPrices_58 : decode cX6_importPrices 58 = .ok (.getfield 89, 3) := by decide +kernel
theorem dX6_importPrices_61 : decode cX6_importPrices 61 = .ok (.iload_n 2, 1) := by decide +kernel
theorem dX6_importPrices_62 : decode cX6_importPrices 62 = .ok (.iaload, 1) := by decide +kernel
theorem dX6_importPrices_63 : decode cX6_importPrices 63 = .ok (.invokestatic 69, 3) := by decide +kernel
theorem dX6_importPrices_66 : decode cX6_importPrices 66 = .ok (.aload_n 0, 1) := by decide +kernel
theorem dX6_importPrices_67 : decode cX6_importPrices 67 = .ok (.getfield 26, 3) := by decide +kernel
theorem dX6_importPrices_70 : decode cX6_importPrices 70 = .ok (.getfield 92, 3) := by decide +kernel
theorem dX6_importPrices_73 : decode cX6_importPrices 73 = .ok (.iload_n 2, 1) := by decide +kernel
theorem dX6_importPrices_74 : decode cX6_importPrices 74 = .ok (.iaload, 1) := by decide +kernel
theorem dX6_importPrices_75 : decode cX6_importPrices 75 = .ok (.iastore, 1) := by decide +kernel
theorem dX6_importPrices_76 : decode cX6_importPrices 76 = .ok (.iinc 2 1, 3) := by decide +kernel
theorem dX6_importPrices_79 : decode cX6_importPrices 79 = .ok (.goto (-52), 3) := by decide +kernel
theorem dX6_importPrices_82 : decode cX6_importPrices 82 = .ok (.aload_n 0, 1) := by decide +kernel
theorem dX6_importPrices_83 : decode cX6_importPrices 83 = .ok (.getfield 26, 3) := by decide +kernel
theorem dX6_importPrices_86 : decode cX6_importPrices 86 = .ok (.invokevirtual 79, 3) := by decide +kernel
theorem dX6_importPrices_89 : decode cX6_importPrices 89 = .ok (.pop, 1) := by decide +kernel
theorem dX6_importPrices_90 : decode cX6_importPrices 90 = .ok (.iload_n 1, 1) := by decide +kernel
theorem dX6_importPrices_91 : decode cX6_importPrices 91 = .ok (.ireturn, 1) := by decide +kernel
set_option maxRecDepth 20000 in
theorem ggX6_replaceItem_X6_isItem : GoodIn wsX6_replaceItem wsX6_isItem := goodIn_r _ [6, 1, 7, 72, 73, 74, 75, 76, 77, 78, 79, 80, 81, 82, 83, 84, 85] (by decide +kernel) (by decide +kernel)
set_option maxRecDepth 20000 in
theorem gX6_replaceItem_X6_isItem : GoodIn wsX6_replaceItem (wsV RX6 58 RX6 yX6_isItem wsX6_isItem) := goodIn_app (goodIn_of _ (by decide +kernel)) ggX6_replaceItem_X6_isItem
set_option maxRecDepth 20000 in
theorem ggX6_replaceItem_X6_isMonth : GoodIn wsX6_replaceItem wsX6_isMonth := goodIn_r _ [10] (by decide +kernel) (by decide +kernel)
set_option maxRecDepth 20000 in
theorem gX6_replaceItem_X6_isMonth : GoodIn wsX6_replaceItem (va_wsS RX6 61 yX6_isMonth wsX6_isMonth) := goodIn_app (goodIn_of _ (by decide +kernel)) ggX6_replaceItem_X6_isMonth
set_option maxRecDepth 20000 in
theorem ggX6_replaceItem_X0_canLink : GoodIn wsX6_replaceItem wsX0_canLink := goodIn_r _ [15, 16, 17, 18, 19, 14, 20, 21, 22, 23, 24, 25, 26, 27, 28, 29, 5, 30, 76, 77, 78, 79, 80, 81, 82, 83, 84, 85] (by decide +kernel) (by decide +kernel)
set_option maxRecDepth 20000 in
theorem gX6_replaceItem_X0_canLink : GoodIn wsX6_replaceItem (wsV RX6 95 RX0 yX0_canLink wsX0_canLink) := goodIn_app (goodIn_of _ (by decide +kernel)) ggX6_replaceItem_X0_canLink
set_option maxRecDepth 20000 in
theorem ggX6_replaceItem_X6_beginEdit : GoodIn wsX6_replaceItem wsX6_beginEdit := goodIn_r _ [34, 35, 1, 36, 37, 38, 39, 40, 41, 42, 43, 44, 45, 46, 47, 14, 48, 49, 50, 51, 52, 53, 54, 55, 16, 56, 27, 21, 22, 57, 28, 58, 59, 60, 61, 62, 63, 72, 73, 74, 75, 86, 87, 88, 76, 77, 78, 79, 80, 81, 82, 83, 84, 85, 89, 90, 91, 92] (by decide +kernel) (by decide +kernel)
set_option maxRecDepth 20000 in
theorem gX6_replaceItem_X6_beginEdit : GoodIn wsX6_replaceItem (wsV RX6 51 RX6 yX6_beginEdit wsX6_beginEdit) := goodIn_app (goodIn_of _ (by decide +kernel)) ggX6_replaceItem_X6_beginEdit
set_option maxRecDepth 20000 in
theorem ggX6_replaceItem_X0_link : GoodIn wsX6_replaceItem wsX0_link := goodIn_r _ [67, 21, 22, 57, 76, 77, 78, 79, 80, 81, 82, 83, 84, 85] (by decide +kernel) (by decide +kernel)
set_option maxRecDepth 20000 in
theorem gX6_replaceItem_X0_link : GoodIn wsX6_replaceItem (wsV RX6 98 RX0 yX0_link wsX0_link) := goodIn_app (goodIn_of _ (by decide +kernel)) ggX6_replaceItem_X0_link
set_option maxRecDepth 20000 in
theorem ggX6_replaceItem_X0_linkCount : GoodIn wsX6_replaceItem wsX0_linkCount := goodIn_r _ [71, 49, 21, 76, 77, 78, 79, 80, 81, 82, 83, 84, 85] (by decide +kernel) (by decide +kernel)
set_option maxRecDepth 20000 in
theorem gX6_replaceItem_X0_linkCount : GoodIn wsX6_replaceItem (wsV RX6 102 RX0 yX0_linkCount wsX0_linkCount) := goodIn_app (goodIn_of _ (by decide +kernel)) ggX6_replaceItem_X0_linkCount
theorem dX6_replaceItem_0 : decode cX6_replaceItem 0 = .ok (.aload_n 0, 1) := by decide +kernel
theorem dX6_replaceItem_1 : decode cX6_replaceItem 1 = .ok (.iload_n 1, 1) := by decide +kernel
theorem dX6_replaceItem_2 : decode cX6_replaceItem 2 = .ok (.invokevirtual 58, 3) := by decide +kernel
theorem dX6_replaceItem_5 : decode cX6_replaceItem 5 = .ok (.ifCond .eq 23, 3) := by decide +kernel
theorem dX6_replaceItem_8 : decode cX6_replaceItem 8 = .ok (.aload_n 0, 1) := by decide +kernel
theorem dX6_replaceItem_9 : decode cX6_replaceItem 9 = .ok (.iload_n 2, 1) := by decide +kernel
theorem dX6_replaceItem_10 : decode cX6_replaceItem 10 = .ok (.invokevirtual 58, 3) := by decide +kernel
theorem dX6_replaceItem_13 : decode cX6_replaceItem 13 = .ok (.ifCond .eq 15, 3) := by decide +kernel
theorem dX6_replaceItem_16 : decode cX6_replaceItem 16 = .ok (.iload_n 1, 1) := by decide +kernel
theorem dX6_replaceItem_17 : decode cX6_replaceItem 17 = .ok (.iload_n 2, 1) := by decide +kernel
theorem dX6_replaceItem_18 : decode cX6_replaceItem 18 = .ok (.if_icmp .eq 10, 3) := by decide +kernel
theorem dX6_replaceItem_21 : decode cX6_replaceItem 21 = .ok (.iload_n 3, 1) := by decide +kernel
theorem dX6_replaceItem_22 : decode cX6_replaceItem 22 = .ok (.invokestatic 61, 3) := by decide +kernel
theorem dX6_replaceItem_25 : decode cX6_replaceItem 25 = .ok (.ifCond .ne 5, 3) := by decide +kernel
theorem dX6_replaceItem_28 : decode cX6_replaceItem 28 = .ok (.iconst (-1), 1) := by decide +kernel
theorem dX6_replaceItem_29 : decode cX6_replaceItem 29 = .ok (.ireturn, 1) := by decide +kernel
theorem dX6_replaceItem_30 : decode cX6_replaceItem 30 = .ok (.aload_n 0, 1) := by decide +kernel
theorem dX6_replaceItem_31 : decode cX6_replaceItem 31 = .ok (.getfield 12, 3) := by decide +kernel
theorem dX6_replaceItem_34 : decode cX6_replaceItem 34 = .ok (.iload_n 1, 1) := by decide +kernel
theorem dX6_replaceItem_35 : decode cX6_replaceItem 35 = .ok (.iload_n 2, 1) := by decide +kernel
theorem dX6_replaceItem_36 : decode cX6_replaceItem 36 = .ok (.iload_n 3, 1) := by decide +kernel
theorem dX6_replaceItem_37 : decode cX6_replaceItem 37 = .ok (.invokevirtual 95, 3) := by decide +kernel
theorem dX6_replaceItem_40 : decode cX6_replaceItem 40 = .ok (.ifCond .ne 6, 3) := by decide +kernel
theorem dX6_replaceItem_43 : decode cX6_replaceItem 43 = .ok (.bipush (-2), 2) := by decide +kernel
theorem dX6_replaceItem_45 : decode cX6_replaceItem 45 = .ok (.ireturn, 1) := by decide +kernel
theorem dX6_replaceItem_46 : decode cX6_replaceItem 46 = .ok (.aload_n 0, 1) := by decide +kernel
theorem dX6_replaceItem_47 : decode cX6_replaceItem 47 = .ok (.invokevirtual 51, 3) := by decide +kernel
theorem dX6_replaceItem_50 : decode cX6_replaceItem 50 = .ok (.aload_n 0, 1) := by decide +kernel
theorem dX6_replaceItem_51 : decode cX6_replaceItem 51 = .ok (.getfield 12, 3) := by decide +kernel
theorem dX6_replaceItem_54 : decode cX6_replaceItem 54 = .ok (.iload_n 1, 1) := by decide +kernel
theorem dX6_replaceItem_55 : decode cX6_replaceItem 55 = .ok (.iload_n 2, 1) := by decide +kernel
theorem dX6_replaceItem_56 : decode cX6_replaceItem 56 = .ok (.iload_n 3, 1) := by decide +kernel
theorem dX6_replaceItem_57 : decode cX6_replaceItem 57 = .ok (.invokevirtual 98, 3) := by decide +kernel
theorem dX6_replaceItem_60 : decode cX6_replaceItem 60 = .ok (.aload_n 0, 1) := by decide +kernel
theorem dX6_replaceItem_61 : decode cX6_replaceItem 61 = .ok (.getfield 12, 3) := by decide +kernel
theorem dX6_replaceItem_64 : decode cX6_replaceItem 64 = .ok (.invokevirtual 102, 3) := by decide +kernel
theorem dX6_replaceItem_67 : decode cX6_replaceItem 67 = .ok (.ireturn, 1) := by decide +kernel
set_option maxRecDepth 20000 in
theorem ggX6_endReplacement_X6_isItem : GoodIn wsX6_endReplacement wsX6_isItem := goodIn_r _ [6, 1, 7, 59, 60, 61, 62, 63, 64, 65, 66, 67, 68, 69, 70, 71, 72] (by decide +kernel) (by decide +kernel)
set_option maxRecDepth 20000 in
theorem gX6_endReplacement_X6_isItem : GoodIn wsX6_endReplacement (wsV RX6 58 RX6 yX6_isItem wsX6_isItem) := goodIn_app (goodIn_of _ (by decide +kernel)) ggX6_endReplacement_X6_isItem
set_option maxRecDepth 20000 in
theorem ggX6_endReplacement_X0_isLinked : GoodIn wsX6_endReplacement wsX0_isLinked := goodIn_r _ [12, 13, 14, 63, 64, 65, 66, 67, 68, 69, 70, 71, 72] (by decide +kernel) (by decide +kernel)
set_option maxRecDepth 20000 in
theorem gX6_endReplacement_X0_isLinked : GoodIn wsX6_endReplacement (wsV RX6 105 RX0 yX0_isLinked wsX0_isLinked) := goodIn_app (goodIn_of _ (by decide +kernel)) ggX6_endReplacement_X0_isLinked
set_option maxRecDepth 20000 in
theorem ggX6_endReplacement_X6_beginEdit : GoodIn wsX6_endReplacement wsX6_beginEdit := goodIn_r _ [18, 19, 1, 20, 21, 22, 23, 24, 25, 26, 27, 28, 29, 30, 31, 11, 32, 33, 34, 35, 36, 37, 38, 39, 40, 41, 42, 13, 14, 43, 44, 45, 46, 47, 48, 49, 50, 59, 60, 61, 62, 73, 74, 75, 63, 64, 65, 66, 67, 68, 69, 70, 71, 72, 76, 77, 78, 79] (by decide +kernel) (by decide +kernel)
set_option maxRecDepth 20000 in
theorem gX6_endReplacement_X6_beginEdit : GoodIn wsX6_endReplacement (wsV RX6 51 RX6 yX6_beginEdit wsX6_beginEdit) := goodIn_app (goodIn_of _ (by decide +kernel)) ggX6_endReplacement_X6_beginEdit
set_option maxRecDepth 20000 in
theorem ggX6_endReplacement_X0_unlink : GoodIn wsX6_endReplacement wsX0_unlink := goodIn_r _ [54, 14, 13, 63, 64, 65, 66, 67, 68, 69, 70, 71, 72] (by decide +kernel) (by decide +kernel)
set_option maxRecDepth 20000 in
theorem gX6_endReplacement_X0_unlink : GoodIn wsX6_endReplacement (wsV RX6 108 RX0 yX0_unlink wsX0_unlink) := goodIn_app (goodIn_of _ (by decide +kernel)) ggX6_endReplacement_X0_unlink
set_option maxRecDepth 20000 in
theorem ggX6_endReplacement_X0_linkCount : GoodIn wsX6_endReplacement wsX0_linkCount := goodIn_r _ [58, 33, 13, 63, 64, 65, 66, 67, 68, 69, 70, 71, 72] (by decide +kernel) (by decide +kernel)
set_option maxRecDepth 20000 in
theorem gX6_endReplacement_X0_linkCount : GoodIn wsX6_endReplacement (wsV RX6 102 RX0 yX0_linkCount wsX0_linkCount) := goodIn_app (goodIn_of _ (by decide +kernel)) ggX6_endReplacement_X0_linkCount
theorem dX6_endReplacement_0 : decode cX6_endReplacement 0 = .ok (.aload_n 0, 1) := by decide +kernel
theorem dX6_endReplacement_1 : decode cX6_endReplacement 1 = .ok (.iload_n 1, 1) := by decide +kernel
theorem dX6_endReplacement_2 : decode cX6_endReplacement 2 = .ok (.invokevirtual 58, 3) := by decide +kernel
theorem dX6_endReplacement_5 : decode cX6_endReplacement 5 = .ok (.ifCond .ne 5, 3) := by decide +kernel
theorem dX6_endReplacement_8 : decode cX6_endReplacement 8 = .ok (.iconst (-1), 1) := by decide +kernel
theorem dX6_endReplacement_9 : decode cX6_endReplacement 9 = .ok (.ireturn, 1) := by decide +kernel
theorem dX6_endReplacement_10 : decode cX6_endReplacement 10 = .ok (.aload_n 0, 1) := by decide +kernel
theorem dX6_endReplacement_11 : decode cX6_endReplacement 11 = .ok (.getfield 12, 3) := by decide +kernel
theorem dX6_endReplacement_14 : decode cX6_endReplacement 14 = .ok (.iload_n 1, 1) := by decide +kernel
theorem dX6_endReplacement_15 : decode cX6_endReplacement 15 = .ok (.invokevirtual 105, 3) := by decide +kernel
theorem dX6_endReplacement_18 : decode cX6_endReplacement 18 = .ok (.ifCond .ne 6, 3) := by decide +kernel
theorem dX6_endReplacement_21 : decode cX6_endReplacement 21 = .ok (.bipush (-2), 2) := by decide +kernel
theorem dX6_endReplacement_23 : decode cX6_endReplacement 23 = .ok (.ireturn, 1) := by decide +kernel
theorem dX6_endReplacement_24 : decode cX6_endReplacement 24 = .ok (.aload_n 0, 1) := by decide +kernel
theorem dX6_endReplacement_25 : decode cX6_endReplacement 25 = .ok (.invokevirtual 51, 3) := by decide +kernel
theorem dX6_endReplacement_28 : decode cX6_endReplacement 28 = .ok (.aload_n 0, 1) := by decide +kernel
theorem dX6_endReplacement_29 : decode cX6_endReplacement 29 = .ok (.getfield 12, 3) := by decide +kernel
theorem dX6_endReplacement_32 : decode cX6_endReplacement 32 = .ok (.iload_n 1, 1) := by decide +kernel
theorem dX6_endReplacement_33 : decode cX6_endReplacement 33 = .ok (.invokevirtual 108, 3) := by decide +kernel
theorem dX6_endReplacement_36 : decode cX6_endReplacement 36 = .ok (.aload_n 0, 1) := by decide +kernel
theorem dX6_endReplacement_37 : decode cX6_endReplacement 37 = .ok (.getfield 12, 3) := by decide +kernel
theorem dX6_endReplacement_40 : decode cX6_endReplacement 40 = .ok (.invokevirtual 102, 3) := by decide +kernel
theorem dX6_endReplacement_43 : decode cX6_endReplacement 43 = .ok (.ireturn, 1) := by decide +kernel
set_option maxRecDepth 20000 in
theorem ggX6_replacementOf_X6_isItem : GoodIn wsX6_replacementOf wsX6_isItem := goodIn_r _ [7, 1, 8, 9, 10, 11, 12, 13, 14, 15, 16, 17, 18, 19, 20, 21, 22] (by decide +kernel) (by decide +kernel)
set_option maxRecDepth 20000 in
theorem gX6_replacementOf_X6_isItem : GoodIn wsX6_replacementOf (wsV RX6 58 RX6 yX6_isItem wsX6_isItem) := goodIn_app (goodIn_of _ (by decide +kernel)) ggX6_replacementOf_X6_isItem
theorem dX6_replacementOf_0 : decode cX6_replacementOf 0 = .ok (.aload_n 0, 1) := by decide +kernel
theorem dX6_replacementOf_1 : decode cX6_replacementOf 1 = .ok (.iload_n 1, 1) := by decide +kernel
theorem dX6_replacementOf_2 : decode cX6_replacementOf 2 = .ok (.invokevirtual 58, 3) := by decide +kernel
theorem dX6_replacementOf_5 : decode cX6_replacementOf 5 = .ok (.ifCond .ne 5, 3) := by decide +kernel
theorem dX6_replacementOf_8 : decode cX6_replacementOf 8 = .ok (.iconst (-1), 1) := by decide +kernel
theorem dX6_replacementOf_9 : decode cX6_replacementOf 9 = .ok (.ireturn, 1) := by decide +kernel
theorem dX6_replacementOf_10 : decode cX6_replacementOf 10 = .ok (.aload_n 0, 1) := by decide +kernel
theorem dX6_replacementOf_11 : decode cX6_replacementOf 11 = .ok (.getfield 12, 3) := by decide +kernel
theorem dX6_replacementOf_14 : decode cX6_replacementOf 14 = .ok (.getfield 112, 3) := by decide +kernel
theorem dX6_replacementOf_17 : decode cX6_replacementOf 17 = .ok (.iload_n 1, 1) := by decide +kernel
theorem dX6_replacementOf_18 : decode cX6_replacementOf 18 = .ok (.iaload, 1) := by decide +kernel
theorem dX6_replacementOf_19 : decode cX6_replacementOf 19 = .ok (.istore_n 2, 1) := by decide +kernel
theorem dX6_replacementOf_20 : decode cX6_replacementOf 20 = .ok (.iload_n 2, 1) := by decide +kernel
theorem dX6_replacementOf_21 : decode cX6_replacementOf 21 = .ok (.iconst (-1), 1) := by decide +kernel
theorem dX6_replacementOf_22 : decode cX6_replacementOf 22 = .ok (.if_icmp .ne 8, 3) := by decide +kernel
theorem dX6_replacementOf_25 : decode cX6_replacementOf 25 = .ok (.bipush (-9), 2) := by decide +kernel
theorem dX6_replacementOf_27 : decode cX6_replacementOf 27 = .ok (.goto 4, 3) := by decide +kernel
theorem dX6_replacementOf_30 : decode cX6_replacementOf 30 = .ok (.iload_n 2, 1) := by decide +kernel
theorem dX6_replacementOf_31 : decode cX6_replacementOf 31 = .ok (.ireturn, 1) := by decide +kernel
set_option maxRecDepth 20000 in
theorem ggX6_setWeight_X6_isStratum : GoodIn wsX6_setWeight wsX6_isStratum := goodIn_r _ [6] (by decide +kernel) (by decide +kernel)
set_option maxRecDepth 20000 in
theorem gX6_setWeight_X6_isStratum : GoodIn wsX6_setWeight (va_wsS RX6 39 yX6_isStratum wsX6_isStratum) := goodIn_app (goodIn_of _ (by decide +kernel)) ggX6_setWeight_X6_isStratum
set_option maxRecDepth 20000 in
theorem ggX6_setWeight_X6_isWithin : GoodIn wsX6_setWeight wsX6_isWithin := goodIn_r _ [9] (by decide +kernel) (by decide +kernel)
set_option maxRecDepth 20000 in
theorem gX6_setWeight_X6_isWithin : GoodIn wsX6_setWeight (va_wsS RX6 43 yX6_isWithin wsX6_isWithin) := goodIn_app (goodIn_of _ (by decide +kernel)) ggX6_setWeight_X6_isWithin
set_option maxRecDepth 20000 in
theorem ggX6_setWeight_X6_beginEdit : GoodIn wsX6_setWeight wsX6_beginEdit := goodIn_r _ [13, 14, 1, 15, 16, 17, 18, 19, 20, 21, 22, 23, 24, 25, 26, 27, 28, 29, 30, 31, 32, 33, 34, 35, 36, 37, 38, 39, 40, 41, 42, 43, 44, 45, 46, 47, 48, 49, 50, 51, 52, 63, 64, 65, 53, 54, 55, 56, 57, 58, 59, 60, 61, 62, 66, 67, 68, 69] (by decide +kernel) (by decide +kernel)
set_option maxRecDepth 20000 in
theorem gX6_setWeight_X6_beginEdit : GoodIn wsX6_setWeight (wsV RX6 51 RX6 yX6_beginEdit wsX6_beginEdit) := goodIn_app (goodIn_of _ (by decide +kernel)) ggX6_setWeight_X6_beginEdit
theorem dX6_setWeight_0 : decode cX6_setWeight 0 = .ok (.iload_n 1, 1) := by decide +kernel
theorem dX6_setWeight_1 : decode cX6_setWeight 1 = .ok (.invokestatic 39, 3) := by decide +kernel
theorem dX6_setWeight_4 : decode cX6_setWeight 4 = .ok (.ifCond .eq 13, 3) := by decide +kernel
theorem dX6_setWeight_7 : decode cX6_setWeight 7 = .ok (.iload_n 2, 1) := by decide +kernel
theorem dX6_setWeight_8 : decode cX6_setWeight 8 = .ok (.iconst 0, 1) := by decide +kernel
theorem dX6_setWeight_9 : decode cX6_setWeight 9 = .ok (.bipush 100, 2) := by decide +kernel
theorem dX6_setWeight_11 : decode cX6_setWeight 11 = .ok (.invokestatic 43, 3) := by decide +kernel
theorem dX6_setWeight_14 : decode cX6_setWeight 14 = .ok (.ifCond .ne 5, 3) := by decide +kernel
theorem dX6_setWeight_17 : decode cX6_setWeight 17 = .ok (.iconst (-1), 1) := by decide +kernel
theorem dX6_setWeight_18 : decode cX6_setWeight 18 = .ok (.ireturn, 1) := by decide +kernel
theorem dX6_setWeight_19 : decode cX6_setWeight 19 = .ok (.aload_n 0, 1) := by decide +kernel
theorem dX6_setWeight_20 : decode cX6_setWeight 20 = .ok (.getfield 12, 3) := by decide +kernel
theorem dX6_setWeight_23 : decode cX6_setWeight 23 = .ok (.getfield 115, 3) := by decide +kernel
theorem dX6_setWeight_26 : decode cX6_setWeight 26 = .ok (.iload_n 1, 1) := by decide +kernel
theorem dX6_setWeight_27 : decode cX6_setWeight 27 = .ok (.iaload, 1) := by decide +kernel
theorem dX6_setWeight_28 : decode cX6_setWeight 28 = .ok (.istore_n 3, 1) := by decide +kernel
theorem dX6_setWeight_29 : decode cX6_setWeight 29 = .ok (.aload_n 0, 1) := by decide +kernel
theorem dX6_setWeight_30 : decode cX6_setWeight 30 = .ok (.invokevirtual 51, 3) := by decide +kernel
theorem dX6_setWeight_33 : decode cX6_setWeight 33 = .ok (.aload_n 0, 1) := by decide +kernel
theorem dX6_setWeight_34 : decode cX6_setWeight 34 = .ok (.getfield 12, 3) := by decide +kernel
theorem dX6_setWeight_37 : decode cX6_setWeight 37 = .ok (.getfield 115, 3) := by decide +kernel
theorem dX6_setWeight_40 : decode cX6_setWeight 40 = .ok (.iload_n 1, 1) := by decide +kernel
theorem dX6_setWeight_41 : decode cX6_setWeight 41 = .ok (.iload_n 2, 1) := by decide +kernel
theorem dX6_setWeight_42 : decode cX6_setWeight 42 = .ok (.iastore, 1) := by decide +kernel
theorem dX6_setWeight_43 : decode cX6_setWeight 43 = .ok (.iload_n 3, 1) := by decide +kernel
theorem dX6_setWeight_44 : decode cX6_setWeight 44 = .ok (.ireturn, 1) := by decide +kernel
set_option maxRecDepth 20000 in
theorem ggX6_setFormula_X6_isWithin : GoodIn wsX6_setFormula wsX6_isWithin := goodIn_r _ [6] (by decide +kernel) (by decide +kernel)
set_option maxRecDepth 20000 in
theorem gX6_setFormula_X6_isWithin : GoodIn wsX6_setFormula (va_wsS RX6 43 yX6_isWithin wsX6_isWithin) := goodIn_app (goodIn_of _ (by decide +kernel)) ggX6_setFormula_X6_isWithin
set_option maxRecDepth 20000 in
theorem ggX6_setFormula_X6_beginEdit : GoodIn wsX6_setFormula wsX6_beginEdit := goodIn_r _ [10, 11, 1, 12, 13, 14, 15, 16, 17, 18, 19, 20, 21, 22, 23, 24, 25, 26, 27, 28, 29, 30, 31, 32, 33, 34, 35, 36, 37, 38, 39, 40, 41, 42, 43, 44, 45, 46, 47, 48, 49, 60, 61, 62, 50, 51, 52, 53, 54, 55, 56, 57, 58, 59, 63, 64, 65, 66] (by decide +kernel) (by decide +kernel)
set_option maxRecDepth 20000 in
theorem gX6_setFormula_X6_beginEdit : GoodIn wsX6_setFormula (wsV RX6 51 RX6 yX6_beginEdit wsX6_beginEdit) := goodIn_app (goodIn_of _ (by decide +kernel)) ggX6_setFormula_X6_beginEdit
theorem dX6_setFormula_0 : decode cX6_setFormula 0 = .ok (.iload_n 1, 1) := by decide +kernel
theorem dX6_setFormula_1 : decode cX6_setFormula 1 = .ok (.iconst 0, 1) := by decide +kernel
theorem dX6_setFormula_2 : decode cX6_setFormula 2 = .ok (.iconst 2, 1) := by decide +kernel
theorem dX6_setFormula_3 : decode cX6_setFormula 3 = .ok (.invokestatic 43, 3) := by decide +kernel
theorem dX6_setFormula_6 : decode cX6_setFormula 6 = .ok (.ifCond .ne 5, 3) := by decide +kernel
theorem dX6_setFormula_9 : decode cX6_setFormula 9 = .ok (.iconst (-1), 1) := by decide +kernel
theorem dX6_setFormula_10 : decode cX6_setFormula 10 = .ok (.ireturn, 1) := by decide +kernel
theorem dX6_setFormula_11 : decode cX6_setFormula 11 = .ok (.aload_n 0, 1) := by decide +kernel
theorem dX6_setFormula_12 : decode cX6_setFormula 12 = .ok (.getfield 12, 3) := by decide +kernel
theorem dX6_setFormula_15 : decode cX6_setFormula 15 = .ok (.getfield 118, 3) := by decide +kernel
theorem dX6_setFormula_18 : decode cX6_setFormula 18 = .ok (.istore_n 2, 1) := by decide +kernel
theorem dX6_setFormula_19 : decode cX6_setFormula 19 = .ok (.aload_n 0, 1) := by decide +kernel
theorem dX6_setFormula_20 : decode cX6_setFormula 20 = .ok (.invokevirtual 51, 3) := by decide +kernel
theorem dX6_setFormula_23 : decode cX6_setFormula 23 = .ok (.aload_n 0, 1) := by decide +kernel
theorem dX6_setFormula_24 : decode cX6_setFormula 24 = .ok (.getfield 12, 3) := by decide +kernel
theorem dX6_setFormula_27 : decode cX6_setFormula 27 = .ok (.iload_n 1, 1) := by decide +kernel
theorem dX6_setFormula_28 : decode cX6_setFormula 28 = .ok (.putfield 118, 3) := by decide +kernel
theorem dX6_setFormula_31 : decode cX6_setFormula 31 = .ok (.iload_n 2, 1) := by decide +kernel
theorem dX6_setFormula_32 : decode cX6_setFormula 32 = .ok (.ireturn, 1) := by decide +kernel
set_option maxRecDepth 20000 in
theorem ggX6_knownPriceBits_X6_isItem : GoodIn wsX6_knownPriceBits wsX6_isItem := goodIn_r _ [7, 8, 9, 140, 141, 142, 143, 148, 149, 150, 151, 152, 153, 154, 155, 156, 157] (by decide +kernel) (by decide +kernel)
set_option maxRecDepth 20000 in
theorem gX6_knownPriceBits_X6_isItem : GoodIn wsX6_knownPriceBits (wsV RX6 58 RX6 yX6_isItem wsX6_isItem) := goodIn_app (goodIn_of _ (by decide +kernel)) ggX6_knownPriceBits_X6_isItem
set_option maxRecDepth 20000 in
theorem ggX6_knownPriceBits_X6_isMonth : GoodIn wsX6_knownPriceBits wsX6_isMonth := goodIn_r _ [12] (by decide +kernel) (by decide +kernel)
set_option maxRecDepth 20000 in
theorem gX6_knownPriceBits_X6_isMonth : GoodIn wsX6_knownPriceBits (va_wsS RX6 61 yX6_isMonth wsX6_isMonth) := goodIn_app (goodIn_of _ (by decide +kernel)) ggX6_knownPriceBits_X6_isMonth
set_option maxRecDepth 20000 in
theorem ggX6_knownPriceBits_X3_refresh : GoodIn wsX6_knownPriceBits wsX3_refresh := goodIn_r _ [17, 18, 19, 20, 21, 22, 23, 16, 24, 25, 26, 27, 28, 29, 30, 31, 32, 33, 34, 35, 36, 37, 38, 39, 40, 41, 42, 43, 44, 6, 45, 46, 47, 48, 49, 50, 51, 52, 53, 54, 55, 56, 57, 58, 59, 60, 61, 62, 63, 64, 65, 66, 67, 68, 69, 70, 71, 72, 73, 74, 75, 76, 77, 78, 79, 80, 81, 82, 83, 84, 85, 86, 87, 88, 89, 90, 91, 92, 93, 94, 95, 96, 97, 98, 99, 100, 101, 102, 103, 104, 105, 106, 107, 108, 109, 110, 111, 112, 113, 114, 115, 116, 117, 118, 119, 120, 121, 122, 123, 124, 125, 126, 127, 128, 129, 130, 131, 144, 145, 146, 147, 148, 149, 150, 151, 152, 153, 154, 155, 156, 157, 158, 159, 160] (by decide +kernel) (by decide +kernel)
set_option maxRecDepth 20000 in
theorem gX6_knownPriceBits_X3_refresh : GoodIn wsX6_knownPriceBits (wsV RX6 121 RX3 yX3_refresh wsX3_refresh) := goodIn_app (goodIn_of _ (by decide +kernel)) ggX6_knownPriceBits_X3_refresh
set_option maxRecDepth 20000 in
theorem ggX6_knownPriceBits_X2_has : GoodIn wsX6_knownPriceBits wsX2_has := goodIn_r _ [129, 78, 44, 6, 45, 158, 159, 160] (by decide +kernel) (by decide +kernel)
set_option maxRecDepth 20000 in
theorem gX6_knownPriceBits_X2_has : GoodIn wsX6_knownPriceBits (wsV RX6 128 RX2 yX2_has wsX2_has) := goodIn_app (goodIn_of _ (by decide +kernel)) ggX6_knownPriceBits_X2_has
set_option maxRecDepth 20000 in
theorem ggX6_knownPriceBits_X2_get : GoodIn wsX6_knownPriceBits wsX2_get := goodIn_r _ [112, 79, 44, 6, 45, 158, 159, 160] (by decide +kernel) (by decide +kernel)
set_option maxRecDepth 20000 in
theorem gX6_knownPriceBits_X2_get : GoodIn wsX6_knownPriceBits (wsV RX6 134 RX2 yX2_get wsX2_get) := goodIn_app (goodIn_of _ (by decide +kernel)) ggX6_knownPriceBits_X2_get
set_option maxRecDepth 20000 in
theorem ggX6_knownPriceBits_X5_bits : GoodIn wsX6_knownPriceBits wsX5_bits := goodIn_r _ [136, 137, 138, 139, 59, 60, 57, 61, 62, 63, 64, 65] (by decide +kernel) (by decide +kernel)
set_option maxRecDepth 20000 in
theorem gX6_knownPriceBits_X5_bits : GoodIn wsX6_knownPriceBits (va_wsS RX6 138 yX5_bits wsX5_bits) := goodIn_app (goodIn_of _ (by decide +kernel)) ggX6_knownPriceBits_X5_bits
theorem dX6_knownPriceBits_0 : decode cX6_knownPriceBits 0 = .ok (.aload_n 0, 1) := by decide +kernel
theorem dX6_knownPriceBits_1 : decode cX6_knownPriceBits 1 = .ok (.iload_n 1, 1) := by decide +kernel
theorem dX6_knownPriceBits_2 : decode cX6_knownPriceBits 2 = .ok (.invokevirtual 58, 3) := by decide +kernel
theorem dX6_knownPriceBits_5 : decode cX6_knownPriceBits 5 = .ok (.ifCond .eq 10, 3) := by decide +kernel
theorem dX6_knownPriceBits_8 : decode cX6_knownPriceBits 8 = .ok (.iload_n 2, 1) := by decide +kernel
theorem dX6_knownPriceBits_9 : decode cX6_knownPriceBits 9 = .ok (.invokestatic 61, 3) := by decide +kernel
theorem dX6_knownPriceBits_12 : decode cX6_knownPriceBits 12 = .ok (.ifCond .ne 5, 3) := by decide +kernel
theorem dX6_knownPriceBits_15 : decode cX6_knownPriceBits 15 = .ok (.iconst (-1), 1) := by decide +kernel
theorem dX6_knownPriceBits_16 : decode cX6_knownPriceBits 16 = .ok (.ireturn, 1) := by decide +kernel
theorem dX6_knownPriceBits_17 : decode cX6_knownPriceBits 17 = .ok (.aload_n 0, 1) := by decide +kernel
theorem dX6_knownPriceBits_18 : decode cX6_knownPriceBits 18 = .ok (.getfield 35, 3) := by decide +kernel
theorem dX6_knownPriceBits_21 : decode cX6_knownPriceBits 21 = .ok (.invokevirtual 121, 3) := by decide +kernel
theorem dX6_knownPriceBits_24 : decode cX6_knownPriceBits 24 = .ok (.aload_n 0, 1) := by decide +kernel
theorem dX6_knownPriceBits_25 : decode cX6_knownPriceBits 25 = .ok (.getfield 35, 3) := by decide +kernel
theorem dX6_knownPriceBits_28 : decode cX6_knownPriceBits 28 = .ok (.getfield 124, 3) := by decide +kernel
theorem dX6_knownPriceBits_31 : decode cX6_knownPriceBits 31 = .ok (.iload_n 1, 1) := by decide +kernel
theorem dX6_knownPriceBits_32 : decode cX6_knownPriceBits 32 = .ok (.iload_n 2, 1) := by decide +kernel
theorem dX6_knownPriceBits_33 : decode cX6_knownPriceBits 33 = .ok (.invokevirtual 128, 3) := by decide +kernel
theorem dX6_knownPriceBits_36 : decode cX6_knownPriceBits 36 = .ok (.ifCond .eq 21, 3) := by decide +kernel
theorem dX6_knownPriceBits_39 : decode cX6_knownPriceBits 39 = .ok (.aload_n 0, 1) := by decide +kernel
theorem dX6_knownPriceBits_40 : decode cX6_knownPriceBits 40 = .ok (.getfield 35, 3) := by decide +kernel
theorem dX6_knownPriceBits_43 : decode cX6_knownPriceBits 43 = .ok (.getfield 124, 3) := by decide +kernel
theorem dX6_knownPriceBits_46 : decode cX6_knownPriceBits 46 = .ok (.iload_n 1, 1) := by decide +kernel
theorem dX6_knownPriceBits_47 : decode cX6_knownPriceBits 47 = .ok (.iload_n 2, 1) := by decide +kernel
theorem dX6_knownPriceBits_48 : decode cX6_knownPriceBits 48 = .ok (.invokevirtual 134, 3) := by decide +kernel
end
section
theorem dX6_knownPriceBits_51 : decode cX6_knownPriceBits 51 = .ok (.invokestatic 138, 3) := by decide +kernel
theorem dX6_knownPriceBits_54 : decode cX6_knownPriceBits 54 = .ok (.goto 5, 3) := by decide +kernel
theorem dX6_knownPriceBits_57 : decode cX6_knownPriceBits 57 = .ok (.bipush (-9), 2) := by decide +kernel
theorem dX6_knownPriceBits_59 : decode cX6_knownPriceBits 59 = .ok (.ireturn, 1) := by decide +kernel
set_option maxRecDepth 20000 in
theorem ggX6_isImputed_X6_isItem : GoodIn wsX6_isImputed wsX6_isItem := goodIn_r _ [7, 8, 9, 137, 138, 139, 140, 145, 146, 147, 148, 149, 150, 151, 152, 153, 154] (by decide +kernel) (by decide +kernel)
set_option maxRecDepth 20000 in
theorem gX6_isImputed_X6_isItem : GoodIn wsX6_isImputed (wsV RX6 58 RX6 yX6_isItem wsX6_isItem) := goodIn_app (goodIn_of _ (by decide +kernel)) ggX6_isImputed_X6_isItem
set_option maxRecDepth 20000 in
theorem ggX6_isImputed_X6_isMonth : GoodIn wsX6_isImputed wsX6_isMonth := goodIn_r _ [12] (by decide +kernel) (by decide +kernel)
set_option maxRecDepth 20000 in
theorem gX6_isImputed_X6_isMonth : GoodIn wsX6_isImputed (va_wsS RX6 61 yX6_isMonth wsX6_isMonth) := goodIn_app (goodIn_of _ (by decide +kernel)) ggX6_isImputed_X6_isMonth
set_option maxRecDepth 20000 in
theorem ggX6_isImputed_X3_refresh : GoodIn wsX6_isImputed wsX3_refresh := goodIn_r _ [17, 18, 19, 20, 21, 22, 23, 16, 24, 25, 26, 27, 28, 29, 30, 31, 32, 33, 34, 35, 36, 37, 38, 39, 40, 41, 42, 43, 44, 6, 45, 46, 47, 48, 49, 50, 51, 52, 53, 54, 55, 56, 57, 58, 59, 60, 61, 62, 63, 64, 65, 66, 67, 68, 69, 70, 71, 72, 73, 74, 75, 76, 77, 78, 79, 80, 81, 82, 83, 84, 85, 86, 87, 88, 89, 90, 91, 92, 93, 94, 95, 96, 97, 98, 99, 100, 101, 102, 103, 104, 105, 106, 107, 108, 109, 110, 111, 112, 113, 114, 115, 116, 117, 118, 119, 120, 121, 122, 123, 124, 125, 126, 127, 128, 129, 130, 131, 141, 142, 143, 144, 145, 146, 147, 148, 149, 150, 151, 152, 153, 154, 155, 156, 157] (by decide +kernel) (by decide +kernel)
set_option maxRecDepth 20000 in
theorem gX6_isImputed_X3_refresh : GoodIn wsX6_isImputed (wsV RX6 121 RX3 yX3_refresh wsX3_refresh) := goodIn_app (goodIn_of _ (by decide +kernel)) ggX6_isImputed_X3_refresh
set_option maxRecDepth 20000 in
theorem ggX6_isImputed_X2_has : GoodIn wsX6_isImputed wsX2_has := goodIn_r _ [129, 78, 44, 6, 45, 155, 156, 157] (by decide +kernel) (by decide +kernel)
set_option maxRecDepth 20000 in
theorem gX6_isImputed_X2_has : GoodIn wsX6_isImputed (wsV RX6 128 RX2 yX2_has wsX2_has) := goodIn_app (goodIn_of _ (by decide +kernel)) ggX6_isImputed_X2_has
set_option maxRecDepth 20000 in
theorem ggX6_isImputed_X3_hasImputed : GoodIn wsX6_isImputed wsX3_hasImputed := goodIn_r _ [136, 125, 25, 126, 127, 128, 76, 129, 78, 44, 6, 45, 141, 142, 143, 144, 155, 156, 157] (by decide +kernel) (by decide +kernel)
set_option maxRecDepth 20000 in
theorem gX6_isImputed_X3_hasImputed : GoodIn wsX6_isImputed (wsV RX6 144 RX3 yX3_hasImputed wsX3_hasImputed) := goodIn_app (goodIn_of _ (by decide +kernel)) ggX6_isImputed_X3_hasImputed
theorem dX6_isImputed_0 : decode cX6_isImputed 0 = .ok (.aload_n 0, 1) := by decide +kernel
theorem dX6_isImputed_1 : decode cX6_isImputed 1 = .ok (.iload_n 1, 1) := by decide +kernel
theorem dX6_isImputed_2 : decode cX6_isImputed 2 = .ok (.invokevirtual 58, 3) := by decide +kernel
theorem dX6_isImputed_5 : decode cX6_isImputed 5 = .ok (.ifCond .eq 10, 3) := by decide +kernel
theorem dX6_isImputed_8 : decode cX6_isImputed 8 = .ok (.iload_n 2, 1) := by decide +kernel
theorem dX6_isImputed_9 : decode cX6_isImputed 9 = .ok (.invokestatic 61, 3) := by decide +kernel
theorem dX6_isImputed_12 : decode cX6_isImputed 12 = .ok (.ifCond .ne 5, 3) := by decide +kernel
theorem dX6_isImputed_15 : decode cX6_isImputed 15 = .ok (.iconst (-1), 1) := by decide +kernel
theorem dX6_isImputed_16 : decode cX6_isImputed 16 = .ok (.ireturn, 1) := by decide +kernel
theorem dX6_isImputed_17 : decode cX6_isImputed 17 = .ok (.aload_n 0, 1) := by decide +kernel
theorem dX6_isImputed_18 : decode cX6_isImputed 18 = .ok (.getfield 35, 3) := by decide +kernel
theorem dX6_isImputed_21 : decode cX6_isImputed 21 = .ok (.invokevirtual 121, 3) := by decide +kernel
theorem dX6_isImputed_24 : decode cX6_isImputed 24 = .ok (.aload_n 0, 1) := by decide +kernel
theorem dX6_isImputed_25 : decode cX6_isImputed 25 = .ok (.getfield 35, 3) := by decide +kernel
theorem dX6_isImputed_28 : decode cX6_isImputed 28 = .ok (.getfield 124, 3) := by decide +kernel
theorem dX6_isImputed_31 : decode cX6_isImputed 31 = .ok (.iload_n 1, 1) := by decide +kernel
theorem dX6_isImputed_32 : decode cX6_isImputed 32 = .ok (.iload_n 2, 1) := by decide +kernel
theorem dX6_isImputed_33 : decode cX6_isImputed 33 = .ok (.invokevirtual 128, 3) := by decide +kernel
theorem dX6_isImputed_36 : decode cX6_isImputed 36 = .ok (.ifCond .ne 6, 3) := by decide +kernel
theorem dX6_isImputed_39 : decode cX6_isImputed 39 = .ok (.bipush (-9), 2) := by decide +kernel
theorem dX6_isImputed_41 : decode cX6_isImputed 41 = .ok (.ireturn, 1) := by decide +kernel
theorem dX6_isImputed_42 : decode cX6_isImputed 42 = .ok (.aload_n 0, 1) := by decide +kernel
theorem dX6_isImputed_43 : decode cX6_isImputed 43 = .ok (.getfield 35, 3) := by decide +kernel
theorem dX6_isImputed_46 : decode cX6_isImputed 46 = .ok (.iload_n 1, 1) := by decide +kernel
theorem dX6_isImputed_47 : decode cX6_isImputed 47 = .ok (.iload_n 2, 1) := by decide +kernel
theorem dX6_isImputed_48 : decode cX6_isImputed 48 = .ok (.invokevirtual 144, 3) := by decide +kernel
theorem dX6_isImputed_51 : decode cX6_isImputed 51 = .ok (.ifCond .eq 7, 3) := by decide +kernel
theorem dX6_isImputed_54 : decode cX6_isImputed 54 = .ok (.iconst 1, 1) := by decide +kernel
theorem dX6_isImputed_55 : decode cX6_isImputed 55 = .ok (.goto 4, 3) := by decide +kernel
theorem dX6_isImputed_58 : decode cX6_isImputed 58 = .ok (.iconst 0, 1) := by decide +kernel
theorem dX6_isImputed_59 : decode cX6_isImputed 59 = .ok (.ireturn, 1) := by decide +kernel
set_option maxRecDepth 20000 in
theorem ggX6_imputedCount_X6_isMonth : GoodIn wsX6_imputedCount wsX6_isMonth := goodIn_r _ [7] (by decide +kernel) (by decide +kernel)
set_option maxRecDepth 20000 in
theorem gX6_imputedCount_X6_isMonth : GoodIn wsX6_imputedCount (va_wsS RX6 61 yX6_isMonth wsX6_isMonth) := goodIn_app (goodIn_of _ (by decide +kernel)) ggX6_imputedCount_X6_isMonth
set_option maxRecDepth 20000 in
theorem ggX6_imputedCount_X3_refresh : GoodIn wsX6_imputedCount wsX3_refresh := goodIn_r _ [12, 13, 14, 15, 16, 17, 18, 11, 19, 20, 21, 22, 23, 24, 25, 26, 27, 28, 29, 30, 31, 32, 33, 34, 35, 36, 37, 38, 39, 6, 40, 41, 42, 43, 44, 45, 46, 47, 48, 49, 50, 51, 52, 53, 54, 55, 56, 57, 58, 59, 60, 61, 62, 63, 64, 65, 66, 67, 68, 69, 70, 71, 72, 73, 74, 75, 76, 77, 78, 79, 80, 81, 82, 83, 84, 85, 86, 87, 88, 89, 90, 91, 92, 93, 94, 95, 96, 97, 98, 99, 100, 101, 102, 103, 104, 105, 106, 107, 108, 109, 110, 111, 112, 113, 114, 115, 116, 117, 118, 119, 120, 121, 122, 123, 124, 125, 126, 145, 146, 147, 148, 135, 136, 137, 138, 139, 140, 141, 142, 143, 144, 149, 150, 151] (by decide +kernel) (by decide +kernel)
set_option maxRecDepth 20000 in
theorem gX6_imputedCount_X3_refresh : GoodIn wsX6_imputedCount (wsV RX6 121 RX3 yX3_refresh wsX3_refresh) := goodIn_app (goodIn_of _ (by decide +kernel)) ggX6_imputedCount_X3_refresh
set_option maxRecDepth 20000 in
theorem ggX6_imputedCount_X3_hasImputed : GoodIn wsX6_imputedCount wsX3_hasImputed := goodIn_r _ [130, 120, 20, 121, 122, 123, 71, 124, 73, 39, 6, 40, 145, 146, 147, 148, 149, 150, 151] (by decide +kernel) (by decide +kernel)
set_option maxRecDepth 20000 in
theorem gX6_imputedCount_X3_hasImputed : GoodIn wsX6_imputedCount (wsV RX6 144 RX3 yX3_hasImputed wsX3_hasImputed) := goodIn_app (goodIn_of _ (by decide +kernel)) ggX6_imputedCount_X3_hasImputed
theorem dX6_imputedCount_0 : decode cX6_imputedCount 0 = .ok (.iload_n 1, 1) := by decide +kernel
theorem dX6_imputedCount_1 : decode cX6_imputedCount 1 = .ok (.invokestatic 61, 3) := by decide +kernel
theorem dX6_imputedCount_4 : decode cX6_imputedCount 4 = .ok (.ifCond .ne 5, 3) := by decide +kernel
theorem dX6_imputedCount_7 : decode cX6_imputedCount 7 = .ok (.iconst (-1), 1) := by decide +kernel
theorem dX6_imputedCount_8 : decode cX6_imputedCount 8 = .ok (.ireturn, 1) := by decide +kernel
theorem dX6_imputedCount_9 : decode cX6_imputedCount 9 = .ok (.aload_n 0, 1) := by decide +kernel
theorem dX6_imputedCount_10 : decode cX6_imputedCount 10 = .ok (.getfield 35, 3) := by decide +kernel
theorem dX6_imputedCount_13 : decode cX6_imputedCount 13 = .ok (.invokevirtual 121, 3) := by decide +kernel
theorem dX6_imputedCount_16 : decode cX6_imputedCount 16 = .ok (.iconst 0, 1) := by decide +kernel
theorem dX6_imputedCount_17 : decode cX6_imputedCount 17 = .ok (.istore_n 2, 1) := by decide +kernel
theorem dX6_imputedCount_18 : decode cX6_imputedCount 18 = .ok (.iconst 0, 1) := by decide +kernel
theorem dX6_imputedCount_19 : decode cX6_imputedCount 19 = .ok (.istore_n 3, 1) := by decide +kernel
theorem dX6_imputedCount_20 : decode cX6_imputedCount 20 = .ok (.iload_n 3, 1) := by decide +kernel
theorem dX6_imputedCount_21 : decode cX6_imputedCount 21 = .ok (.aload_n 0, 1) := by decide +kernel
theorem dX6_imputedCount_22 : decode cX6_imputedCount 22 = .ok (.getfield 12, 3) := by decide +kernel
theorem dX6_imputedCount_25 : decode cX6_imputedCount 25 = .ok (.getfield 47, 3) := by decide +kernel
theorem dX6_imputedCount_28 : decode cX6_imputedCount 28 = .ok (.if_icmp .ge 24, 3) := by decide +kernel
theorem dX6_imputedCount_31 : decode cX6_imputedCount 31 = .ok (.aload_n 0, 1) := by decide +kernel
theorem dX6_imputedCount_32 : decode cX6_imputedCount 32 = .ok (.getfield 35, 3) := by decide +kernel
theorem dX6_imputedCount_35 : decode cX6_imputedCount 35 = .ok (.iload_n 3, 1) := by decide +kernel
theorem dX6_imputedCount_36 : decode cX6_imputedCount 36 = .ok (.iload_n 1, 1) := by decide +kernel
theorem dX6_imputedCount_37 : decode cX6_imputedCount 37 = .ok (.invokevirtual 144, 3) := by decide +kernel
theorem dX6_imputedCount_40 : decode cX6_imputedCount 40 = .ok (.ifCond .eq 6, 3) := by decide +kernel
theorem dX6_imputedCount_43 : decode cX6_imputedCount 43 = .ok (.iinc 2 1, 3) := by decide +kernel
theorem dX6_imputedCount_46 : decode cX6_imputedCount 46 = .ok (.iinc 3 1, 3) := by decide +kernel
theorem dX6_imputedCount_49 : decode cX6_imputedCount 49 = .ok (.goto (-29), 3) := by decide +kernel
theorem dX6_imputedCount_52 : decode cX6_imputedCount 52 = .ok (.iload_n 2, 1) := by decide +kernel
theorem dX6_imputedCount_53 : decode cX6_imputedCount 53 = .ok (.ireturn, 1) := by decide +kernel
set_option maxRecDepth 20000 in
theorem ggX6_matchedCount_X6_isStratum : GoodIn wsX6_matchedCount wsX6_isStratum := goodIn_r _ [6] (by decide +kernel) (by decide +kernel)
set_option maxRecDepth 20000 in
theorem gX6_matchedCount_X6_isStratum : GoodIn wsX6_matchedCount (va_wsS RX6 39 yX6_isStratum wsX6_isStratum) := goodIn_app (goodIn_of _ (by decide +kernel)) ggX6_matchedCount_X6_isStratum
set_option maxRecDepth 20000 in
theorem ggX6_matchedCount_X6_isMonth : GoodIn wsX6_matchedCount wsX6_isMonth := goodIn_r _ [9] (by decide +kernel) (by decide +kernel)
set_option maxRecDepth 20000 in
theorem gX6_matchedCount_X6_isMonth : GoodIn wsX6_matchedCount (va_wsS RX6 61 yX6_isMonth wsX6_isMonth) := goodIn_app (goodIn_of _ (by decide +kernel)) ggX6_matchedCount_X6_isMonth
set_option maxRecDepth 20000 in
theorem ggX6_matchedCount_X3_refresh : GoodIn wsX6_matchedCount wsX3_refresh := goodIn_r _ [14, 15, 16, 17, 18, 19, 20, 13, 21, 22, 23, 24, 25, 26, 27, 28, 29, 30, 31, 32, 33, 34, 35, 36, 37, 38, 39, 40, 41, 5, 42, 43, 44, 45, 46, 47, 48, 49, 50, 51, 52, 53, 54, 55, 56, 57, 58, 59, 60, 61, 62, 63, 64, 65, 66, 67, 68, 69, 70, 71, 72, 73, 74, 75, 76, 77, 78, 79, 80, 81, 82, 83, 84, 85, 86, 87, 88, 89, 90, 91, 92, 93, 94, 95, 96, 97, 98, 99, 100, 101, 102, 103, 104, 105, 106, 107, 108, 109, 110, 111, 112, 113, 114, 115, 116, 117, 118, 119, 120, 121, 122, 123, 124, 125, 126, 127, 128, 134, 135, 136, 137, 138, 139, 140, 141, 142, 143, 144, 145, 146, 147, 148, 149, 150] (by decide +kernel) (by decide +kernel)
set_option maxRecDepth 20000 in
theorem gX6_matchedCount_X3_refresh : GoodIn wsX6_matchedCount (wsV RX6 121 RX3 yX3_refresh wsX3_refresh) := goodIn_app (goodIn_of _ (by decide +kernel)) ggX6_matchedCount_X3_refresh
set_option maxRecDepth 20000 in
theorem ggX6_matchedCount_X2_countMatched : GoodIn wsX6_matchedCount wsX2_countMatched := goodIn_r _ [95, 90, 96, 97, 98, 99, 73, 100, 101, 75, 41, 5, 42, 148, 149, 150, 138, 139, 140, 141, 142, 143, 144, 145, 146, 147] (by decide +kernel) (by decide +kernel)
set_option maxRecDepth 20000 in
theorem gX6_matchedCount_X2_countMatched : GoodIn wsX6_matchedCount (wsV RX6 150 RX2 yX2_countMatched wsX2_countMatched) := goodIn_app (goodIn_of _ (by decide +kernel)) ggX6_matchedCount_X2_countMatched
theorem dX6_matchedCount_0 : decode cX6_matchedCount 0 = .ok (.iload_n 1, 1) := by decide +kernel
theorem dX6_matchedCount_1 : decode cX6_matchedCount 1 = .ok (.invokestatic 39, 3) := by decide +kernel
theorem dX6_matchedCount_4 : decode cX6_matchedCount 4 = .ok (.ifCond .eq 17, 3) := by decide +kernel
theorem dX6_matchedCount_7 : decode cX6_matchedCount 7 = .ok (.iload_n 2, 1) := by decide +kernel
theorem dX6_matchedCount_8 : decode cX6_matchedCount 8 = .ok (.invokestatic 61, 3) := by decide +kernel
theorem dX6_matchedCount_11 : decode cX6_matchedCount 11 = .ok (.ifCond .eq 10, 3) := by decide +kernel
theorem dX6_matchedCount_14 : decode cX6_matchedCount 14 = .ok (.iload_n 3, 1) := by decide +kernel
theorem dX6_matchedCount_15 : decode cX6_matchedCount 15 = .ok (.invokestatic 61, 3) := by decide +kernel
theorem dX6_matchedCount_18 : decode cX6_matchedCount 18 = .ok (.ifCond .ne 5, 3) := by decide +kernel
theorem dX6_matchedCount_21 : decode cX6_matchedCount 21 = .ok (.iconst (-1), 1) := by decide +kernel
theorem dX6_matchedCount_22 : decode cX6_matchedCount 22 = .ok (.ireturn, 1) := by decide +kernel
theorem dX6_matchedCount_23 : decode cX6_matchedCount 23 = .ok (.aload_n 0, 1) := by decide +kernel
theorem dX6_matchedCount_24 : decode cX6_matchedCount 24 = .ok (.getfield 35, 3) := by decide +kernel
theorem dX6_matchedCount_27 : decode cX6_matchedCount 27 = .ok (.invokevirtual 121, 3) := by decide +kernel
theorem dX6_matchedCount_30 : decode cX6_matchedCount 30 = .ok (.aload_n 0, 1) := by decide +kernel
theorem dX6_matchedCount_31 : decode cX6_matchedCount 31 = .ok (.getfield 35, 3) := by decide +kernel
theorem dX6_matchedCount_34 : decode cX6_matchedCount 34 = .ok (.getfield 147, 3) := by decide +kernel
theorem dX6_matchedCount_37 : decode cX6_matchedCount 37 = .ok (.iload_n 1, 1) := by decide +kernel
theorem dX6_matchedCount_38 : decode cX6_matchedCount 38 = .ok (.iload_n 2, 1) := by decide +kernel
theorem dX6_matchedCount_39 : decode cX6_matchedCount 39 = .ok (.iload_n 3, 1) := by decide +kernel
theorem dX6_matchedCount_40 : decode cX6_matchedCount 40 = .ok (.invokevirtual 150, 3) := by decide +kernel
theorem dX6_matchedCount_43 : decode cX6_matchedCount 43 = .ok (.ireturn, 1) := by decide +kernel
set_option maxRecDepth 20000 in
theorem ggX6_movementBits_X6_isStratum : GoodIn wsX6_movementBits wsX6_isStratum := goodIn_r _ [6] (by decide +kernel) (by decide +kernel)
set_option maxRecDepth 20000 in
theorem gX6_movementBits_X6_isStratum : GoodIn wsX6_movementBits (va_wsS RX6 39 yX6_isStratum wsX6_isStratum) := goodIn_app (goodIn_of _ (by decide +kernel)) ggX6_movementBits_X6_isStratum
set_option maxRecDepth 20000 in
theorem ggX6_movementBits_X6_isMonth : GoodIn wsX6_movementBits wsX6_isMonth := goodIn_r _ [9] (by decide +kernel) (by decide +kernel)
set_option maxRecDepth 20000 in
theorem gX6_movementBits_X6_isMonth : GoodIn wsX6_movementBits (va_wsS RX6 61 yX6_isMonth wsX6_isMonth) := goodIn_app (goodIn_of _ (by decide +kernel)) ggX6_movementBits_X6_isMonth
set_option maxRecDepth 20000 in
theorem ggX6_movementBits_X3_refresh : GoodIn wsX6_movementBits wsX3_refresh := goodIn_r _ [14, 15, 16, 17, 18, 19, 20, 13, 21, 22, 23, 24, 25, 26, 27, 28, 29, 30, 31, 32, 33, 34, 35, 36, 37, 38, 39, 40, 41, 5, 42, 43, 44, 45, 46, 47, 48, 49, 50, 51, 52, 53, 54, 55, 56, 57, 58, 59, 60, 61, 62, 63, 64, 65, 66, 67, 68, 69, 70, 71, 72, 73, 74, 75, 76, 77, 78, 79, 80, 81, 82, 83, 84, 85, 86, 87, 88, 89, 90, 91, 92, 93, 94, 95, 96, 97, 98, 99, 100, 101, 102, 103, 104, 105, 106, 107, 108, 109, 110, 111, 112, 113, 114, 115, 116, 117, 118, 119, 120, 121, 122, 123, 124, 125, 126, 127, 128, 140, 141, 142, 143, 144, 145, 146, 147, 148, 149, 150, 151, 152, 153, 154, 155, 156] (by decide +kernel) (by decide +kernel)
set_option maxRecDepth 20000 in
theorem gX6_movementBits_X3_refresh : GoodIn wsX6_movementBits (wsV RX6 121 RX3 yX3_refresh wsX3_refresh) := goodIn_app (goodIn_of _ (by decide +kernel)) ggX6_movementBits_X3_refresh
set_option maxRecDepth 20000 in
theorem ggX6_movementBits_X2_movement : GoodIn wsX6_movementBits wsX2_movement := goodIn_r _ [89, 90, 91, 92, 93, 94, 73, 95, 96, 97, 98, 99, 100, 101, 75, 41, 5, 42, 102, 103, 104, 105, 106, 107, 108, 109, 76, 110, 111, 54, 112, 56, 57, 58, 63, 64, 65, 66, 113, 53, 55, 59, 60, 61, 62, 114, 115, 116, 117, 154, 155, 156, 144, 145, 146, 147, 148, 149, 150, 151, 152, 153] (by decide +kernel) (by decide +kernel)
set_option maxRecDepth 20000 in
theorem gX6_movementBits_X2_movement : GoodIn wsX6_movementBits (wsV RX6 153 RX2 yX2_movement wsX2_movement) := goodIn_app (goodIn_of _ (by decide +kernel)) ggX6_movementBits_X2_movement
set_option maxRecDepth 20000 in
theorem ggX6_movementBits_X5_bits : GoodIn wsX6_movementBits wsX5_bits := goodIn_r _ [132, 133, 134, 135, 56, 57, 54, 58, 59, 60, 61, 62] (by decide +kernel) (by decide +kernel)
set_option maxRecDepth 20000 in
theorem gX6_movementBits_X5_bits : GoodIn wsX6_movementBits (va_wsS RX6 138 yX5_bits wsX5_bits) := goodIn_app (goodIn_of _ (by decide +kernel)) ggX6_movementBits_X5_bits
theorem dX6_movementBits_0 : decode cX6_movementBits 0 = .ok (.iload_n 1, 1) := by decide +kernel
theorem dX6_movementBits_1 : decode cX6_movementBits 1 = .ok (.invokestatic 39, 3) := by decide +kernel
theorem dX6_movementBits_4 : decode cX6_movementBits 4 = .ok (.ifCond .eq 17, 3) := by decide +kernel
theorem dX6_movementBits_7 : decode cX6_movementBits 7 = .ok (.iload_n 2, 1) := by decide +kernel
theorem dX6_movementBits_8 : decode cX6_movementBits 8 = .ok (.invokestatic 61, 3) := by decide +kernel
theorem dX6_movementBits_11 : decode cX6_movementBits 11 = .ok (.ifCond .eq 10, 3) := by decide +kernel
theorem dX6_movementBits_14 : decode cX6_movementBits 14 = .ok (.iload_n 3, 1) := by decide +kernel
theorem dX6_movementBits_15 : decode cX6_movementBits 15 = .ok (.invokestatic 61, 3) := by decide +kernel
theorem dX6_movementBits_18 : decode cX6_movementBits 18 = .ok (.ifCond .ne 5, 3) := by decide +kernel
theorem dX6_movementBits_21 : decode cX6_movementBits 21 = .ok (.iconst (-1), 1) := by decide +kernel
theorem dX6_movementBits_22 : decode cX6_movementBits 22 = .ok (.ireturn, 1) := by decide +kernel
theorem dX6_movementBits_23 : decode cX6_movementBits 23 = .ok (.aload_n 0, 1) := by decide +kernel
theorem dX6_movementBits_24 : decode cX6_movementBits 24 = .ok (.getfield 35, 3) := by decide +kernel
theorem dX6_movementBits_27 : decode cX6_movementBits 27 = .ok (.invokevirtual 121, 3) := by decide +kernel
theorem dX6_movementBits_30 : decode cX6_movementBits 30 = .ok (.aload_n 0, 1) := by decide +kernel
theorem dX6_movementBits_31 : decode cX6_movementBits 31 = .ok (.getfield 35, 3) := by decide +kernel
theorem dX6_movementBits_34 : decode cX6_movementBits 34 = .ok (.getfield 147, 3) := by decide +kernel
theorem dX6_movementBits_37 : decode cX6_movementBits 37 = .ok (.iload_n 1, 1) := by decide +kernel
theorem dX6_movementBits_38 : decode cX6_movementBits 38 = .ok (.iload_n 2, 1) := by decide +kernel
theorem dX6_movementBits_39 : decode cX6_movementBits 39 = .ok (.iload_n 3, 1) := by decide +kernel
theorem dX6_movementBits_40 : decode cX6_movementBits 40 = .ok (.invokevirtual 153, 3) := by decide +kernel
theorem dX6_movementBits_43 : decode cX6_movementBits 43 = .ok (.invokestatic 138, 3) := by decide +kernel
theorem dX6_movementBits_46 : decode cX6_movementBits 46 = .ok (.ireturn, 1) := by decide +kernel
set_option maxRecDepth 20000 in
theorem ggX6_greatestRise_X6_isStratum : GoodIn wsX6_greatestRise wsX6_isStratum := goodIn_r _ [6] (by decide +kernel) (by decide +kernel)
set_option maxRecDepth 20000 in
theorem gX6_greatestRise_X6_isStratum : GoodIn wsX6_greatestRise (va_wsS RX6 39 yX6_isStratum wsX6_isStratum) := goodIn_app (goodIn_of _ (by decide +kernel)) ggX6_greatestRise_X6_isStratum
set_option maxRecDepth 20000 in
theorem ggX6_greatestRise_X6_isMonth : GoodIn wsX6_greatestRise wsX6_isMonth := goodIn_r _ [9] (by decide +kernel) (by decide +kernel)
set_option maxRecDepth 20000 in
theorem gX6_greatestRise_X6_isMonth : GoodIn wsX6_greatestRise (va_wsS RX6 61 yX6_isMonth wsX6_isMonth) := goodIn_app (goodIn_of _ (by decide +kernel)) ggX6_greatestRise_X6_isMonth
set_option maxRecDepth 20000 in
theorem ggX6_greatestRise_X3_refresh : GoodIn wsX6_greatestRise wsX3_refresh := goodIn_r _ [14, 15, 16, 17, 18, 19, 20, 13, 21, 22, 23, 24, 25, 26, 27, 28, 29, 30, 31, 32, 33, 34, 35, 36, 37, 38, 39, 40, 41, 5, 42, 43, 44, 45, 46, 47, 48, 49, 50, 51, 52, 53, 54, 55, 56, 57, 58, 59, 60, 61, 62, 63, 64, 65, 66, 67, 68, 69, 70, 71, 72, 73, 74, 75, 76, 77, 78, 79, 80, 81, 82, 83, 84, 85, 86, 87, 88, 89, 90, 91, 92, 93, 94, 95, 96, 97, 98, 99, 100, 101, 102, 103, 104, 105, 106, 107, 108, 109, 110, 111, 112, 113, 114, 115, 116, 117, 118, 119, 120, 121, 122, 123, 124, 125, 126, 127, 128, 137, 138, 139, 140, 141, 142, 143, 144, 145, 146, 147, 148, 149, 150, 151, 152, 153] (by decide +kernel) (by decide +kernel)
set_option maxRecDepth 20000 in
theorem gX6_greatestRise_X3_refresh : GoodIn wsX6_greatestRise (wsV RX6 121 RX3 yX3_refresh wsX3_refresh) := goodIn_app (goodIn_of _ (by decide +kernel)) ggX6_greatestRise_X3_refresh
set_option maxRecDepth 20000 in
theorem ggX6_greatestRise_X2_steepest : GoodIn wsX6_greatestRise wsX2_steepest := goodIn_r _ [132, 90, 96, 97, 98, 99, 73, 100, 101, 75, 41, 5, 42, 106, 107, 108, 109, 76, 113, 53, 54, 55, 56, 57, 58, 59, 60, 61, 62, 63, 64, 65, 66, 151, 152, 153, 141, 142, 143, 144, 145, 146, 147, 148, 149, 150] (by decide +kernel) (by decide +kernel)
set_option maxRecDepth 20000 in
theorem gX6_greatestRise_X2_steepest : GoodIn wsX6_greatestRise (wsV RX6 157 RX2 yX2_steepest wsX2_steepest) := goodIn_app (goodIn_of _ (by decide +kernel)) ggX6_greatestRise_X2_steepest
theorem dX6_greatestRise_0 : decode cX6_greatestRise 0 = .ok (.iload_n 1, 1) := by decide +kernel
theorem dX6_greatestRise_1 : decode cX6_greatestRise 1 = .ok (.invokestatic 39, 3) := by decide +kernel
theorem dX6_greatestRise_4 : decode cX6_greatestRise 4 = .ok (.ifCond .eq 17, 3) := by decide +kernel
theorem dX6_greatestRise_7 : decode cX6_greatestRise 7 = .ok (.iload_n 2, 1) := by decide +kernel
theorem dX6_greatestRise_8 : decode cX6_greatestRise 8 = .ok (.invokestatic 61, 3) := by decide +kernel
theorem dX6_greatestRise_11 : decode cX6_greatestRise 11 = .ok (.ifCond .eq 10, 3) := by decide +kernel
theorem dX6_greatestRise_14 : decode cX6_greatestRise 14 = .ok (.iload_n 3, 1) := by decide +kernel
theorem dX6_greatestRise_15 : decode cX6_greatestRise 15 = .ok (.invokestatic 61, 3) := by decide +kernel
theorem dX6_greatestRise_18 : decode cX6_greatestRise 18 = .ok (.ifCond .ne 5, 3) := by decide +kernel
theorem dX6_greatestRise_21 : decode cX6_greatestRise 21 = .ok (.iconst (-1), 1) := by decide +kernel
theorem dX6_greatestRise_22 : decode cX6_greatestRise 22 = .ok (.ireturn, 1) := by decide +kernel
theorem dX6_greatestRise_23 : decode cX6_greatestRise 23 = .ok (.aload_n 0, 1) := by decide +kernel
theorem dX6_greatestRise_24 : decode cX6_greatestRise 24 = .ok (.getfield 35, 3) := by decide +kernel
theorem dX6_greatestRise_27 : decode cX6_greatestRise 27 = .ok (.invokevirtual 121, 3) := by decide +kernel
theorem dX6_greatestRise_30 : decode cX6_greatestRise 30 = .ok (.aload_n 0, 1) := by decide +kernel
theorem dX6_greatestRise_31 : decode cX6_greatestRise 31 = .ok (.getfield 35, 3) := by decide +kernel
theorem dX6_greatestRise_34 : decode cX6_greatestRise 34 = .ok (.getfield 147, 3) := by decide +kernel
theorem dX6_greatestRise_37 : decode cX6_greatestRise 37 = .ok (.iload_n 1, 1) := by decide +kernel
theorem dX6_greatestRise_38 : decode cX6_greatestRise 38 = .ok (.iload_n 2, 1) := by decide +kernel
theorem dX6_greatestRise_39 : decode cX6_greatestRise 39 = .ok (.iload_n 3, 1) := by decide +kernel
theorem dX6_greatestRise_40 : decode cX6_greatestRise 40 = .ok (.invokevirtual 157, 3) := by decide +kernel
theorem dX6_greatestRise_43 : decode cX6_greatestRise 43 = .ok (.istore 4, 2) := by decide +kernel
theorem dX6_greatestRise_45 : decode cX6_greatestRise 45 = .ok (.iload 4, 2) := by decide +kernel
theorem dX6_greatestRise_47 : decode cX6_greatestRise 47 = .ok (.iconst (-1), 1) := by decide +kernel
theorem dX6_greatestRise_48 : decode cX6_greatestRise 48 = .ok (.if_icmp .ne 8, 3) := by decide +kernel
theorem dX6_greatestRise_51 : decode cX6_greatestRise 51 = .ok (.bipush (-9), 2) := by decide +kernel
theorem dX6_greatestRise_53 : decode cX6_greatestRise 53 = .ok (.goto 5, 3) := by decide +kernel
theorem dX6_greatestRise_56 : decode cX6_greatestRise 56 = .ok (.iload 4, 2) := by decide +kernel
theorem dX6_greatestRise_58 : decode cX6_greatestRise 58 = .ok (.ireturn, 1) := by decide +kernel
set_option maxRecDepth 20000 in
theorem ggX6_directIndex_X6_isStratum : GoodIn wsX6_directIndex wsX6_isStratum := goodIn_r _ [5] (by decide +kernel) (by decide +kernel)
set_option maxRecDepth 20000 in
theorem gX6_directIndex_X6_isStratum : GoodIn wsX6_directIndex (va_wsS RX6 39 yX6_isStratum wsX6_isStratum) := goodIn_app (goodIn_of _ (by decide +kernel)) ggX6_directIndex_X6_isStratum
set_option maxRecDepth 20000 in
theorem ggX6_directIndex_X6_isMonth : GoodIn wsX6_directIndex wsX6_isMonth := goodIn_r _ [8] (by decide +kernel) (by decide +kernel)
set_option maxRecDepth 20000 in
theorem gX6_directIndex_X6_isMonth : GoodIn wsX6_directIndex (va_wsS RX6 61 yX6_isMonth wsX6_isMonth) := goodIn_app (goodIn_of _ (by decide +kernel)) ggX6_directIndex_X6_isMonth
set_option maxRecDepth 20000 in
theorem ggX6_directIndex_X3_refresh : GoodIn wsX6_directIndex wsX3_refresh := goodIn_r _ [13, 14, 15, 16, 17, 18, 19, 12, 20, 21, 22, 23, 24, 25, 26, 27, 28, 29, 30, 31, 32, 33, 34, 35, 36, 37, 38, 39, 40, 4, 41, 42, 43, 44, 45, 46, 47, 48, 49, 50, 51, 52, 53, 54, 55, 56, 57, 58, 59, 60, 61, 62, 63, 64, 65, 66, 67, 68, 69, 70, 71, 72, 73, 74, 75, 76, 77, 78, 79, 80, 81, 82, 83, 84, 85, 86, 87, 88, 89, 90, 91, 92, 93, 94, 95, 96, 97, 98, 99, 100, 101, 102, 103, 104, 105, 106, 107, 108, 109, 110, 111, 112, 113, 114, 115, 116, 117, 118, 119, 120, 121, 122, 123, 124, 125, 126, 127, 147, 148, 149, 150, 151, 152, 153, 154, 155, 156, 157, 158, 159, 160, 161, 162, 163] (by decide +kernel) (by decide +kernel)
set_option maxRecDepth 20000 in
theorem gX6_directIndex_X3_refresh : GoodIn wsX6_directIndex (wsV RX6 121 RX3 yX3_refresh wsX3_refresh) := goodIn_app (goodIn_of _ (by decide +kernel)) ggX6_directIndex_X3_refresh
set_option maxRecDepth 20000 in
theorem ggX6_directIndex_X3_hasDirect : GoodIn wsX6_directIndex wsX3_hasDirect := goodIn_r _ [131, 121, 132, 92, 93, 72, 94, 89, 95, 96, 97, 98, 99, 100, 74, 40, 4, 41, 147, 148, 149, 150, 161, 162, 163, 151, 152, 153, 154, 155, 156, 157, 158, 159, 160] (by decide +kernel) (by decide +kernel)
set_option maxRecDepth 20000 in
theorem gX6_directIndex_X3_hasDirect : GoodIn wsX6_directIndex (wsV RX6 160 RX3 yX3_hasDirect wsX3_hasDirect) := goodIn_app (goodIn_of _ (by decide +kernel)) ggX6_directIndex_X3_hasDirect
set_option maxRecDepth 20000 in
theorem ggX6_directIndex_X3_direct : GoodIn wsX6_directIndex wsX3_direct := goodIn_r _ [136, 121, 137, 85, 86, 87, 72, 88, 89, 90, 91, 92, 93, 94, 95, 96, 97, 98, 99, 100, 74, 40, 4, 41, 101, 102, 103, 104, 105, 106, 107, 108, 75, 109, 110, 53, 111, 55, 56, 57, 62, 63, 64, 65, 112, 52, 54, 58, 59, 60, 61, 113, 114, 115, 116, 127, 67, 68, 147, 148, 149, 150, 161, 162, 163, 151, 152, 153, 154, 155, 156, 157, 158, 159, 160] (by decide +kernel) (by decide +kernel)
set_option maxRecDepth 20000 in
theorem gX6_directIndex_X3_direct : GoodIn wsX6_directIndex (wsV RX6 163 RX3 yX3_direct wsX3_direct) := goodIn_app (goodIn_of _ (by decide +kernel)) ggX6_directIndex_X3_direct
set_option maxRecDepth 20000 in
theorem ggX6_directIndex_X5_hundredths : GoodIn wsX6_directIndex wsX5_hundredths := goodIn_r _ [140, 141, 142, 55, 56, 53, 57] (by decide +kernel) (by decide +kernel)
set_option maxRecDepth 20000 in
theorem gX6_directIndex_X5_hundredths : GoodIn wsX6_directIndex (va_wsS RX6 166 yX5_hundredths wsX5_hundredths) := goodIn_app (goodIn_of _ (by decide +kernel)) ggX6_directIndex_X5_hundredths
theorem dX6_directIndex_0 : decode cX6_directIndex 0 = .ok (.iload_n 1, 1) := by decide +kernel
theorem dX6_directIndex_1 : decode cX6_directIndex 1 = .ok (.invokestatic 39, 3) := by decide +kernel
theorem dX6_directIndex_4 : decode cX6_directIndex 4 = .ok (.ifCond .eq 17, 3) := by decide +kernel
theorem dX6_directIndex_7 : decode cX6_directIndex 7 = .ok (.iload_n 2, 1) := by decide +kernel
theorem dX6_directIndex_8 : decode cX6_directIndex 8 = .ok (.invokestatic 61, 3) := by decide +kernel
theorem dX6_directIndex_11 : decode cX6_directIndex 11 = .ok (.ifCond .eq 10, 3) := by decide +kernel
theorem dX6_directIndex_14 : decode cX6_directIndex 14 = .ok (.iload_n 3, 1) := by decide +kernel
theorem dX6_directIndex_15 : decode cX6_directIndex 15 = .ok (.invokestatic 61, 3) := by decide +kernel
theorem dX6_directIndex_18 : decode cX6_directIndex 18 = .ok (.ifCond .ne 5, 3) := by decide +kernel
theorem dX6_directIndex_21 : decode cX6_directIndex 21 = .ok (.iconst (-1), 1) := by decide +kernel
theorem dX6_directIndex_22 : decode cX6_directIndex 22 = .ok (.ireturn, 1) := by decide +kernel
theorem dX6_directIndex_23 : decode cX6_directIndex 23 = .ok (.aload_n 0, 1) := by decide +kernel
theorem dX6_directIndex_24 : decode cX6_directIndex 24 = .ok (.getfield 35, 3) := by decide +kernel
theorem dX6_directIndex_27 : decode cX6_directIndex 27 = .ok (.invokevirtual 121, 3) := by decide +kernel
theorem dX6_directIndex_30 : decode cX6_directIndex 30 = .ok (.aload_n 0, 1) := by decide +kernel
theorem dX6_directIndex_31 : decode cX6_directIndex 31 = .ok (.getfield 35, 3) := by decide +kernel
theorem dX6_directIndex_34 : decode cX6_directIndex 34 = .ok (.iload_n 1, 1) := by decide +kernel
theorem dX6_directIndex_35 : decode cX6_directIndex 35 = .ok (.iload_n 2, 1) := by decide +kernel
theorem dX6_directIndex_36 : decode cX6_directIndex 36 = .ok (.iload_n 3, 1) := by decide +kernel
theorem dX6_directIndex_37 : decode cX6_directIndex 37 = .ok (.invokevirtual 160, 3) := by decide +kernel
theorem dX6_directIndex_40 : decode cX6_directIndex 40 = .ok (.ifCond .ne 6, 3) := by decide +kernel
theorem dX6_directIndex_43 : decode cX6_directIndex 43 = .ok (.bipush (-9), 2) := by decide +kernel
theorem dX6_directIndex_45 : decode cX6_directIndex 45 = .ok (.ireturn, 1) := by decide +kernel
theorem dX6_directIndex_46 : decode cX6_directIndex 46 = .ok (.aload_n 0, 1) := by decide +kernel
theorem dX6_directIndex_47 : decode cX6_directIndex 47 = .ok (.getfield 35, 3) := by decide +kernel
theorem dX6_directIndex_50 : decode cX6_directIndex 50 = .ok (.iload_n 1, 1) := by decide +kernel
theorem dX6_directIndex_51 : decode cX6_directIndex 51 = .ok (.iload_n 2, 1) := by decide +kernel
theorem dX6_directIndex_52 : decode cX6_directIndex 52 = .ok (.iload_n 3, 1) := by decide +kernel
theorem dX6_directIndex_53 : decode cX6_directIndex 53 = .ok (.invokevirtual 163, 3) := by decide +kernel
theorem dX6_directIndex_56 : decode cX6_directIndex 56 = .ok (.invokestatic 166, 3) := by decide +kernel
theorem dX6_directIndex_59 : decode cX6_directIndex 59 = .ok (.ireturn, 1) := by decide +kernel
set_option maxRecDepth 20000 in
theorem ggX6_chainedIndex_X6_isStratum : GoodIn wsX6_chainedIndex wsX6_isStratum := goodIn_r _ [5] (by decide +kernel) (by decide +kernel)
set_option maxRecDepth 20000 in
theorem gX6_chainedIndex_X6_isStratum : GoodIn wsX6_chainedIndex (va_wsS RX6 39 yX6_isStratum wsX6_isStratum) := goodIn_app (goodIn_of _ (by decide +kernel)) ggX6_chainedIndex_X6_isStratum
set_option maxRecDepth 20000 in
theorem ggX6_chainedIndex_X6_isMonth : GoodIn wsX6_chainedIndex wsX6_isMonth := goodIn_r _ [8] (by decide +kernel) (by decide +kernel)
set_option maxRecDepth 20000 in
theorem gX6_chainedIndex_X6_isMonth : GoodIn wsX6_chainedIndex (va_wsS RX6 61 yX6_isMonth wsX6_isMonth) := goodIn_app (goodIn_of _ (by decide +kernel)) ggX6_chainedIndex_X6_isMonth
set_option maxRecDepth 20000 in
theorem ggX6_chainedIndex_X3_refresh : GoodIn wsX6_chainedIndex wsX3_refresh := goodIn_r _ [13, 14, 15, 16, 17, 18, 19, 12, 20, 21, 22, 23, 24, 25, 26, 27, 28, 29, 30, 31, 32, 33, 34, 35, 36, 37, 38, 39, 40, 4, 41, 42, 43, 44, 45, 46, 47, 48, 49, 50, 51, 52, 53, 54, 55, 56, 57, 58, 59, 60, 61, 62, 63, 64, 65, 66, 67, 68, 69, 70, 71, 72, 73, 74, 75, 76, 77, 78, 79, 80, 81, 82, 83, 84, 85, 86, 87, 88, 89, 90, 91, 92, 93, 94, 95, 96, 97, 98, 99, 100, 101, 102, 103, 104, 105, 106, 107, 108, 109, 110, 111, 112, 113, 114, 115, 116, 117, 118, 119, 120, 121, 122, 123, 124, 125, 126, 127, 142, 143, 144, 145, 146, 147, 148, 149, 150, 151, 152, 153, 154, 155, 156, 157, 158] (by decide +kernel) (by decide +kernel)
set_option maxRecDepth 20000 in
theorem gX6_chainedIndex_X3_refresh : GoodIn wsX6_chainedIndex (wsV RX6 121 RX3 yX3_refresh wsX3_refresh) := goodIn_app (goodIn_of _ (by decide +kernel)) ggX6_chainedIndex_X3_refresh
set_option maxRecDepth 20000 in
theorem ggX6_chainedIndex_X3_chained : GoodIn wsX6_chainedIndex wsX3_chained := goodIn_r _ [131, 132, 21, 85, 86, 87, 72, 88, 89, 90, 91, 92, 93, 94, 95, 96, 97, 98, 99, 100, 74, 40, 4, 41, 101, 102, 103, 104, 105, 106, 107, 108, 75, 109, 110, 53, 111, 55, 56, 57, 62, 63, 64, 65, 112, 52, 54, 58, 59, 60, 61, 113, 114, 115, 116, 127, 67, 68, 142, 143, 144, 145, 156, 157, 158, 146, 147, 148, 149, 150, 151, 152, 153, 154, 155] (by decide +kernel) (by decide +kernel)
set_option maxRecDepth 20000 in
theorem gX6_chainedIndex_X3_chained : GoodIn wsX6_chainedIndex (wsV RX6 169 RX3 yX3_chained wsX3_chained) := goodIn_app (goodIn_of _ (by decide +kernel)) ggX6_chainedIndex_X3_chained
set_option maxRecDepth 20000 in
theorem ggX6_chainedIndex_X5_hundredths : GoodIn wsX6_chainedIndex wsX5_hundredths := goodIn_r _ [135, 136, 137, 55, 56, 53, 57] (by decide +kernel) (by decide +kernel)
set_option maxRecDepth 20000 in
theorem gX6_chainedIndex_X5_hundredths : GoodIn wsX6_chainedIndex (va_wsS RX6 166 yX5_hundredths wsX5_hundredths) := goodIn_app (goodIn_of _ (by decide +kernel)) ggX6_chainedIndex_X5_hundredths
theorem dX6_chainedIndex_0 : decode cX6_chainedIndex 0 = .ok (.iload_n 1, 1) := by decide +kernel
theorem dX6_chainedIndex_1 : decode cX6_chainedIndex 1 = .ok (.invokestatic 39, 3) := by decide +kernel
theorem dX6_chainedIndex_4 : decode cX6_chainedIndex 4 = .ok (.ifCond .eq 22, 3) := by decide +kernel
theorem dX6_chainedIndex_7 : decode cX6_chainedIndex 7 = .ok (.iload_n 2, 1) := by decide +kernel
theorem dX6_chainedIndex_8 : decode cX6_chainedIndex 8 = .ok (.invokestatic 61, 3) := by decide +kernel
theorem dX6_chainedIndex_11 : decode cX6_chainedIndex 11 = .ok (.ifCond .eq 15, 3) := by decide +kernel
theorem dX6_chainedIndex_14 : decode cX6_chainedIndex 14 = .ok (.iload_n 3, 1) := by decide +kernel
theorem dX6_chainedIndex_15 : decode cX6_chainedIndex 15 = .ok (.invokestatic 61, 3) := by decide +kernel
theorem dX6_chainedIndex_18 : decode cX6_chainedIndex 18 = .ok (.ifCond .eq 8, 3) := by decide +kernel
theorem dX6_chainedIndex_21 : decode cX6_chainedIndex 21 = .ok (.iload_n 3, 1) := by decide +kernel
theorem dX6_chainedIndex_22 : decode cX6_chainedIndex 22 = .ok (.iload_n 2, 1) := by decide +kernel
theorem dX6_chainedIndex_23 : decode cX6_chainedIndex 23 = .ok (.if_icmp .ge 5, 3) := by decide +kernel
theorem dX6_chainedIndex_26 : decode cX6_chainedIndex 26 = .ok (.iconst (-1), 1) := by decide +kernel
theorem dX6_chainedIndex_27 : decode cX6_chainedIndex 27 = .ok (.ireturn, 1) := by decide +kernel
theorem dX6_chainedIndex_28 : decode cX6_chainedIndex 28 = .ok (.aload_n 0, 1) := by decide +kernel
theorem dX6_chainedIndex_29 : decode cX6_chainedIndex 29 = .ok (.getfield 35, 3) := by decide +kernel
theorem dX6_chainedIndex_32 : decode cX6_chainedIndex 32 = .ok (.invokevirtual 121, 3) := by decide +kernel
theorem dX6_chainedIndex_35 : decode cX6_chainedIndex 35 = .ok (.aload_n 0, 1) := by decide +kernel
theorem dX6_chainedIndex_36 : decode cX6_chainedIndex 36 = .ok (.getfield 35, 3) := by decide +kernel
theorem dX6_chainedIndex_39 : decode cX6_chainedIndex 39 = .ok (.iload_n 1, 1) := by decide +kernel
theorem dX6_chainedIndex_40 : decode cX6_chainedIndex 40 = .ok (.iload_n 2, 1) := by decide +kernel
theorem dX6_chainedIndex_41 : decode cX6_chainedIndex 41 = .ok (.iload_n 3, 1) := by decide +kernel
theorem dX6_chainedIndex_42 : decode cX6_chainedIndex 42 = .ok (.invokevirtual 169, 3) := by decide +kernel
theorem dX6_chainedIndex_45 : decode cX6_chainedIndex 45 = .ok (.invokestatic 166, 3) := by decide +kernel
theorem dX6_chainedIndex_48 : decode cX6_chainedIndex 48 = .ok (.ireturn, 1) := by decide +kernel
set_option maxRecDepth 20000 in
theorem ggX6_drift_X6_isStratum : GoodIn wsX6_drift wsX6_isStratum := goodIn_r _ [6] (by decide +kernel) (by decide +kernel)
set_option maxRecDepth 20000 in
theorem gX6_drift_X6_isStratum : GoodIn wsX6_drift (va_wsS RX6 39 yX6_isStratum wsX6_isStratum) := goodIn_app (goodIn_of _ (by decide +kernel)) ggX6_drift_X6_isStratum
set_option maxRecDepth 20000 in
theorem ggX6_drift_X6_isMonth : GoodIn wsX6_drift wsX6_isMonth := goodIn_r _ [9] (by decide +kernel) (by decide +kernel)
set_option maxRecDepth 20000 in
theorem gX6_drift_X6_isMonth : GoodIn wsX6_drift (va_wsS RX6 61 yX6_isMonth wsX6_isMonth) := goodIn_app (goodIn_of _ (by decide +kernel)) ggX6_drift_X6_isMonth
set_option maxRecDepth 20000 in
theorem ggX6_drift_X3_refresh : GoodIn wsX6_drift wsX3_refresh := goodIn_r _ [14, 15, 16, 17, 18, 19, 20, 13, 21, 22, 23, 24, 25, 26, 27, 28, 29, 30, 31, 32, 33, 34, 35, 36, 37, 38, 39, 40, 41, 5, 42, 43, 44, 45, 46, 47, 48, 49, 50, 51, 52, 53, 54, 55, 56, 57, 58, 59, 60, 61, 62, 63, 64, 65, 66, 67, 68, 69, 70, 71, 72, 73, 74, 75, 76, 77, 78, 79, 80, 81, 82, 83, 84, 85, 86, 87, 88, 89, 90, 91, 92, 93, 94, 95, 96, 97, 98, 99, 100, 101, 102, 103, 104, 105, 106, 107, 108, 109, 110, 111, 112, 113, 114, 115, 116, 117, 118, 119, 120, 121, 122, 123, 124, 125, 126, 127, 128, 152, 153, 154, 155, 156, 157, 158, 159, 160, 161, 162, 163, 164, 165, 166, 167, 168] (by decide +kernel) (by decide +kernel)
set_option maxRecDepth 20000 in
theorem gX6_drift_X3_refresh : GoodIn wsX6_drift (wsV RX6 121 RX3 yX3_refresh wsX3_refresh) := goodIn_app (goodIn_of _ (by decide +kernel)) ggX6_drift_X3_refresh
set_option maxRecDepth 20000 in
theorem ggX6_drift_X3_hasDirect : GoodIn wsX6_drift wsX3_hasDirect := goodIn_r _ [132, 122, 133, 93, 94, 73, 95, 90, 96, 97, 98, 99, 100, 101, 75, 41, 5, 42, 152, 153, 154, 155, 166, 167, 168, 156, 157, 158, 159, 160, 161, 162, 163, 164, 165] (by decide +kernel) (by decide +kernel)
set_option maxRecDepth 20000 in
theorem gX6_drift_X3_hasDirect : GoodIn wsX6_drift (wsV RX6 160 RX3 yX3_hasDirect wsX3_hasDirect) := goodIn_app (goodIn_of _ (by decide +kernel)) ggX6_drift_X3_hasDirect
set_option maxRecDepth 20000 in
theorem ggX6_drift_X3_chained : GoodIn wsX6_drift wsX3_chained := goodIn_r _ [137, 138, 22, 86, 87, 88, 73, 89, 90, 91, 92, 93, 94, 95, 96, 97, 98, 99, 100, 101, 75, 41, 5, 42, 102, 103, 104, 105, 106, 107, 108, 109, 76, 110, 111, 54, 112, 56, 57, 58, 63, 64, 65, 66, 113, 53, 55, 59, 60, 61, 62, 114, 115, 116, 117, 128, 68, 69, 152, 153, 154, 155, 166, 167, 168, 156, 157, 158, 159, 160, 161, 162, 163, 164, 165] (by decide +kernel) (by decide +kernel)
set_option maxRecDepth 20000 in
theorem gX6_drift_X3_chained : GoodIn wsX6_drift (wsV RX6 169 RX3 yX3_chained wsX3_chained) := goodIn_app (goodIn_of _ (by decide +kernel)) ggX6_drift_X3_chained
set_option maxRecDepth 20000 in
theorem ggX6_drift_X5_hundredths : GoodIn wsX6_drift wsX5_hundredths := goodIn_r _ [141, 142, 143, 56, 57, 54, 58] (by decide +kernel) (by decide +kernel)
set_option maxRecDepth 20000 in
theorem gX6_drift_X5_hundredths : GoodIn wsX6_drift (va_wsS RX6 166 yX5_hundredths wsX5_hundredths) := goodIn_app (goodIn_of _ (by decide +kernel)) ggX6_drift_X5_hundredths
set_option maxRecDepth 20000 in
theorem ggX6_drift_X3_direct : GoodIn wsX6_drift wsX3_direct := goodIn_r _ [147, 122, 138, 86, 87, 88, 73, 89, 90, 91, 92, 93, 94, 95, 96, 97, 98, 99, 100, 101, 75, 41, 5, 42, 102, 103, 104, 105, 106, 107, 108, 109, 76, 110, 111, 54, 112, 56, 57, 58, 63, 64, 65, 66, 113, 53, 55, 59, 60, 61, 62, 114, 115, 116, 117, 128, 68, 69, 152, 153, 154, 155, 166, 167, 168, 156, 157, 158, 159, 160, 161, 162, 163, 164, 165] (by decide +kernel) (by decide +kernel)
set_option maxRecDepth 20000 in
theorem gX6_drift_X3_direct : GoodIn wsX6_drift (wsV RX6 163 RX3 yX3_direct wsX3_direct) := goodIn_app (goodIn_of _ (by decide +kernel)) ggX6_drift_X3_direct
theorem dX6_drift_0 : decode cX6_drift 0 = .ok (.iload_n 1, 1) := by decide +kernel
theorem dX6_drift_1 : decode cX6_drift 1 = .ok (.invokestatic 39, 3) := by decide +kernel
theorem dX6_drift_4 : decode cX6_drift 4 = .ok (.ifCond .eq 22, 3) := by decide +kernel
theorem dX6_drift_7 : decode cX6_drift 7 = .ok (.iload_n 2, 1) := by decide +kernel
theorem dX6_drift_8 : decode cX6_drift 8 = .ok (.invokestatic 61, 3) := by decide +kernel
theorem dX6_drift_11 : decode cX6_drift 11 = .ok (.ifCond .eq 15, 3) := by decide +kernel
theorem dX6_drift_14 : decode cX6_drift 14 = .ok (.iload_n 3, 1) := by decide +kernel
theorem dX6_drift_15 : decode cX6_drift 15 = .ok (.invokestatic 61, 3) := by decide +kernel
theorem dX6_drift_18 : decode cX6_drift 18 = .ok (.ifCond .eq 8, 3) := by decide +kernel
theorem dX6_drift_21 : decode cX6_drift 21 = .ok (.iload_n 3, 1) := by decide +kernel
theorem dX6_drift_22 : decode cX6_drift 22 = .ok (.iload_n 2, 1) := by decide +kernel
theorem dX6_drift_23 : decode cX6_drift 23 = .ok (.if_icmp .ge 5, 3) := by decide +kernel
theorem dX6_drift_26 : decode cX6_drift 26 = .ok (.iconst (-1), 1) := by decide +kernel
theorem dX6_drift_27 : decode cX6_drift 27 = .ok (.ireturn, 1) := by decide +kernel
theorem dX6_drift_28 : decode cX6_drift 28 = .ok (.aload_n 0, 1) := by decide +kernel
theorem dX6_drift_29 : decode cX6_drift 29 = .ok (.getfield 35, 3) := by decide +kernel
theorem dX6_drift_32 : decode cX6_drift 32 = .ok (.invokevirtual 121, 3) := by decide +kernel
theorem dX6_drift_35 : decode cX6_drift 35 = .ok (.aload_n 0, 1) := by decide +kernel
theorem dX6_drift_36 : decode cX6_drift 36 = .ok (.getfield 35, 3) := by decide +kernel
theorem dX6_drift_39 : decode cX6_drift 39 = .ok (.iload_n 1, 1) := by decide +kernel
theorem dX6_drift_40 : decode cX6_drift 40 = .ok (.iload_n 2, 1) := by decide +kernel
theorem dX6_drift_41 : decode cX6_drift 41 = .ok (.iload_n 3, 1) := by decide +kernel
theorem dX6_drift_42 : decode cX6_drift 42 = .ok (.invokevirtual 160, 3) := by decide +kernel
theorem dX6_drift_45 : decode cX6_drift 45 = .ok (.ifCond .ne 6, 3) := by decide +kernel
theorem dX6_drift_48 : decode cX6_drift 48 = .ok (.bipush (-9), 2) := by decide +kernel
theorem dX6_drift_50 : decode cX6_drift 50 = .ok (.ireturn, 1) := by decide +kernel
theorem dX6_drift_51 : decode cX6_drift 51 = .ok (.aload_n 0, 1) := by decide +kernel
theorem dX6_drift_52 : decode cX6_drift 52 = .ok (.getfield 35, 3) := by decide +kernel
theorem dX6_drift_55 : decode cX6_drift 55 = .ok (.iload_n 1, 1) := by decide +kernel
theorem dX6_drift_56 : decode cX6_drift 56 = .ok (.iload_n 2, 1) := by decide +kernel
theorem dX6_drift_57 : decode cX6_drift 57 = .ok (.iload_n 3, 1) := by decide +kernel
theorem dX6_drift_58 : decode cX6_drift 58 = .ok (.invokevirtual 169, 3) := by decide +kernel
theorem dX6_drift_61 : decode cX6_drift 61 = .ok (.invokestatic 166, 3) := by decide +kernel
theorem dX6_drift_64 : decode cX6_drift 64 = .ok (.istore 4, 2) := by decide +kernel
theorem dX6_drift_66 : decode cX6_drift 66 = .ok (.aload_n 0, 1) := by decide +kernel
theorem dX6_drift_67 : decode cX6_drift 67 = .ok (.getfield 35, 3) := by decide +kernel
theorem dX6_drift_70 : decode cX6_drift 70 = .ok (.iload_n 1, 1) := by decide +kernel
theorem dX6_drift_71 : decode cX6_drift 71 = .ok (.iload_n 2, 1) := by decide +kernel
theorem dX6_drift_72 : decode cX6_drift 72 = .ok (.iload_n 3, 1) := by decide +kernel
theorem dX6_drift_73 : decode cX6_drift 73 = .ok (.invokevirtual 163, 3) := by decide +kernel
theorem dX6_drift_76 : decode cX6_drift 76 = .ok (.invokestatic 166, 3) := by decide +kernel
theorem dX6_drift_79 : decode cX6_drift 79 = .ok (.istore 5, 2) := by decide +kernel
theorem dX6_drift_81 : decode cX6_drift 81 = .ok (.ldc 172, 2) := by decide +kernel
theorem dX6_drift_83 : decode cX6_drift 83 = .ok (.iload 4, 2) := by decide +kernel
theorem dX6_drift_85 : decode cX6_drift 85 = .ok (.iload 5, 2) := by decide +kernel
theorem dX6_drift_87 : decode cX6_drift 87 = .ok (.isub, 1) := by decide +kernel
theorem dX6_drift_88 : decode cX6_drift 88 = .ok (.iadd, 1) := by decide +kernel
theorem dX6_drift_89 : decode cX6_drift 89 = .ok (.ireturn, 1) := by decide +kernel
set_option maxRecDepth 20000 in
theorem ggX6_aggregateIndex_X6_isMonth : GoodIn wsX6_aggregateIndex wsX6_isMonth := goodIn_r _ [5] (by decide +kernel) (by decide +kernel)
set_option maxRecDepth 20000 in
theorem gX6_aggregateIndex_X6_isMonth : GoodIn wsX6_aggregateIndex (va_wsS RX6 61 yX6_isMonth wsX6_isMonth) := goodIn_app (goodIn_of _ (by decide +kernel)) ggX6_aggregateIndex_X6_isMonth
set_option maxRecDepth 20000 in
theorem ggX6_aggregateIndex_X3_refresh : GoodIn wsX6_aggregateIndex wsX3_refresh := goodIn_r _ [10, 11, 12, 13, 14, 15, 16, 9, 17, 18, 19, 20, 21, 22, 23, 24, 25, 26, 27, 28, 29, 30, 31, 32, 33, 34, 35, 36, 37, 4, 38, 39, 40, 41, 42, 43, 44, 45, 46, 47, 48, 49, 50, 51, 52, 53, 54, 55, 56, 57, 58, 59, 60, 61, 62, 63, 64, 65, 66, 67, 68, 69, 70, 71, 72, 73, 74, 75, 76, 77, 78, 79, 80, 81, 82, 83, 84, 85, 86, 87, 88, 89, 90, 91, 92, 93, 94, 95, 96, 97, 98, 99, 100, 101, 102, 103, 104, 105, 106, 107, 108, 109, 110, 111, 112, 113, 114, 115, 116, 117, 118, 119, 120, 121, 122, 123, 124, 156, 157, 158, 159, 160, 161, 162, 163, 164, 165, 166, 167, 168, 169, 170, 171, 172] (by decide +kernel) (by decide +kernel)
set_option maxRecDepth 20000 in
theorem gX6_aggregateIndex_X3_refresh : GoodIn wsX6_aggregateIndex (wsV RX6 121 RX3 yX3_refresh wsX3_refresh) := goodIn_app (goodIn_of _ (by decide +kernel)) ggX6_aggregateIndex_X3_refresh
set_option maxRecDepth 20000 in
theorem ggX6_aggregateIndex_X3_weightOfDirect : GoodIn wsX6_aggregateIndex wsX3_weightOfDirect := goodIn_r _ [128, 12, 129, 130, 131, 132, 9, 133, 118, 134, 89, 90, 69, 91, 86, 92, 93, 94, 95, 96, 97, 71, 37, 4, 38, 156, 157, 158, 159, 160, 161, 162, 163, 164, 165, 166, 167, 168, 169, 170, 171, 172] (by decide +kernel) (by decide +kernel)
set_option maxRecDepth 20000 in
theorem gX6_aggregateIndex_X3_weightOfDirect : GoodIn wsX6_aggregateIndex (wsV RX6 173 RX3 yX3_weightOfDirect wsX3_weightOfDirect) := goodIn_app (goodIn_of _ (by decide +kernel)) ggX6_aggregateIndex_X3_weightOfDirect
set_option maxRecDepth 20000 in
theorem ggX6_aggregateIndex_X3_aggregate : GoodIn wsX6_aggregateIndex wsX3_aggregate := goodIn_r _ [138, 12, 129, 130, 131, 132, 9, 133, 118, 134, 89, 90, 69, 91, 86, 92, 93, 94, 95, 96, 97, 71, 37, 4, 38, 139, 140, 141, 142, 143, 82, 83, 84, 85, 87, 88, 98, 99, 100, 101, 102, 103, 104, 105, 72, 106, 107, 50, 108, 52, 53, 54, 59, 60, 61, 62, 109, 49, 51, 55, 56, 57, 58, 110, 111, 112, 113, 124, 64, 65, 144, 145, 126, 127, 128, 146, 156, 157, 158, 159, 160, 161, 162, 163, 164, 165, 166, 167, 168, 169, 170, 171, 172] (by decide +kernel) (by decide +kernel)
set_option maxRecDepth 20000 in
theorem gX6_aggregateIndex_X3_aggregate : GoodIn wsX6_aggregateIndex (wsV RX6 176 RX3 yX3_aggregate wsX3_aggregate) := goodIn_app (goodIn_of _ (by decide +kernel)) ggX6_aggregateIndex_X3_aggregate
set_option maxRecDepth 20000 in
theorem ggX6_aggregateIndex_X5_hundredths : GoodIn wsX6_aggregateIndex wsX5_hundredths := goodIn_r _ [149, 150, 151, 52, 53, 50, 54] (by decide +kernel) (by decide +kernel)
set_option maxRecDepth 20000 in
theorem gX6_aggregateIndex_X5_hundredths : GoodIn wsX6_aggregateIndex (va_wsS RX6 166 yX5_hundredths wsX5_hundredths) := goodIn_app (goodIn_of _ (by decide +kernel)) ggX6_aggregateIndex_X5_hundredths
theorem dX6_aggregateIndex_0 : decode cX6_aggregateIndex 0 = .ok (.iload_n 1, 1) := by decide +kernel
theorem dX6_aggregateIndex_1 : decode cX6_aggregateIndex 1 = .ok (.invokestatic 61, 3) := by decide +kernel
theorem dX6_aggregateIndex_4 : decode cX6_aggregateIndex 4 = .ok (.ifCond .eq 10, 3) := by decide +kernel
theorem dX6_aggregateIndex_7 : decode cX6_aggregateIndex 7 = .ok (.iload_n 2, 1) := by decide +kernel
theorem dX6_aggregateIndex_8 : decode cX6_aggregateIndex 8 = .ok (.invokestatic 61, 3) := by decide +kernel
theorem dX6_aggregateIndex_11 : decode cX6_aggregateIndex 11 = .ok (.ifCond .ne 5, 3) := by decide +kernel
theorem dX6_aggregateIndex_14 : decode cX6_aggregateIndex 14 = .ok (.iconst (-1), 1) := by decide +kernel
theorem dX6_aggregateIndex_15 : decode cX6_aggregateIndex 15 = .ok (.ireturn, 1) := by decide +kernel
theorem dX6_aggregateIndex_16 : decode cX6_aggregateIndex 16 = .ok (.aload_n 0, 1) := by decide +kernel
theorem dX6_aggregateIndex_17 : decode cX6_aggregateIndex 17 = .ok (.getfield 35, 3) := by decide +kernel
theorem dX6_aggregateIndex_20 : decode cX6_aggregateIndex 20 = .ok (.invokevirtual 121, 3) := by decide +kernel
theorem dX6_aggregateIndex_23 : decode cX6_aggregateIndex 23 = .ok (.aload_n 0, 1) := by decide +kernel
theorem dX6_aggregateIndex_24 : decode cX6_aggregateIndex 24 = .ok (.getfield 35, 3) := by decide +kernel
theorem dX6_aggregateIndex_27 : decode cX6_aggregateIndex 27 = .ok (.iload_n 1, 1) := by decide +kernel
theorem dX6_aggregateIndex_28 : decode cX6_aggregateIndex 28 = .ok (.iload_n 2, 1) := by decide +kernel
theorem dX6_aggregateIndex_29 : decode cX6_aggregateIndex 29 = .ok (.invokevirtual 173, 3) := by decide +kernel
theorem dX6_aggregateIndex_32 : decode cX6_aggregateIndex 32 = .ok (.ifCond .ne 6, 3) := by decide +kernel
theorem dX6_aggregateIndex_35 : decode cX6_aggregateIndex 35 = .ok (.bipush (-9), 2) := by decide +kernel
theorem dX6_aggregateIndex_37 : decode cX6_aggregateIndex 37 = .ok (.ireturn, 1) := by decide +kernel
theorem dX6_aggregateIndex_38 : decode cX6_aggregateIndex 38 = .ok (.aload_n 0, 1) := by decide +kernel
theorem dX6_aggregateIndex_39 : decode cX6_aggregateIndex 39 = .ok (.getfield 35, 3) := by decide +kernel
theorem dX6_aggregateIndex_42 : decode cX6_aggregateIndex 42 = .ok (.iload_n 1, 1) := by decide +kernel
theorem dX6_aggregateIndex_43 : decode cX6_aggregateIndex 43 = .ok (.iload_n 2, 1) := by decide +kernel
theorem dX6_aggregateIndex_44 : decode cX6_aggregateIndex 44 = .ok (.invokevirtual 176, 3) := by decide +kernel
theorem dX6_aggregateIndex_47 : decode cX6_aggregateIndex 47 = .ok (.invokestatic 166, 3) := by decide +kernel
theorem dX6_aggregateIndex_50 : decode cX6_aggregateIndex 50 = .ok (.ireturn, 1) := by decide +kernel
set_option maxRecDepth 20000 in
theorem ggX6_aggregateBits_X6_isMonth : GoodIn wsX6_aggregateBits wsX6_isMonth := goodIn_r _ [5] (by decide +kernel) (by decide +kernel)
set_option maxRecDepth 20000 in
theorem gX6_aggregateBits_X6_isMonth : GoodIn wsX6_aggregateBits (va_wsS RX6 61 yX6_isMonth wsX6_isMonth) := goodIn_app (goodIn_of _ (by decide +kernel)) ggX6_aggregateBits_X6_isMonth
set_option maxRecDepth 20000 in
theorem ggX6_aggregateBits_X3_refresh : GoodIn wsX6_aggregateBits wsX3_refresh := goodIn_r _ [10, 11, 12, 13, 14, 15, 16, 9, 17, 18, 19, 20, 21, 22, 23, 24, 25, 26, 27, 28, 29, 30, 31, 32, 33, 34, 35, 36, 37, 4, 38, 39, 40, 41, 42, 43, 44, 45, 46, 47, 48, 49, 50, 51, 52, 53, 54, 55, 56, 57, 58, 59, 60, 61, 62, 63, 64, 65, 66, 67, 68, 69, 70, 71, 72, 73, 74, 75, 76, 77, 78, 79, 80, 81, 82, 83, 84, 85, 86, 87, 88, 89, 90, 91, 92, 93, 94, 95, 96, 97, 98, 99, 100, 101, 102, 103, 104, 105, 106, 107, 108, 109, 110, 111, 112, 113, 114, 115, 116, 117, 118, 119, 120, 121, 122, 123, 124, 157, 158, 159, 160, 161, 162, 163, 164, 165, 166, 167, 168, 169, 170, 171, 172, 173] (by decide +kernel) (by decide +kernel)
set_option maxRecDepth 20000 in
theorem gX6_aggregateBits_X3_refresh : GoodIn wsX6_aggregateBits (wsV RX6 121 RX3 yX3_refresh wsX3_refresh) := goodIn_app (goodIn_of _ (by decide +kernel)) ggX6_aggregateBits_X3_refresh
set_option maxRecDepth 20000 in
theorem ggX6_aggregateBits_X3_weightOfDirect : GoodIn wsX6_aggregateBits wsX3_weightOfDirect := goodIn_r _ [128, 12, 129, 130, 131, 132, 9, 133, 118, 134, 89, 90, 69, 91, 86, 92, 93, 94, 95, 96, 97, 71, 37, 4, 38, 157, 158, 159, 160, 161, 162, 163, 164, 165, 166, 167, 168, 169, 170, 171, 172, 173] (by decide +kernel) (by decide +kernel)
set_option maxRecDepth 20000 in
theorem gX6_aggregateBits_X3_weightOfDirect : GoodIn wsX6_aggregateBits (wsV RX6 173 RX3 yX3_weightOfDirect wsX3_weightOfDirect) := goodIn_app (goodIn_of _ (by decide +kernel)) ggX6_aggregateBits_X3_weightOfDirect
set_option maxRecDepth 20000 in
theorem ggX6_aggregateBits_X3_aggregate : GoodIn wsX6_aggregateBits wsX3_aggregate := goodIn_r _ [138, 12, 129, 130, 131, 132, 9, 133, 118, 134, 89, 90, 69, 91, 86, 92, 93, 94, 95, 96, 97, 71, 37, 4, 38, 139, 140, 141, 142, 143, 82, 83, 84, 85, 87, 88, 98, 99, 100, 101, 102, 103, 104, 105, 72, 106, 107, 50, 108, 52, 53, 54, 59, 60, 61, 62, 109, 49, 51, 55, 56, 57, 58, 110, 111, 112, 113, 124, 64, 65, 144, 145, 126, 127, 128, 146, 157, 158, 159, 160, 161, 162, 163, 164, 165, 166, 167, 168, 169, 170, 171, 172, 173] (by decide +kernel) (by decide +kernel)
set_option maxRecDepth 20000 in
theorem gX6_aggregateBits_X3_aggregate : GoodIn wsX6_aggregateBits (wsV RX6 176 RX3 yX3_aggregate wsX3_aggregate) := goodIn_app (goodIn_of _ (by decide +kernel)) ggX6_aggregateBits_X3_aggregate
set_option maxRecDepth 20000 in
theorem ggX6_aggregateBits_X5_bits : GoodIn wsX6_aggregateBits wsX5_bits := goodIn_r _ [149, 150, 151, 152, 52, 53, 50, 54, 55, 56, 57, 58] (by decide +kernel) (by decide +kernel)
set_option maxRecDepth 20000 in
theorem gX6_aggregateBits_X5_bits : GoodIn wsX6_aggregateBits (va_wsS RX6 138 yX5_bits wsX5_bits) := goodIn_app (goodIn_of _ (by decide +kernel)) ggX6_aggregateBits_X5_bits
theorem dX6_aggregateBits_0 : decode cX6_aggregateBits 0 = .ok (.iload_n 1, 1) := by decide +kernel
theorem dX6_aggregateBits_1 : decode cX6_aggregateBits 1 = .ok (.invokestatic 61, 3) := by decide +kernel
theorem dX6_aggregateBits_4 : decode cX6_aggregateBits 4 = .ok (.ifCond .eq 10, 3) := by decide +kernel
theorem dX6_aggregateBits_7 : decode cX6_aggregateBits 7 = .ok (.iload_n 2, 1) := by decide +kernel
theorem dX6_aggregateBits_8 : decode cX6_aggregateBits 8 = .ok (.invokestatic 61, 3) := by decide +kernel
theorem dX6_aggregateBits_11 : decode cX6_aggregateBits 11 = .ok (.ifCond .ne 5, 3) := by decide +kernel
theorem dX6_aggregateBits_14 : decode cX6_aggregateBits 14 = .ok (.iconst (-1), 1) := by decide +kernel
theorem dX6_aggregateBits_15 : decode cX6_aggregateBits 15 = .ok (.ireturn, 1) := by decide +kernel
theorem dX6_aggregateBits_16 : decode cX6_aggregateBits 16 = .ok (.aload_n 0, 1) := by decide +kernel
theorem dX6_aggregateBits_17 : decode cX6_aggregateBits 17 = .ok (.getfield 35, 3) := by decide +kernel
theorem dX6_aggregateBits_20 : decode cX6_aggregateBits 20 = .ok (.invokevirtual 121, 3) := by decide +kernel
theorem dX6_aggregateBits_23 : decode cX6_aggregateBits 23 = .ok (.aload_n 0, 1) := by decide +kernel
theorem dX6_aggregateBits_24 : decode cX6_aggregateBits 24 = .ok (.getfield 35, 3) := by decide +kernel
theorem dX6_aggregateBits_27 : decode cX6_aggregateBits 27 = .ok (.iload_n 1, 1) := by decide +kernel
theorem dX6_aggregateBits_28 : decode cX6_aggregateBits 28 = .ok (.iload_n 2, 1) := by decide +kernel
theorem dX6_aggregateBits_29 : decode cX6_aggregateBits 29 = .ok (.invokevirtual 173, 3) := by decide +kernel
theorem dX6_aggregateBits_32 : decode cX6_aggregateBits 32 = .ok (.ifCond .ne 6, 3) := by decide +kernel
theorem dX6_aggregateBits_35 : decode cX6_aggregateBits 35 = .ok (.bipush (-9), 2) := by decide +kernel
theorem dX6_aggregateBits_37 : decode cX6_aggregateBits 37 = .ok (.ireturn, 1) := by decide +kernel
theorem dX6_aggregateBits_38 : decode cX6_aggregateBits 38 = .ok (.aload_n 0, 1) := by decide +kernel
theorem dX6_aggregateBits_39 : decode cX6_aggregateBits 39 = .ok (.getfield 35, 3) := by decide +kernel
theorem dX6_aggregateBits_42 : decode cX6_aggregateBits 42 = .ok (.iload_n 1, 1) := by decide +kernel
theorem dX6_aggregateBits_43 : decode cX6_aggregateBits 43 = .ok (.iload_n 2, 1) := by decide +kernel
theorem dX6_aggregateBits_44 : decode cX6_aggregateBits 44 = .ok (.invokevirtual 176, 3) := by decide +kernel
theorem dX6_aggregateBits_47 : decode cX6_aggregateBits 47 = .ok (.invokestatic 138, 3) := by decide +kernel
theorem dX6_aggregateBits_50 : decode cX6_aggregateBits 50 = .ok (.ireturn, 1) := by decide +kernel
set_option maxRecDepth 20000 in
theorem ggX6_undo_X3_outdate : GoodIn wsX6_undo wsX3_outdate := goodIn_r _ [9, 10, 45, 46, 47, 48] (by decide +kernel) (by decide +kernel)
set_option maxRecDepth 20000 in
theorem gX6_undo_X3_outdate : GoodIn wsX6_undo (wsV RX6 182 RX3 yX3_outdate wsX3_outdate) := goodIn_app (goodIn_of _ (by decide +kernel)) ggX6_undo_X3_outdate
set_option maxRecDepth 20000 in
theorem ggX6_undo_X1_takeBack : GoodIn wsX6_undo wsX1_takeBack := goodIn_r _ [15, 16, 17, 18, 19, 20, 21, 22, 23, 24, 25, 26, 27, 28, 29, 30, 31, 32, 33, 34, 35, 36, 37, 42, 43, 44, 49, 50, 51, 52, 53, 54, 55, 56, 57, 58] (by decide +kernel) (by decide +kernel)
set_option maxRecDepth 20000 in
theorem gX6_undo_X1_takeBack : GoodIn wsX6_undo (wsV RX6 185 RX1 yX1_takeBack wsX1_takeBack) := goodIn_app (goodIn_of _ (by decide +kernel)) ggX6_undo_X1_takeBack
theorem dX6_undo_0 : decode cX6_undo 0 = .ok (.aload_n 0, 1) := by decide +kernel
theorem dX6_undo_1 : decode cX6_undo 1 = .ok (.getfield 19, 3) := by decide +kernel
theorem dX6_undo_4 : decode cX6_undo 4 = .ok (.getfield 179, 3) := by decide +kernel
end
section
theorem dX6_undo_7 : decode cX6_undo 7 = .ok (.ifCond .ne 6, 3) := by decide +kernel
theorem dX6_undo_10 : decode cX6_undo 10 = .ok (.bipush (-2), 2) := by decide +kernel
theorem dX6_undo_12 : decode cX6_undo 12 = .ok (.ireturn, 1) := by decide +kernel
theorem dX6_undo_13 : decode cX6_undo 13 = .ok (.aload_n 0, 1) := by decide +kernel
theorem dX6_undo_14 : decode cX6_undo 14 = .ok (.getfield 35, 3) := by decide +kernel
theorem dX6_undo_17 : decode cX6_undo 17 = .ok (.invokevirtual 182, 3) := by decide +kernel
theorem dX6_undo_20 : decode cX6_undo 20 = .ok (.aload_n 0, 1) := by decide +kernel
theorem dX6_undo_21 : decode cX6_undo 21 = .ok (.getfield 19, 3) := by decide +kernel
theorem dX6_undo_24 : decode cX6_undo 24 = .ok (.aload_n 0, 1) := by decide +kernel
theorem dX6_undo_25 : decode cX6_undo 25 = .ok (.getfield 12, 3) := by decide +kernel
theorem dX6_undo_28 : decode cX6_undo 28 = .ok (.invokevirtual 185, 3) := by decide +kernel
theorem dX6_undo_31 : decode cX6_undo 31 = .ok (.ireturn, 1) := by decide +kernel
set_option maxRecDepth 20000 in
theorem ggX6_beginEdit_X1_keep : GoodIn wsX6_beginEdit wsX1_keep := goodIn_r _ [8, 9, 10, 11, 12, 13, 14, 15, 16, 17, 18, 19, 20, 21, 22, 23, 24, 25, 26, 27, 28, 29, 30, 41, 42, 43, 44, 45, 46, 47, 48, 49, 50, 51, 52, 53] (by decide +kernel) (by decide +kernel)
set_option maxRecDepth 20000 in
theorem gX6_beginEdit_X1_keep : GoodIn wsX6_beginEdit (wsV RX6 189 RX1 yX1_keep wsX1_keep) := goodIn_app (goodIn_of _ (by decide +kernel)) ggX6_beginEdit_X1_keep
set_option maxRecDepth 20000 in
theorem ggX6_beginEdit_X3_outdate : GoodIn wsX6_beginEdit wsX3_outdate := goodIn_r _ [35, 36, 54, 55, 56, 57] (by decide +kernel) (by decide +kernel)
set_option maxRecDepth 20000 in
theorem gX6_beginEdit_X3_outdate : GoodIn wsX6_beginEdit (wsV RX6 182 RX3 yX3_outdate wsX3_outdate) := goodIn_app (goodIn_of _ (by decide +kernel)) ggX6_beginEdit_X3_outdate
theorem dX6_beginEdit_0 : decode cX6_beginEdit 0 = .ok (.aload_n 0, 1) := by decide +kernel
theorem dX6_beginEdit_1 : decode cX6_beginEdit 1 = .ok (.getfield 19, 3) := by decide +kernel
theorem dX6_beginEdit_4 : decode cX6_beginEdit 4 = .ok (.aload_n 0, 1) := by decide +kernel
theorem dX6_beginEdit_5 : decode cX6_beginEdit 5 = .ok (.getfield 12, 3) := by decide +kernel
theorem dX6_beginEdit_8 : decode cX6_beginEdit 8 = .ok (.invokevirtual 189, 3) := by decide +kernel
theorem dX6_beginEdit_11 : decode cX6_beginEdit 11 = .ok (.aload_n 0, 1) := by decide +kernel
theorem dX6_beginEdit_12 : decode cX6_beginEdit 12 = .ok (.getfield 35, 3) := by decide +kernel
theorem dX6_beginEdit_15 : decode cX6_beginEdit 15 = .ok (.invokevirtual 182, 3) := by decide +kernel
theorem dX6_beginEdit_18 : decode cX6_beginEdit 18 = .ok (.return_, 1) := by decide +kernel
theorem dX6_isItem_0 : decode cX6_isItem 0 = .ok (.iload_n 1, 1) := by decide +kernel
theorem dX6_isItem_1 : decode cX6_isItem 1 = .ok (.ifCond .lt 18, 3) := by decide +kernel
theorem dX6_isItem_4 : decode cX6_isItem 4 = .ok (.iload_n 1, 1) := by decide +kernel
theorem dX6_isItem_5 : decode cX6_isItem 5 = .ok (.aload_n 0, 1) := by decide +kernel
theorem dX6_isItem_6 : decode cX6_isItem 6 = .ok (.getfield 12, 3) := by decide +kernel
theorem dX6_isItem_9 : decode cX6_isItem 9 = .ok (.getfield 47, 3) := by decide +kernel
theorem dX6_isItem_12 : decode cX6_isItem 12 = .ok (.if_icmp .ge 7, 3) := by decide +kernel
theorem dX6_isItem_15 : decode cX6_isItem 15 = .ok (.iconst 1, 1) := by decide +kernel
theorem dX6_isItem_16 : decode cX6_isItem 16 = .ok (.goto 4, 3) := by decide +kernel
theorem dX6_isItem_19 : decode cX6_isItem 19 = .ok (.iconst 0, 1) := by decide +kernel
theorem dX6_isItem_20 : decode cX6_isItem 20 = .ok (.ireturn, 1) := by decide +kernel
theorem dX6_isStratum_0 : decode cX6_isStratum 0 = .ok (.iload_n 0, 1) := by decide +kernel
theorem dX6_isStratum_1 : decode cX6_isStratum 1 = .ok (.ifCond .lt 12, 3) := by decide +kernel
theorem dX6_isStratum_4 : decode cX6_isStratum 4 = .ok (.iload_n 0, 1) := by decide +kernel
theorem dX6_isStratum_5 : decode cX6_isStratum 5 = .ok (.iconst 4, 1) := by decide +kernel
theorem dX6_isStratum_6 : decode cX6_isStratum 6 = .ok (.if_icmp .ge 7, 3) := by decide +kernel
theorem dX6_isStratum_9 : decode cX6_isStratum 9 = .ok (.iconst 1, 1) := by decide +kernel
theorem dX6_isStratum_10 : decode cX6_isStratum 10 = .ok (.goto 4, 3) := by decide +kernel
theorem dX6_isStratum_13 : decode cX6_isStratum 13 = .ok (.iconst 0, 1) := by decide +kernel
theorem dX6_isStratum_14 : decode cX6_isStratum 14 = .ok (.ireturn, 1) := by decide +kernel
theorem dX6_isMonth_0 : decode cX6_isMonth 0 = .ok (.iload_n 0, 1) := by decide +kernel
theorem dX6_isMonth_1 : decode cX6_isMonth 1 = .ok (.ifCond .lt 13, 3) := by decide +kernel
theorem dX6_isMonth_4 : decode cX6_isMonth 4 = .ok (.iload_n 0, 1) := by decide +kernel
theorem dX6_isMonth_5 : decode cX6_isMonth 5 = .ok (.bipush 24, 2) := by decide +kernel
theorem dX6_isMonth_7 : decode cX6_isMonth 7 = .ok (.if_icmp .ge 7, 3) := by decide +kernel
theorem dX6_isMonth_10 : decode cX6_isMonth 10 = .ok (.iconst 1, 1) := by decide +kernel
theorem dX6_isMonth_11 : decode cX6_isMonth 11 = .ok (.goto 4, 3) := by decide +kernel
theorem dX6_isMonth_14 : decode cX6_isMonth 14 = .ok (.iconst 0, 1) := by decide +kernel
theorem dX6_isMonth_15 : decode cX6_isMonth 15 = .ok (.ireturn, 1) := by decide +kernel
theorem dX6_isWithin_0 : decode cX6_isWithin 0 = .ok (.iload_n 0, 1) := by decide +kernel
theorem dX6_isWithin_1 : decode cX6_isWithin 1 = .ok (.iload_n 1, 1) := by decide +kernel
theorem dX6_isWithin_2 : decode cX6_isWithin 2 = .ok (.if_icmp .lt 12, 3) := by decide +kernel
theorem dX6_isWithin_5 : decode cX6_isWithin 5 = .ok (.iload_n 0, 1) := by decide +kernel
theorem dX6_isWithin_6 : decode cX6_isWithin 6 = .ok (.iload_n 2, 1) := by decide +kernel
theorem dX6_isWithin_7 : decode cX6_isWithin 7 = .ok (.if_icmp .gt 7, 3) := by decide +kernel
theorem dX6_isWithin_10 : decode cX6_isWithin 10 = .ok (.iconst 1, 1) := by decide +kernel
theorem dX6_isWithin_11 : decode cX6_isWithin 11 = .ok (.goto 4, 3) := by decide +kernel
theorem dX6_isWithin_14 : decode cX6_isWithin 14 = .ok (.iconst 0, 1) := by decide +kernel
theorem dX6_isWithin_15 : decode cX6_isWithin 15 = .ok (.ireturn, 1) := by decide +kernel
theorem dX6_cell_0 : decode cX6_cell 0 = .ok (.iload_n 0, 1) := by decide +kernel
theorem dX6_cell_1 : decode cX6_cell 1 = .ok (.bipush 24, 2) := by decide +kernel
theorem dX6_cell_3 : decode cX6_cell 3 = .ok (.imul, 1) := by decide +kernel
theorem dX6_cell_4 : decode cX6_cell 4 = .ok (.iload_n 1, 1) := by decide +kernel
theorem dX6_cell_5 : decode cX6_cell 5 = .ok (.iadd, 1) := by decide +kernel
theorem dX6_cell_6 : decode cX6_cell 6 = .ok (.ireturn, 1) := by decide +kernel
end
section
/-! what the component's float numbers are: a number that is not negative, or -1 in place of a NaN -/
def NEG1 : UInt32 := 3212836864
def cNeg (x : UInt32) : Bool := decide (FP.fcmp x FP.fconst0 = some .lt)
def cInf (x : UInt32) : Bool := decide (FP.fcmp x 2139095039 = some .gt)
def cZer (x : UInt32) : Bool := decide (FP.fcmp x FP.fconst0 = some .eq)
def cPlus (a b : UInt32) : UInt32 := if cNeg a || cNeg b then NEG1 else FP.fadd a b
def cTimes (a b : UInt32) : UInt32 := if cNeg a || cNeg b || (cZer a && cInf b) || (cInf a && cZer b) then NEG1 else FP.fmul a b
def cOver (a b : UInt32) : UInt32 := if cNeg a || cNeg b || (cZer a && cZer b) || (cInf a && cInf b) then NEG1 else FP.fdiv a b
section FCMP
variable {p : Program} {l : Launch} {e : Env} {R : Room} {s : State} {m : MethodId} {args : Array Value} {below : List Frame} {meth : Method} {c : Code} {H : Heap} {locs : List Loc} {cells slots : Nat} {Q : State → Prop}
variable {pc : Nat} {ls : Array Slot} {rest : List Value} {cc : ByteArray} {off : Int} {tgt : Nat} {x y : UInt32}
theorem nf_g_ge (hexec : p.tables.exec = Jvm.exec) (hb : c.code = cc) (hdg : decode cc pc = .ok (.ifCond .ge off, 3)) (ht : (pc : Int) + off = (tgt : Int)) (kt : FP.fcmp x y ≠ some .lt → W p l e R s m args below meth c H locs cells slots Q (F0 m tgt ls rest)) (kf : FP.fcmp x y = some .lt → W p l e R s m args below meth c H locs cells slots Q (F0 m (pc + 3) ls rest)) : W p l e R s m args below meth c H locs cells slots Q (F0 m pc ls (.int (Op.cmpValue (FP.fcmp x y) CmpOp.g) :: rest)) := by
  generalize FP.fcmp x y = o at kt kf ⊢
  refine lv_if_ge hexec hb hdg ht (fun h => kt fun q => ?_) (fun h => kf ?_)
  · subst q; revert h; decide
  · revert h; rcases o with _ | _ | _ | _ <;> decide
theorem nf_l_le (hexec : p.tables.exec = Jvm.exec) (hb : c.code = cc) (hdg : decode cc pc = .ok (.ifCond .le off, 3)) (ht : (pc : Int) + off = (tgt : Int)) (kt : FP.fcmp x y ≠ some .gt → W p l e R s m args below meth c H locs cells slots Q (F0 m tgt ls rest)) (kf : FP.fcmp x y = some .gt → W p l e R s m args below meth c H locs cells slots Q (F0 m (pc + 3) ls rest)) : W p l e R s m args below meth c H locs cells slots Q (F0 m pc ls (.int (Op.cmpValue (FP.fcmp x y) CmpOp.l) :: rest)) := by
  generalize FP.fcmp x y = o at kt kf ⊢
  refine lv_if_le hexec hb hdg ht (fun h => kt fun q => ?_) (fun h => kf ?_)
  · subst q; revert h; decide
  · revert h; rcases o with _ | _ | _ | _ <;> decide
theorem nf_l_ne (hexec : p.tables.exec = Jvm.exec) (hb : c.code = cc) (hdg : decode cc pc = .ok (.ifCond .ne off, 3)) (ht : (pc : Int) + off = (tgt : Int)) (kt : FP.fcmp x y ≠ some .eq → W p l e R s m args below meth c H locs cells slots Q (F0 m tgt ls rest)) (kf : FP.fcmp x y = some .eq → W p l e R s m args below meth c H locs cells slots Q (F0 m (pc + 3) ls rest)) : W p l e R s m args below meth c H locs cells slots Q (F0 m pc ls (.int (Op.cmpValue (FP.fcmp x y) CmpOp.l) :: rest)) := by
  generalize FP.fcmp x y = o at kt kf ⊢
  refine lv_if_ne hexec hb hdg ht (fun h => kt fun q => ?_) (fun h => kf ?_)
  · subst q; revert h; decide
  · revert h; rcases o with _ | _ | _ | _ <;> decide
theorem nf_l_eq (hexec : p.tables.exec = Jvm.exec) (hb : c.code = cc) (hdg : decode cc pc = .ok (.ifCond .eq off, 3)) (ht : (pc : Int) + off = (tgt : Int)) (kt : FP.fcmp x y = some .eq → W p l e R s m args below meth c H locs cells slots Q (F0 m tgt ls rest)) (kf : FP.fcmp x y ≠ some .eq → W p l e R s m args below meth c H locs cells slots Q (F0 m (pc + 3) ls rest)) : W p l e R s m args below meth c H locs cells slots Q (F0 m pc ls (.int (Op.cmpValue (FP.fcmp x y) CmpOp.l) :: rest)) := by
  generalize FP.fcmp x y = o at kt kf ⊢
  refine lv_if_eq hexec hb hdg ht (fun h => kt ?_) (fun h => kf fun q => ?_)
  · revert h; rcases o with _ | _ | _ | _ <;> decide
  · subst q; revert h; decide
theorem nf_l_lt (hexec : p.tables.exec = Jvm.exec) (hb : c.code = cc) (hdg : decode cc pc = .ok (.ifCond .lt off, 3)) (ht : (pc : Int) + off = (tgt : Int)) (kt : FP.fcmp x y = some .lt ∨ FP.fcmp x y = none → W p l e R s m args below meth c H locs cells slots Q (F0 m tgt ls rest)) (kf : FP.fcmp x y = some .gt ∨ FP.fcmp x y = some .eq → W p l e R s m args below meth c H locs cells slots Q (F0 m (pc + 3) ls rest)) : W p l e R s m args below meth c H locs cells slots Q (F0 m pc ls (.int (Op.cmpValue (FP.fcmp x y) CmpOp.l) :: rest)) := by
  generalize FP.fcmp x y = o at kt kf ⊢
  refine lv_if_lt hexec hb hdg ht (fun h => kt ?_) (fun h => kf ?_)
  · revert h; rcases o with _ | _ | _ | _ <;> decide
  · revert h; rcases o with _ | _ | _ | _ <;> decide
end FCMP
theorem va_P_nil (D : va_G) (cl : List vw_C) (H : Heap) : va_P D cl [] H := fun _ _ h => by simp at h
theorem nar_bI (b : Bool) : narrow .boolean (.int (bI b)) = .int (bI b) := by cases b <;> rfl
def isStr (x : Int32) : Bool := !decide (x < 0) && !decide (nI 4 ≤ x)
def isMon (x : Int32) : Bool := !decide (x < 0) && !decide (nI 24 ≤ x)
def inR (x y z : Int32) : Bool := !decide (x < y) && !decide (z < x)
end
section
/-! numbers that are not negative, and no NaN: by their bits -/
def posF (x : UInt32) : Prop := x.toNat ≤ 2139095040
def okF (x : UInt32) : Prop := x = NEG1 ∨ posF x
theorem posF_ne {x : UInt32} (h : posF x) : FP.Core.val32 x ≠ .nan := by
  rw [FP.Core.ne_nan32]
  unfold posF at h
  omega
theorem posF_sgn {x : UInt32} (h : posF x) : FP.Core.sgn (FP.Core.val32 x) = false := by
  rw [FP.Core.sgn_bits32 (posF_ne h)]
  unfold posF at h
  simp only [decide_eq_false_iff_not]
  omega
theorem posF_of {x : UInt32} (h : FP.Core.val32 x ≠ .nan) (hs : FP.Core.sgn (FP.Core.val32 x) = false) : posF x := by
  rw [FP.Core.sgn_bits32 h] at hs
  rw [FP.Core.ne_nan32] at h
  simp only [decide_eq_false_iff_not] at hs
  unfold posF
  omega
theorem posF_cases {x : UInt32} (h : posF x) : FP.Core.val32 x = .inf false ∨ ∃ c q, FP.Core.val32 x = .fin false c q := by
  have h1 := posF_ne h
  have h2 := posF_sgn h
  cases hv : FP.Core.val32 x with
  | nan => exact absurd hv h1
  | inf s => rw [hv] at h2; cases h2; exact Or.inl rfl
  | fin s c q => rw [hv] at h2; cases h2; exact Or.inr ⟨c, q, rfl⟩
theorem n32_of {x : UInt32} (h : FP.Core.val32 x ≠ .nan) : vf_n32 x := by
  unfold vf_n32
  rw [FP.Core.ne_nan32] at h
  rw [UInt32.le_iff_toNat_le, FP.Core.mask_toNat32]
  exact h
theorem n32_iff {x : UInt32} : vf_n32 x ↔ FP.Core.val32 x ≠ .nan := by
  refine ⟨fun h => ?_, n32_of⟩
  unfold vf_n32 at h
  rw [UInt32.le_iff_toNat_le, FP.Core.mask_toNat32] at h
  rw [FP.Core.ne_nan32]
  exact h
theorem sgn_round {d : FP.Core.Datum} (h : d ≠ .nan) : FP.Core.sgn (FP.Core.round FP.Core.b32 d) = FP.Core.sgn d := by
  cases d with
  | nan => exact absurd rfl h
  | inf s => rfl
  | fin s c q => exact FP.Core.sgn_roundRatio _ _ _ _ _
theorem round_ne {d : FP.Core.Datum} (h : d ≠ .nan) : FP.Core.round FP.Core.b32 d ≠ .nan := by
  cases d with
  | nan => exact absurd rfl h
  | inf s => exact h
  | fin s c q => exact FP.Core.roundRatio_ne_nan _ _ _ _ _
theorem fkey_pos {x : UInt32} (h : posF x) : FP.Core.fkey x = (x.toNat : Int) := by
  unfold posF at h
  unfold FP.Core.fkey
  rw [if_neg (by omega)]
theorem posF_0 : posF FP.fconst0 := by unfold posF; decide
theorem cNeg_pos {x : UInt32} (h : posF x) : cNeg x = false := by
  unfold cNeg
  rw [decide_eq_false_iff_not]
  intro h1
  have h2 := (FP.Core.fcmp_lt_key (posF_ne h) (posF_ne posF_0)).mp h1
  rw [fkey_pos h, fkey_pos posF_0] at h2
  have : (FP.fconst0).toNat = 0 := rfl
  omega
theorem cNeg_NEG1 : cNeg NEG1 = true := by decide +kernel
theorem ok_pos {x : UInt32} (h : okF x) (hn : cNeg x = false) : posF x := by
  rcases h with h | h
  · rw [h, cNeg_NEG1] at hn; cases hn
  · exact h
theorem ok_neg {x : UInt32} (h : okF x) (hn : cNeg x = true) : x = NEG1 := by
  rcases h with h | h
  · exact h
  · rw [cNeg_pos h] at hn; cases hn
theorem cZer_pos {x : UInt32} (h : posF x) : cZer x = true ↔ x.toNat = 0 := by
  unfold cZer
  rw [decide_eq_true_iff]
  show FP.Core.fcmp x FP.fconst0 = some .eq ↔ _
  rw [FP.Core.fcmp_eq_key (posF_ne h) (posF_ne posF_0), fkey_pos h, fkey_pos posF_0]
  have : (FP.fconst0).toNat = 0 := rfl
  omega
theorem posF_max : posF 2139095039 := by unfold posF; decide
theorem cInf_pos {x : UInt32} (h : posF x) : cInf x = true ↔ x.toNat = 2139095040 := by
  unfold cInf
  rw [decide_eq_true_iff]
  show FP.Core.fcmp x 2139095039 = some .gt ↔ _
  rw [FP.Core.fcmp_gt_key (posF_ne h) (posF_ne posF_max), fkey_pos h, fkey_pos posF_max]
  have : (2139095039 : UInt32).toNat = 2139095039 := rfl
  unfold posF at h
  omega
theorem val32_of_inf {x : UInt32} (h : x.toNat = 2139095040) : FP.Core.val32 x = .inf false := by
  have : x = 2139095040 := UInt32.toNat_inj.mp h
  rw [this]
  decide +kernel
theorem cInf_val {x : UInt32} (h : posF x) : cInf x = true ↔ FP.Core.val32 x = .inf false := by
  rw [cInf_pos h]
  refine ⟨val32_of_inf, fun h1 => ?_⟩
  have h2 : FP.Core.val32 (2139095040 : UInt32) = .inf false := by decide +kernel
  rw [FP.Core.val32_inj (posF_ne h) (h1.trans h2.symm)]
  rfl
theorem cZer_val {x : UInt32} (h : posF x) : cZer x = true ↔ ∃ q, FP.Core.val32 x = .fin false 0 q := by
  rw [cZer_pos h]
  refine ⟨fun h1 => ⟨FP.Core.b32.qmin, ?_⟩, fun ⟨q, h1⟩ => ?_⟩
  · have : x = 0 := UInt32.toNat_inj.mp h1
    rw [this]; exact FP.Core.val32_zero
  · have h2 : FP.Core.FZero x := ⟨_, _, h1⟩
    have h3 := (FP.Core.zero_bits232 x).mp h2
    unfold posF at h
    omega
theorem posF_add {a b : UInt32} (ha : posF a) (hb : posF b) : posF (FP.fadd a b) := by
  have key : FP.Core.exactSum (FP.Core.val32 a) (FP.Core.val32 b) ≠ .nan ∧ FP.Core.sgn (FP.Core.exactSum (FP.Core.val32 a) (FP.Core.val32 b)) = false := by
    rcases posF_cases ha with h1 | ⟨c, q, h1⟩ <;> rcases posF_cases hb with h2 | ⟨d, r, h2⟩ <;> rw [h1, h2]
    · exact ⟨by simp [FP.Core.exactSum], by simp [FP.Core.exactSum, FP.Core.sgn]⟩
    · exact ⟨by simp [FP.Core.exactSum], by simp [FP.Core.exactSum, FP.Core.sgn]⟩
    · exact ⟨by simp [FP.Core.exactSum], by simp [FP.Core.exactSum, FP.Core.sgn]⟩
    · refine ⟨by simp [FP.Core.exactSum], ?_⟩
      simp only [FP.Core.exactSum, FP.Core.sgn, FP.Core.sumSign, FP.Core.sumUnits, FP.Core.signed, Bool.false_eq_true, if_false]
      split
      · rfl
      · simp only [decide_eq_false_iff_not]
        omega
  refine posF_of ?_ ?_
  · show FP.Core.val32 (FP.Core.fadd a b) ≠ _
    rw [FP.Core.val32_fadd]; exact round_ne key.1
  · show FP.Core.sgn (FP.Core.val32 (FP.Core.fadd a b)) = _
    rw [FP.Core.val32_fadd, sgn_round key.1]; exact key.2
theorem posF_mul {a b : UInt32} (ha : posF a) (hb : posF b) (h1 : (cZer a && cInf b) = false) (h2 : (cInf a && cZer b) = false) : posF (FP.fmul a b) := by
  have key : FP.Core.exactProduct (FP.Core.val32 a) (FP.Core.val32 b) ≠ .nan ∧ FP.Core.sgn (FP.Core.exactProduct (FP.Core.val32 a) (FP.Core.val32 b)) = false := by
    rcases posF_cases ha with g1 | ⟨c, q, g1⟩ <;> rcases posF_cases hb with g2 | ⟨d, r, g2⟩
    · rw [g1, g2]; exact ⟨by simp [FP.Core.exactProduct], by simp [FP.Core.exactProduct, FP.Core.sgn]⟩
    · have hd : d ≠ 0 := fun e => by
        rw [(cInf_val ha).mpr g1, (cZer_val hb).mpr ⟨r, by rw [g2, e]⟩] at h2; cases h2
      rw [g1, g2]; exact ⟨by simp [FP.Core.exactProduct, hd], by simp [FP.Core.exactProduct, FP.Core.sgn, hd]⟩
    · have hd : c ≠ 0 := fun e => by
        rw [(cInf_val hb).mpr g2, (cZer_val ha).mpr ⟨q, by rw [g1, e]⟩] at h1; cases h1
      rw [g1, g2]; exact ⟨by simp [FP.Core.exactProduct, hd], by simp [FP.Core.exactProduct, FP.Core.sgn, hd]⟩
    · rw [g1, g2]; exact ⟨by simp [FP.Core.exactProduct], by simp [FP.Core.exactProduct, FP.Core.sgn]⟩
  refine posF_of ?_ ?_
  · show FP.Core.val32 (FP.Core.fmul a b) ≠ _
    rw [FP.Core.val32_fmul]; exact round_ne key.1
  · show FP.Core.sgn (FP.Core.val32 (FP.Core.fmul a b)) = _
    rw [FP.Core.val32_fmul, sgn_round key.1]; exact key.2
theorem posF_div {a b : UInt32} (ha : posF a) (hb : posF b) (h1 : (cZer a && cZer b) = false) (h2 : (cInf a && cInf b) = false) : posF (FP.fdiv a b) := by
  have key : FP.Core.quotient FP.Core.b32 (FP.Core.val32 a) (FP.Core.val32 b) ≠ .nan ∧ FP.Core.sgn (FP.Core.quotient FP.Core.b32 (FP.Core.val32 a) (FP.Core.val32 b)) = false := by
    rcases posF_cases ha with g1 | ⟨c, q, g1⟩ <;> rcases posF_cases hb with g2 | ⟨d, r, g2⟩
    · rw [(cInf_val ha).mpr g1, (cInf_val hb).mpr g2] at h2; cases h2
    · rw [g1, g2]; exact ⟨by simp [FP.Core.quotient], by simp [FP.Core.quotient, FP.Core.sgn]⟩
    · rw [g1, g2]; exact ⟨by simp [FP.Core.quotient], by simp [FP.Core.quotient, FP.Core.sgn]⟩
    · rw [g1, g2]
      by_cases hd : d = 0
      · have hc : c ≠ 0 := fun e => by
          rw [(cZer_val ha).mpr ⟨q, by rw [g1, e]⟩, (cZer_val hb).mpr ⟨r, by rw [g2, hd]⟩] at h1; cases h1
        exact ⟨by simp [FP.Core.quotient, hd, hc], by simp [FP.Core.quotient, FP.Core.sgn, hd, hc]⟩
      · have e : FP.Core.quotient FP.Core.b32 (.fin false c q) (.fin false d r) = FP.Core.roundRatio FP.Core.b32 false c d (q - r) := by simp [FP.Core.quotient, hd]
        rw [e]
        exact ⟨FP.Core.roundRatio_ne_nan _ _ _ _ _, FP.Core.sgn_roundRatio _ _ _ _ _⟩
  refine posF_of ?_ ?_
  · show FP.Core.val32 (FP.Core.fdiv a b) ≠ _
    rw [FP.Core.val32_fdiv]; exact key.1
  · show FP.Core.sgn (FP.Core.val32 (FP.Core.fdiv a b)) = _
    rw [FP.Core.val32_fdiv]; exact key.2
theorem posF_i2f {n : Int32} (h : 0 ≤ n.toInt) : posF (FP.i2f n) := by
  have e : FP.Core.val32 (FP.Core.i2f n) = FP.Core.round FP.Core.b32 (FP.Core.ofInt n.toInt) := FP.Core.val32_i2f n
  refine posF_of ?_ ?_
  · show FP.Core.val32 (FP.Core.i2f n) ≠ _
    rw [e]; exact round_ne (by simp [FP.Core.ofInt])
  · show FP.Core.sgn (FP.Core.val32 (FP.Core.i2f n)) = _
    rw [e, sgn_round (by simp [FP.Core.ofInt])]
    simp only [FP.Core.ofInt, FP.Core.sgn, decide_eq_false_iff_not]
    omega
theorem ok_plus {a b : UInt32} (ha : okF a) (hb : okF b) : okF (cPlus a b) := by
  unfold cPlus
  split
  · exact Or.inl rfl
  · rename_i h
    simp only [Bool.or_eq_true, not_or, Bool.not_eq_true] at h
    exact Or.inr (posF_add (ok_pos ha h.1) (ok_pos hb h.2))
theorem ok_times {a b : UInt32} (ha : okF a) (hb : okF b) : okF (cTimes a b) := by
  unfold cTimes
  split
  · exact Or.inl rfl
  · rename_i h
    simp only [Bool.or_eq_true, not_or, Bool.not_eq_true] at h
    exact Or.inr (posF_mul (ok_pos ha h.1.1.1) (ok_pos hb h.1.1.2) h.1.2 h.2)
theorem ok_over {a b : UInt32} (ha : okF a) (hb : okF b) : okF (cOver a b) := by
  unfold cOver
  split
  · exact Or.inl rfl
  · rename_i h
    simp only [Bool.or_eq_true, not_or, Bool.not_eq_true] at h
    exact Or.inr (posF_div (ok_pos ha h.1.1.1) (ok_pos hb h.1.1.2) h.1.2 h.2)
theorem hn_plus {a b : UInt32} (ha : okF a) (hb : okF b) : cNeg a = false → cNeg b = false → vf_n32 (FP.fadd a b) := fun h1 h2 => n32_of (posF_ne (posF_add (ok_pos ha h1) (ok_pos hb h2)))
theorem hn_times {a b : UInt32} (ha : okF a) (hb : okF b) : cNeg a = false → cNeg b = false → (cZer a && cInf b) = false → (cInf a && cZer b) = false → vf_n32 (FP.fmul a b) := fun h1 h2 h3 h4 => n32_of (posF_ne (posF_mul (ok_pos ha h1) (ok_pos hb h2) h3 h4))
theorem hn_over {a b : UInt32} (ha : okF a) (hb : okF b) : cNeg a = false → cNeg b = false → (cZer a && cZer b) = false → (cInf a && cInf b) = false → vf_n32 (FP.fdiv a b) := fun h1 h2 h3 h4 => n32_of (posF_ne (posF_div (ok_pos ha h1) (ok_pos hb h2) h3 h4))
theorem posF_100 : posF 1120403456 := by unfold posF; decide
theorem posF_half : posF 1056964608 := by unfold posF; decide
theorem posF_x100 {x : UInt32} (h : posF x) : posF (FP.fmul x 1120403456) := by
  refine posF_mul h posF_100 ?_ ?_
  · have : cInf 1120403456 = false := by decide +kernel
    rw [this]; simp
  · have : cZer 1120403456 = false := by decide +kernel
    rw [this]; simp
theorem hn_100 {x : UInt32} (h : okF x) (hn : cNeg x = false) : vf_n32 (FP.fmul x 1120403456) := n32_of (posF_ne (posF_x100 (ok_pos h hn)))
theorem hn_100h {x : UInt32} (h : okF x) (hn : cNeg x = false) : vf_n32 (FP.fadd (FP.fmul x 1120403456) 1056964608) := n32_of (posF_ne (posF_add (posF_x100 (ok_pos h hn)) posF_half))
def cHund (x : UInt32) : Int32 := if cNeg x then 0 else FP.f2i (FP.fadd (FP.fmul x 1120403456) 1056964608)
theorem ok_i2f {n : Int32} (h : 0 ≤ n.toInt) : okF (FP.i2f n) := Or.inr (posF_i2f h)
theorem ok_0 : okF FP.fconst0 := Or.inr posF_0
theorem ok_1 : okF FP.fconst1 := Or.inr (by unfold posF; decide)
theorem ok_100 : okF 1120403456 := Or.inr posF_100
theorem ok_i2f_nI {n : Nat} (h : n < 2 ^ 31) : okF (FP.i2f (nI n)) := ok_i2f (by rw [nI_toInt h]; omega)
end
section
set_option maxHeartbeats 4000000 in
set_option maxRecDepth 100000 in
/-- Real.isNan: less than zero -/
theorem metX5_isNan (l : Launch) (G : GG) (x : UInt32) : Met l yX5_isNan wsX5_isNan ({ frames := 0, cells := 0, slots := 0, locals := 0 }) (pR G ([]) [.float x]) (vp_Si (fun r => r = bI (cNeg x))) 0 0 (fun _ => False) := by
  refine Met.ofW (cc := cX5_isNan) (maxL := 1) (ret := (some .boolean)) (by decide) rfl ?_
  intro p e s m args below meth c s₁ B hml hv
  obtain ⟨rfl, hK, hP⟩ := hv
  have hx := B.exec
  have hb := B.bytes
  have hr := B.returns
  have hlocks := B.notSynchronized
  have hts := atoms_spec (ws := wsX5_isNan) B.pre
  have hown : s.vm.findClass RX5 = some m.cls := findClass_of_methodNamed B.named
  have hl := lv_entry ([.float x]) (n := 1) (Nat.le_of_ble_eq_true rfl)
  rw [lg_entry_eq]
  generalize (lg_sl ([.float x]) ++ List.replicate (1 - (lg_sl ([.float x])).length) Slot.unset).toArray = ls at hl ⊢
  have hl : lv_has ls 1 [(0, .float x)] := hl
  refine lv_fload_n hx hb dX5_isNan_0 rfl (lv_at hl 0 rfl) ?_
  refine lv_fconst0 hx hb dX5_isNan_1 ?_
  refine lv_fcmp hx hb dX5_isNan_2 ?_
  refine nf_g_ge (tgt := 10) hx hb dX5_isNan_3 (by decide) (fun c_1 => ?_) (fun c_1 => ?_)
  · refine lv_iconst (v := nI 0) hx hb dX5_isNan_10 (by decide) ?_
    exact W.zret (v := nI 0) (ty := .boolean) hx hb hr (by rfl) (fun t ht hW => ⟨_, rfl, ((congrArg bI (by simp [cNeg, c_1] : cNeg x = false)).symm), ht⟩) (fun q hq => absurd hq List.not_mem_nil) dX5_isNan_11
  · refine lv_iconst (v := nI 1) hx hb dX5_isNan_6 (by decide) ?_
    refine lv_goto (tgt := 11) hx hb dX5_isNan_7 (by decide) ?_
    exact W.zret (v := nI 1) (ty := .boolean) hx hb hr (by rfl) (fun t ht hW => ⟨_, rfl, ((congrArg bI (by simp [cNeg, c_1] : cNeg x = true)).symm), ht⟩) (fun q hq => absurd hq List.not_mem_nil) dX5_isNan_11
set_option maxHeartbeats 4000000 in
set_option maxRecDepth 100000 in
theorem metX5_isInfinite (l : Launch) (G : GG) (x : UInt32) : Met l yX5_isInfinite wsX5_isInfinite ({ frames := 0, cells := 0, slots := 0, locals := 0 }) (pR G ([]) [.float x]) (vp_Si (fun r => r = bI (cInf x))) 0 0 (fun _ => False) := by
  refine Met.ofW (cc := cX5_isInfinite) (maxL := 1) (ret := (some .boolean)) (by decide) rfl ?_
  intro p e s m args below meth c s₁ B hml hv
  obtain ⟨rfl, hK, hP⟩ := hv
  have hx := B.exec
  have hb := B.bytes
  have hr := B.returns
  have hlocks := B.notSynchronized
  have hts := atoms_spec (ws := wsX5_isInfinite) B.pre
  have hown : s.vm.findClass RX5 = some m.cls := findClass_of_methodNamed B.named
  have hl := lv_entry ([.float x]) (n := 1) (Nat.le_of_ble_eq_true rfl)
  rw [lg_entry_eq]
  generalize (lg_sl ([.float x]) ++ List.replicate (1 - (lg_sl ([.float x])).length) Slot.unset).toArray = ls at hl ⊢
  have hl : lv_has ls 1 [(0, .float x)] := hl
  refine lv_fload_n hx hb dX5_isInfinite_0 rfl (lv_at hl 0 rfl) ?_
  refine lv_ldcf hx hb hown (hts (.constantFloat RX5 8 (2139095039)) (by decide +kernel)) dX5_isInfinite_1 ?_
  refine lv_fcmp hx hb dX5_isInfinite_3 ?_
  refine nf_l_le (tgt := 11) hx hb dX5_isInfinite_4 (by decide) (fun c_1 => ?_) (fun c_1 => ?_)
  · refine lv_iconst (v := nI 0) hx hb dX5_isInfinite_11 (by decide) ?_
    exact W.zret (v := nI 0) (ty := .boolean) hx hb hr (by rfl) (fun t ht hW => ⟨_, rfl, ((congrArg bI (by simp [cInf, c_1] : cInf x = false)).symm), ht⟩) (fun q hq => absurd hq List.not_mem_nil) dX5_isInfinite_12
  · refine lv_iconst (v := nI 1) hx hb dX5_isInfinite_7 (by decide) ?_
    refine lv_goto (tgt := 12) hx hb dX5_isInfinite_8 (by decide) ?_
    exact W.zret (v := nI 1) (ty := .boolean) hx hb hr (by rfl) (fun t ht hW => ⟨_, rfl, ((congrArg bI (by simp [cInf, c_1] : cInf x = true)).symm), ht⟩) (fun q hq => absurd hq List.not_mem_nil) dX5_isInfinite_12
set_option maxHeartbeats 4000000 in
set_option maxRecDepth 100000 in
theorem metX5_nan (l : Launch) (G : GG)  : Met l yX5_nan wsX5_nan ({ frames := 0, cells := 0, slots := 0, locals := 0 }) (pR G ([]) []) (vp_Sf (fun r => r = NEG1)) 0 0 (fun _ => False) := by
  refine Met.ofW (cc := cX5_nan) (maxL := 0) (ret := (some .float)) (by decide) rfl ?_
  intro p e s m args below meth c s₁ B hml hv
  obtain ⟨rfl, hK, hP⟩ := hv
  have hx := B.exec
  have hb := B.bytes
  have hr := B.returns
  have hlocks := B.notSynchronized
  have hts := atoms_spec (ws := wsX5_nan) B.pre
  have hown : s.vm.findClass RX5 = some m.cls := findClass_of_methodNamed B.named
  have hl := lv_entry ([]) (n := 0) (Nat.le_of_ble_eq_true rfl)
  rw [lg_entry_eq]
  generalize (lg_sl ([]) ++ List.replicate (0 - (lg_sl ([])).length) Slot.unset).toArray = ls at hl ⊢
  have hl : lv_has ls 0 [] := hl
  refine lv_ldcf hx hb hown (hts (.constantFloat RX5 7 (3212836864)) (by decide +kernel)) dX5_nan_0 ?_
  exact W.fret (v := (3212836864 : UInt32)) hx hb hr (fun t ht hW => ⟨_, rfl, rfl, ht⟩) (fun q hq => absurd hq List.not_mem_nil) dX5_nan_2
set_option maxHeartbeats 4000000 in
set_option maxRecDepth 100000 in
theorem metX5_plus (l : Launch) (G : GG) (a b : UInt32) (oa : okF a) (ob : okF b) : Met l yX5_plus wsX5_plus ({ frames := 1, cells := 0, slots := 0, locals := 30 }) (pR G ([]) [.float a, .float b]) (vp_Sf (fun r => r = cPlus a b)) 0 0 (fun _ => False) := by
  refine Met.ofW (cc := cX5_plus) (maxL := 2) (ret := (some .float)) (by decide) rfl ?_
  intro p e s m args below meth c s₁ B hml hv
  obtain ⟨rfl, hK, hP⟩ := hv
  have hx := B.exec
  have hb := B.bytes
  have hr := B.returns
  have hlocks := B.notSynchronized
  have hts := atoms_spec (ws := wsX5_plus) B.pre
  have hown : s.vm.findClass RX5 = some m.cls := findClass_of_methodNamed B.named
  have hl := lv_entry ([.float a, .float b]) (n := 2) (Nat.le_of_ble_eq_true rfl)
  rw [lg_entry_eq]
  generalize (lg_sl ([.float a, .float b]) ++ List.replicate (2 - (lg_sl ([.float a, .float b])).length) Slot.unset).toArray = ls at hl ⊢
  have hl : lv_has ls 2 [(0, .float a), (1, .float b)] := hl
  refine lv_fload_n hx hb dX5_plus_0 rfl (lv_at hl 0 rfl) ?_
  refine cr_i (va_runS (As := [.float a]) (rest := []) ⟨hx, hb, hml, hown, hts⟩ (metX5_isNan l G a) (cwS 1 hts gX5_plus_X5_isNan rfl rfl rfl (by decide +kernel) ⟨Nat.le_of_ble_eq_true rfl, Nat.le_of_ble_eq_true rfl⟩) (pR_S hK (va_P_nil _ _ _)) rfl rfl hl.1 rfl (lv_room (Nat.le_of_ble_eq_true rfl)) dX5_plus_1 ⟨Nat.zero_le _, Nat.zero_le _⟩) (fun r_1 hr_2 => ?_)
  subst hr_2
  refine nb_if_ne (B := cNeg a) (tgt := 14) hx hb dX5_plus_4 (by decide) (fun c_3 => ?_) (fun c_3 => ?_)
  · refine cr_f (va_runS (As := []) (rest := []) ⟨hx, hb, hml, hown, hts⟩ (metX5_nan l G ) (cwS 0 hts gX5_plus_X5_nan rfl rfl rfl (by decide +kernel) ⟨Nat.le_of_ble_eq_true rfl, Nat.le_of_ble_eq_true rfl⟩) (pR_S hK (va_P_nil _ _ _)) rfl rfl hl.1 rfl (lv_room (Nat.le_of_ble_eq_true rfl)) dX5_plus_14 ⟨Nat.zero_le _, Nat.zero_le _⟩) (fun r_4 hr_5 => ?_)
    subst hr_5
    exact W.fret (v := NEG1) hx hb hr (fun t ht hW => ⟨_, rfl, (by simp [cPlus, c_3]), ht⟩) (fun q hq => absurd hq List.not_mem_nil) dX5_plus_17
  · refine lv_fload_n hx hb dX5_plus_7 rfl (lv_at hl 1 rfl) ?_
    refine cr_i (va_runS (As := [.float b]) (rest := []) ⟨hx, hb, hml, hown, hts⟩ (metX5_isNan l G b) (cwS 1 hts gX5_plus_X5_isNan rfl rfl rfl (by decide +kernel) ⟨Nat.le_of_ble_eq_true rfl, Nat.le_of_ble_eq_true rfl⟩) (pR_S hK (va_P_nil _ _ _)) rfl rfl hl.1 rfl (lv_room (Nat.le_of_ble_eq_true rfl)) dX5_plus_8 ⟨Nat.zero_le _, Nat.zero_le _⟩) (fun r_6 hr_7 => ?_)
    subst hr_7
    refine nb_if_eq (B := cNeg b) (tgt := 18) hx hb dX5_plus_11 (by decide) (fun c_8 => ?_) (fun c_8 => ?_)
    · refine lv_fload_n hx hb dX5_plus_18 rfl (lv_at hl 0 rfl) ?_
      refine lv_fload_n hx hb dX5_plus_19 rfl (lv_at hl 1 rfl) ?_
      refine lv_fadd hx hb dX5_plus_20 (hn_plus oa ob (by simp [cZer, c_3, c_8]) (by simp [cZer, c_3, c_8])) ?_
      exact W.fret (v := FP.fadd a b) hx hb hr (fun t ht hW => ⟨_, rfl, (by simp [cPlus, c_3, c_8]), ht⟩) (fun q hq => absurd hq List.not_mem_nil) dX5_plus_21
    · refine cr_f (va_runS (As := []) (rest := []) ⟨hx, hb, hml, hown, hts⟩ (metX5_nan l G ) (cwS 0 hts gX5_plus_X5_nan rfl rfl rfl (by decide +kernel) ⟨Nat.le_of_ble_eq_true rfl, Nat.le_of_ble_eq_true rfl⟩) (pR_S hK (va_P_nil _ _ _)) rfl rfl hl.1 rfl (lv_room (Nat.le_of_ble_eq_true rfl)) dX5_plus_14 ⟨Nat.zero_le _, Nat.zero_le _⟩) (fun r_9 hr_10 => ?_)
      subst hr_10
      exact W.fret (v := NEG1) hx hb hr (fun t ht hW => ⟨_, rfl, (by simp [cPlus, c_3, c_8]), ht⟩) (fun q hq => absurd hq List.not_mem_nil) dX5_plus_17
set_option maxHeartbeats 4000000 in
set_option maxRecDepth 100000 in
theorem metX5_times (l : Launch) (G : GG) (a b : UInt32) (oa : okF a) (ob : okF b) : Met l yX5_times wsX5_times ({ frames := 1, cells := 0, slots := 0, locals := 30 }) (pR G ([]) [.float a, .float b]) (vp_Sf (fun r => r = cTimes a b)) 0 0 (fun _ => False) := by
  refine Met.ofW (cc := cX5_times) (maxL := 2) (ret := (some .float)) (by decide) rfl ?_
  intro p e s m args below meth c s₁ B hml hv
  obtain ⟨rfl, hK, hP⟩ := hv
  have hx := B.exec
  have hb := B.bytes
  have hr := B.returns
  have hlocks := B.notSynchronized
  have hts := atoms_spec (ws := wsX5_times) B.pre
  have hown : s.vm.findClass RX5 = some m.cls := findClass_of_methodNamed B.named
  have hl := lv_entry ([.float a, .float b]) (n := 2) (Nat.le_of_ble_eq_true rfl)
  rw [lg_entry_eq]
  generalize (lg_sl ([.float a, .float b]) ++ List.replicate (2 - (lg_sl ([.float a, .float b])).length) Slot.unset).toArray = ls at hl ⊢
  have hl : lv_has ls 2 [(0, .float a), (1, .float b)] := hl
  refine lv_fload_n hx hb dX5_times_0 rfl (lv_at hl 0 rfl) ?_
  refine cr_i (va_runS (As := [.float a]) (rest := []) ⟨hx, hb, hml, hown, hts⟩ (metX5_isNan l G a) (cwS 1 hts gX5_times_X5_isNan rfl rfl rfl (by decide +kernel) ⟨Nat.le_of_ble_eq_true rfl, Nat.le_of_ble_eq_true rfl⟩) (pR_S hK (va_P_nil _ _ _)) rfl rfl hl.1 rfl (lv_room (Nat.le_of_ble_eq_true rfl)) dX5_times_1 ⟨Nat.zero_le _, Nat.zero_le _⟩) (fun r_1 hr_2 => ?_)
  subst hr_2
  refine nb_if_ne (B := cNeg a) (tgt := 40) hx hb dX5_times_4 (by decide) (fun c_3 => ?_) (fun c_3 => ?_)
  · refine cr_f (va_runS (As := []) (rest := []) ⟨hx, hb, hml, hown, hts⟩ (metX5_nan l G ) (cwS 0 hts gX5_times_X5_nan rfl rfl rfl (by decide +kernel) ⟨Nat.le_of_ble_eq_true rfl, Nat.le_of_ble_eq_true rfl⟩) (pR_S hK (va_P_nil _ _ _)) rfl rfl hl.1 rfl (lv_room (Nat.le_of_ble_eq_true rfl)) dX5_times_40 ⟨Nat.zero_le _, Nat.zero_le _⟩) (fun r_4 hr_5 => ?_)
    subst hr_5
    exact W.fret (v := NEG1) hx hb hr (fun t ht hW => ⟨_, rfl, (by simp [cTimes, cZer, c_3]), ht⟩) (fun q hq => absurd hq List.not_mem_nil) dX5_times_43
  · refine lv_fload_n hx hb dX5_times_7 rfl (lv_at hl 1 rfl) ?_
    refine cr_i (va_runS (As := [.float b]) (rest := []) ⟨hx, hb, hml, hown, hts⟩ (metX5_isNan l G b) (cwS 1 hts gX5_times_X5_isNan rfl rfl rfl (by decide +kernel) ⟨Nat.le_of_ble_eq_true rfl, Nat.le_of_ble_eq_true rfl⟩) (pR_S hK (va_P_nil _ _ _)) rfl rfl hl.1 rfl (lv_room (Nat.le_of_ble_eq_true rfl)) dX5_times_8 ⟨Nat.zero_le _, Nat.zero_le _⟩) (fun r_6 hr_7 => ?_)
    subst hr_7
    refine nb_if_ne (B := cNeg b) (tgt := 40) hx hb dX5_times_11 (by decide) (fun c_8 => ?_) (fun c_8 => ?_)
    · refine cr_f (va_runS (As := []) (rest := []) ⟨hx, hb, hml, hown, hts⟩ (metX5_nan l G ) (cwS 0 hts gX5_times_X5_nan rfl rfl rfl (by decide +kernel) ⟨Nat.le_of_ble_eq_true rfl, Nat.le_of_ble_eq_true rfl⟩) (pR_S hK (va_P_nil _ _ _)) rfl rfl hl.1 rfl (lv_room (Nat.le_of_ble_eq_true rfl)) dX5_times_40 ⟨Nat.zero_le _, Nat.zero_le _⟩) (fun r_9 hr_10 => ?_)
      subst hr_10
      exact W.fret (v := NEG1) hx hb hr (fun t ht hW => ⟨_, rfl, (by simp [cTimes, cZer, c_3, c_8]), ht⟩) (fun q hq => absurd hq List.not_mem_nil) dX5_times_43
    · refine lv_fload_n hx hb dX5_times_14 rfl (lv_at hl 0 rfl) ?_
      refine lv_fconst0 hx hb dX5_times_15 ?_
      refine lv_fcmp hx hb dX5_times_16 ?_
      refine nf_l_ne (tgt := 27) hx hb dX5_times_17 (by decide) (fun c_11 => ?_) (fun c_11 => ?_)
      · refine lv_fload_n hx hb dX5_times_27 rfl (lv_at hl 0 rfl) ?_
        refine cr_i (va_runS (As := [.float a]) (rest := []) ⟨hx, hb, hml, hown, hts⟩ (metX5_isInfinite l G a) (cwS 1 hts gX5_times_X5_isInfinite rfl rfl rfl (by decide +kernel) ⟨Nat.le_of_ble_eq_true rfl, Nat.le_of_ble_eq_true rfl⟩) (pR_S hK (va_P_nil _ _ _)) rfl rfl hl.1 rfl (lv_room (Nat.le_of_ble_eq_true rfl)) dX5_times_28 ⟨Nat.zero_le _, Nat.zero_le _⟩) (fun r_12 hr_13 => ?_)
        subst hr_13
        refine nb_if_eq (B := cInf a) (tgt := 44) hx hb dX5_times_31 (by decide) (fun c_14 => ?_) (fun c_14 => ?_)
        · refine lv_fload_n hx hb dX5_times_44 rfl (lv_at hl 0 rfl) ?_
          refine lv_fload_n hx hb dX5_times_45 rfl (lv_at hl 1 rfl) ?_
          refine lv_fmul hx hb dX5_times_46 (hn_times oa ob (by simp [cZer, c_3, c_8, c_11, c_14]) (by simp [cZer, c_3, c_8, c_11, c_14]) (by simp [cZer, c_3, c_8, c_11, c_14]) (by simp [cZer, c_3, c_8, c_11, c_14])) ?_
          exact W.fret (v := FP.fmul a b) hx hb hr (fun t ht hW => ⟨_, rfl, (by simp [cTimes, cZer, c_3, c_8, c_11, c_14]), ht⟩) (fun q hq => absurd hq List.not_mem_nil) dX5_times_47
        · refine lv_fload_n hx hb dX5_times_34 rfl (lv_at hl 1 rfl) ?_
          refine lv_fconst0 hx hb dX5_times_35 ?_
          refine lv_fcmp hx hb dX5_times_36 ?_
          refine nf_l_ne (tgt := 44) hx hb dX5_times_37 (by decide) (fun c_15 => ?_) (fun c_15 => ?_)
          · refine lv_fload_n hx hb dX5_times_44 rfl (lv_at hl 0 rfl) ?_
            refine lv_fload_n hx hb dX5_times_45 rfl (lv_at hl 1 rfl) ?_
            refine lv_fmul hx hb dX5_times_46 (hn_times oa ob (by simp [cZer, c_3, c_8, c_11, c_14, c_15]) (by simp [cZer, c_3, c_8, c_11, c_14, c_15]) (by simp [cZer, c_3, c_8, c_11, c_14, c_15]) (by simp [cZer, c_3, c_8, c_11, c_14, c_15])) ?_
            exact W.fret (v := FP.fmul a b) hx hb hr (fun t ht hW => ⟨_, rfl, (by simp [cTimes, cZer, c_3, c_8, c_11, c_14, c_15]), ht⟩) (fun q hq => absurd hq List.not_mem_nil) dX5_times_47
          · refine cr_f (va_runS (As := []) (rest := []) ⟨hx, hb, hml, hown, hts⟩ (metX5_nan l G ) (cwS 0 hts gX5_times_X5_nan rfl rfl rfl (by decide +kernel) ⟨Nat.le_of_ble_eq_true rfl, Nat.le_of_ble_eq_true rfl⟩) (pR_S hK (va_P_nil _ _ _)) rfl rfl hl.1 rfl (lv_room (Nat.le_of_ble_eq_true rfl)) dX5_times_40 ⟨Nat.zero_le _, Nat.zero_le _⟩) (fun r_16 hr_17 => ?_)
            subst hr_17
            exact W.fret (v := NEG1) hx hb hr (fun t ht hW => ⟨_, rfl, (by simp [cTimes, cZer, c_3, c_8, c_11, c_14, c_15]), ht⟩) (fun q hq => absurd hq List.not_mem_nil) dX5_times_43
      · refine lv_fload_n hx hb dX5_times_20 rfl (lv_at hl 1 rfl) ?_
        refine cr_i (va_runS (As := [.float b]) (rest := []) ⟨hx, hb, hml, hown, hts⟩ (metX5_isInfinite l G b) (cwS 1 hts gX5_times_X5_isInfinite rfl rfl rfl (by decide +kernel) ⟨Nat.le_of_ble_eq_true rfl, Nat.le_of_ble_eq_true rfl⟩) (pR_S hK (va_P_nil _ _ _)) rfl rfl hl.1 rfl (lv_room (Nat.le_of_ble_eq_true rfl)) dX5_times_21 ⟨Nat.zero_le _, Nat.zero_le _⟩) (fun r_18 hr_19 => ?_)
        subst hr_19
        refine nb_if_ne (B := cInf b) (tgt := 40) hx hb dX5_times_24 (by decide) (fun c_20 => ?_) (fun c_20 => ?_)
        · refine cr_f (va_runS (As := []) (rest := []) ⟨hx, hb, hml, hown, hts⟩ (metX5_nan l G ) (cwS 0 hts gX5_times_X5_nan rfl rfl rfl (by decide +kernel) ⟨Nat.le_of_ble_eq_true rfl, Nat.le_of_ble_eq_true rfl⟩) (pR_S hK (va_P_nil _ _ _)) rfl rfl hl.1 rfl (lv_room (Nat.le_of_ble_eq_true rfl)) dX5_times_40 ⟨Nat.zero_le _, Nat.zero_le _⟩) (fun r_21 hr_22 => ?_)
          subst hr_22
          exact W.fret (v := NEG1) hx hb hr (fun t ht hW => ⟨_, rfl, (by simp [cTimes, cZer, c_3, c_8, c_11, c_20]), ht⟩) (fun q hq => absurd hq List.not_mem_nil) dX5_times_43
        · refine lv_fload_n hx hb dX5_times_27 rfl (lv_at hl 0 rfl) ?_
          refine cr_i (va_runS (As := [.float a]) (rest := []) ⟨hx, hb, hml, hown, hts⟩ (metX5_isInfinite l G a) (cwS 1 hts gX5_times_X5_isInfinite rfl rfl rfl (by decide +kernel) ⟨Nat.le_of_ble_eq_true rfl, Nat.le_of_ble_eq_true rfl⟩) (pR_S hK (va_P_nil _ _ _)) rfl rfl hl.1 rfl (lv_room (Nat.le_of_ble_eq_true rfl)) dX5_times_28 ⟨Nat.zero_le _, Nat.zero_le _⟩) (fun r_23 hr_24 => ?_)
          subst hr_24
          refine nb_if_eq (B := cInf a) (tgt := 44) hx hb dX5_times_31 (by decide) (fun c_25 => ?_) (fun c_25 => ?_)
          · refine lv_fload_n hx hb dX5_times_44 rfl (lv_at hl 0 rfl) ?_
            refine lv_fload_n hx hb dX5_times_45 rfl (lv_at hl 1 rfl) ?_
            refine lv_fmul hx hb dX5_times_46 (hn_times oa ob (by simp [cZer, c_3, c_8, c_11, c_20, c_25]) (by simp [cZer, c_3, c_8, c_11, c_20, c_25]) (by simp [cZer, c_3, c_8, c_11, c_20, c_25]) (by simp [cZer, c_3, c_8, c_11, c_20, c_25])) ?_
            exact W.fret (v := FP.fmul a b) hx hb hr (fun t ht hW => ⟨_, rfl, (by simp [cTimes, cZer, c_3, c_8, c_11, c_20, c_25]), ht⟩) (fun q hq => absurd hq List.not_mem_nil) dX5_times_47
          · refine lv_fload_n hx hb dX5_times_34 rfl (lv_at hl 1 rfl) ?_
            refine lv_fconst0 hx hb dX5_times_35 ?_
            refine lv_fcmp hx hb dX5_times_36 ?_
            refine nf_l_ne (tgt := 44) hx hb dX5_times_37 (by decide) (fun c_26 => ?_) (fun c_26 => ?_)
            · refine lv_fload_n hx hb dX5_times_44 rfl (lv_at hl 0 rfl) ?_
              refine lv_fload_n hx hb dX5_times_45 rfl (lv_at hl 1 rfl) ?_
              refine lv_fmul hx hb dX5_times_46 (hn_times oa ob (by simp [cZer, c_3, c_8, c_11, c_20, c_25, c_26]) (by simp [cZer, c_3, c_8, c_11, c_20, c_25, c_26]) (by simp [cZer, c_3, c_8, c_11, c_20, c_25, c_26]) (by simp [cZer, c_3, c_8, c_11, c_20, c_25, c_26])) ?_
              exact W.fret (v := FP.fmul a b) hx hb hr (fun t ht hW => ⟨_, rfl, (by simp [cTimes, cZer, c_3, c_8, c_11, c_20, c_25, c_26]), ht⟩) (fun q hq => absurd hq List.not_mem_nil) dX5_times_47
            · refine cr_f (va_runS (As := []) (rest := []) ⟨hx, hb, hml, hown, hts⟩ (metX5_nan l G ) (cwS 0 hts gX5_times_X5_nan rfl rfl rfl (by decide +kernel) ⟨Nat.le_of_ble_eq_true rfl, Nat.le_of_ble_eq_true rfl⟩) (pR_S hK (va_P_nil _ _ _)) rfl rfl hl.1 rfl (lv_room (Nat.le_of_ble_eq_true rfl)) dX5_times_40 ⟨Nat.zero_le _, Nat.zero_le _⟩) (fun r_27 hr_28 => ?_)
              subst hr_28
              exact W.fret (v := NEG1) hx hb hr (fun t ht hW => ⟨_, rfl, (by simp [cTimes, cZer, c_3, c_8, c_11, c_20, c_25, c_26]), ht⟩) (fun q hq => absurd hq List.not_mem_nil) dX5_times_43
set_option maxHeartbeats 4000000 in
set_option maxRecDepth 100000 in
theorem metX5_over (l : Launch) (G : GG) (a b : UInt32) (oa : okF a) (ob : okF b) : Met l yX5_over wsX5_over ({ frames := 1, cells := 0, slots := 0, locals := 30 }) (pR G ([]) [.float a, .float b]) (vp_Sf (fun r => r = cOver a b)) 0 0 (fun _ => False) := by
  refine Met.ofW (cc := cX5_over) (maxL := 2) (ret := (some .float)) (by decide) rfl ?_
  intro p e s m args below meth c s₁ B hml hv
  obtain ⟨rfl, hK, hP⟩ := hv
  have hx := B.exec
  have hb := B.bytes
  have hr := B.returns
  have hlocks := B.notSynchronized
  have hts := atoms_spec (ws := wsX5_over) B.pre
  have hown : s.vm.findClass RX5 = some m.cls := findClass_of_methodNamed B.named
  have hl := lv_entry ([.float a, .float b]) (n := 2) (Nat.le_of_ble_eq_true rfl)
  rw [lg_entry_eq]
  generalize (lg_sl ([.float a, .float b]) ++ List.replicate (2 - (lg_sl ([.float a, .float b])).length) Slot.unset).toArray = ls at hl ⊢
  have hl : lv_has ls 2 [(0, .float a), (1, .float b)] := hl
  refine lv_fload_n hx hb dX5_over_0 rfl (lv_at hl 0 rfl) ?_
  refine cr_i (va_runS (As := [.float a]) (rest := []) ⟨hx, hb, hml, hown, hts⟩ (metX5_isNan l G a) (cwS 1 hts gX5_over_X5_isNan rfl rfl rfl (by decide +kernel) ⟨Nat.le_of_ble_eq_true rfl, Nat.le_of_ble_eq_true rfl⟩) (pR_S hK (va_P_nil _ _ _)) rfl rfl hl.1 rfl (lv_room (Nat.le_of_ble_eq_true rfl)) dX5_over_1 ⟨Nat.zero_le _, Nat.zero_le _⟩) (fun r_1 hr_2 => ?_)
  subst hr_2
  refine nb_if_ne (B := cNeg a) (tgt := 40) hx hb dX5_over_4 (by decide) (fun c_3 => ?_) (fun c_3 => ?_)
  · refine cr_f (va_runS (As := []) (rest := []) ⟨hx, hb, hml, hown, hts⟩ (metX5_nan l G ) (cwS 0 hts gX5_over_X5_nan rfl rfl rfl (by decide +kernel) ⟨Nat.le_of_ble_eq_true rfl, Nat.le_of_ble_eq_true rfl⟩) (pR_S hK (va_P_nil _ _ _)) rfl rfl hl.1 rfl (lv_room (Nat.le_of_ble_eq_true rfl)) dX5_over_40 ⟨Nat.zero_le _, Nat.zero_le _⟩) (fun r_4 hr_5 => ?_)
    subst hr_5
    exact W.fret (v := NEG1) hx hb hr (fun t ht hW => ⟨_, rfl, (by simp [cOver, cZer, c_3]), ht⟩) (fun q hq => absurd hq List.not_mem_nil) dX5_over_43
  · refine lv_fload_n hx hb dX5_over_7 rfl (lv_at hl 1 rfl) ?_
    refine cr_i (va_runS (As := [.float b]) (rest := []) ⟨hx, hb, hml, hown, hts⟩ (metX5_isNan l G b) (cwS 1 hts gX5_over_X5_isNan rfl rfl rfl (by decide +kernel) ⟨Nat.le_of_ble_eq_true rfl, Nat.le_of_ble_eq_true rfl⟩) (pR_S hK (va_P_nil _ _ _)) rfl rfl hl.1 rfl (lv_room (Nat.le_of_ble_eq_true rfl)) dX5_over_8 ⟨Nat.zero_le _, Nat.zero_le _⟩) (fun r_6 hr_7 => ?_)
    subst hr_7
    refine nb_if_ne (B := cNeg b) (tgt := 40) hx hb dX5_over_11 (by decide) (fun c_8 => ?_) (fun c_8 => ?_)
    · refine cr_f (va_runS (As := []) (rest := []) ⟨hx, hb, hml, hown, hts⟩ (metX5_nan l G ) (cwS 0 hts gX5_over_X5_nan rfl rfl rfl (by decide +kernel) ⟨Nat.le_of_ble_eq_true rfl, Nat.le_of_ble_eq_true rfl⟩) (pR_S hK (va_P_nil _ _ _)) rfl rfl hl.1 rfl (lv_room (Nat.le_of_ble_eq_true rfl)) dX5_over_40 ⟨Nat.zero_le _, Nat.zero_le _⟩) (fun r_9 hr_10 => ?_)
      subst hr_10
      exact W.fret (v := NEG1) hx hb hr (fun t ht hW => ⟨_, rfl, (by simp [cOver, cZer, c_3, c_8]), ht⟩) (fun q hq => absurd hq List.not_mem_nil) dX5_over_43
    · refine lv_fload_n hx hb dX5_over_14 rfl (lv_at hl 0 rfl) ?_
      refine lv_fconst0 hx hb dX5_over_15 ?_
      refine lv_fcmp hx hb dX5_over_16 ?_
      refine nf_l_ne (tgt := 26) hx hb dX5_over_17 (by decide) (fun c_11 => ?_) (fun c_11 => ?_)
      · refine lv_fload_n hx hb dX5_over_26 rfl (lv_at hl 0 rfl) ?_
        refine cr_i (va_runS (As := [.float a]) (rest := []) ⟨hx, hb, hml, hown, hts⟩ (metX5_isInfinite l G a) (cwS 1 hts gX5_over_X5_isInfinite rfl rfl rfl (by decide +kernel) ⟨Nat.le_of_ble_eq_true rfl, Nat.le_of_ble_eq_true rfl⟩) (pR_S hK (va_P_nil _ _ _)) rfl rfl hl.1 rfl (lv_room (Nat.le_of_ble_eq_true rfl)) dX5_over_27 ⟨Nat.zero_le _, Nat.zero_le _⟩) (fun r_12 hr_13 => ?_)
        subst hr_13
        refine nb_if_eq (B := cInf a) (tgt := 44) hx hb dX5_over_30 (by decide) (fun c_14 => ?_) (fun c_14 => ?_)
        · refine lv_fload_n hx hb dX5_over_44 rfl (lv_at hl 0 rfl) ?_
          refine lv_fload_n hx hb dX5_over_45 rfl (lv_at hl 1 rfl) ?_
          refine lv_fdiv hx hb dX5_over_46 (hn_over oa ob (by simp [cZer, c_3, c_8, c_11, c_14]) (by simp [cZer, c_3, c_8, c_11, c_14]) (by simp [cZer, c_3, c_8, c_11, c_14]) (by simp [cZer, c_3, c_8, c_11, c_14])) ?_
          exact W.fret (v := FP.fdiv a b) hx hb hr (fun t ht hW => ⟨_, rfl, (by simp [cOver, cZer, c_3, c_8, c_11, c_14]), ht⟩) (fun q hq => absurd hq List.not_mem_nil) dX5_over_47
        · refine lv_fload_n hx hb dX5_over_33 rfl (lv_at hl 1 rfl) ?_
          refine cr_i (va_runS (As := [.float b]) (rest := []) ⟨hx, hb, hml, hown, hts⟩ (metX5_isInfinite l G b) (cwS 1 hts gX5_over_X5_isInfinite rfl rfl rfl (by decide +kernel) ⟨Nat.le_of_ble_eq_true rfl, Nat.le_of_ble_eq_true rfl⟩) (pR_S hK (va_P_nil _ _ _)) rfl rfl hl.1 rfl (lv_room (Nat.le_of_ble_eq_true rfl)) dX5_over_34 ⟨Nat.zero_le _, Nat.zero_le _⟩) (fun r_15 hr_16 => ?_)
          subst hr_16
          refine nb_if_eq (B := cInf b) (tgt := 44) hx hb dX5_over_37 (by decide) (fun c_17 => ?_) (fun c_17 => ?_)
          · refine lv_fload_n hx hb dX5_over_44 rfl (lv_at hl 0 rfl) ?_
            refine lv_fload_n hx hb dX5_over_45 rfl (lv_at hl 1 rfl) ?_
            refine lv_fdiv hx hb dX5_over_46 (hn_over oa ob (by simp [cZer, c_3, c_8, c_11, c_14, c_17]) (by simp [cZer, c_3, c_8, c_11, c_14, c_17]) (by simp [cZer, c_3, c_8, c_11, c_14, c_17]) (by simp [cZer, c_3, c_8, c_11, c_14, c_17])) ?_
            exact W.fret (v := FP.fdiv a b) hx hb hr (fun t ht hW => ⟨_, rfl, (by simp [cOver, cZer, c_3, c_8, c_11, c_14, c_17]), ht⟩) (fun q hq => absurd hq List.not_mem_nil) dX5_over_47
          · refine cr_f (va_runS (As := []) (rest := []) ⟨hx, hb, hml, hown, hts⟩ (metX5_nan l G ) (cwS 0 hts gX5_over_X5_nan rfl rfl rfl (by decide +kernel) ⟨Nat.le_of_ble_eq_true rfl, Nat.le_of_ble_eq_true rfl⟩) (pR_S hK (va_P_nil _ _ _)) rfl rfl hl.1 rfl (lv_room (Nat.le_of_ble_eq_true rfl)) dX5_over_40 ⟨Nat.zero_le _, Nat.zero_le _⟩) (fun r_18 hr_19 => ?_)
            subst hr_19
            exact W.fret (v := NEG1) hx hb hr (fun t ht hW => ⟨_, rfl, (by simp [cOver, cZer, c_3, c_8, c_11, c_14, c_17]), ht⟩) (fun q hq => absurd hq List.not_mem_nil) dX5_over_43
      · refine lv_fload_n hx hb dX5_over_20 rfl (lv_at hl 1 rfl) ?_
        refine lv_fconst0 hx hb dX5_over_21 ?_
        refine lv_fcmp hx hb dX5_over_22 ?_
        refine nf_l_eq (tgt := 40) hx hb dX5_over_23 (by decide) (fun c_20 => ?_) (fun c_20 => ?_)
        · refine cr_f (va_runS (As := []) (rest := []) ⟨hx, hb, hml, hown, hts⟩ (metX5_nan l G ) (cwS 0 hts gX5_over_X5_nan rfl rfl rfl (by decide +kernel) ⟨Nat.le_of_ble_eq_true rfl, Nat.le_of_ble_eq_true rfl⟩) (pR_S hK (va_P_nil _ _ _)) rfl rfl hl.1 rfl (lv_room (Nat.le_of_ble_eq_true rfl)) dX5_over_40 ⟨Nat.zero_le _, Nat.zero_le _⟩) (fun r_21 hr_22 => ?_)
          subst hr_22
          exact W.fret (v := NEG1) hx hb hr (fun t ht hW => ⟨_, rfl, (by simp [cOver, cZer, c_3, c_8, c_11, c_20]), ht⟩) (fun q hq => absurd hq List.not_mem_nil) dX5_over_43
        · refine lv_fload_n hx hb dX5_over_26 rfl (lv_at hl 0 rfl) ?_
          refine cr_i (va_runS (As := [.float a]) (rest := []) ⟨hx, hb, hml, hown, hts⟩ (metX5_isInfinite l G a) (cwS 1 hts gX5_over_X5_isInfinite rfl rfl rfl (by decide +kernel) ⟨Nat.le_of_ble_eq_true rfl, Nat.le_of_ble_eq_true rfl⟩) (pR_S hK (va_P_nil _ _ _)) rfl rfl hl.1 rfl (lv_room (Nat.le_of_ble_eq_true rfl)) dX5_over_27 ⟨Nat.zero_le _, Nat.zero_le _⟩) (fun r_23 hr_24 => ?_)
          subst hr_24
          refine nb_if_eq (B := cInf a) (tgt := 44) hx hb dX5_over_30 (by decide) (fun c_25 => ?_) (fun c_25 => ?_)
          · refine lv_fload_n hx hb dX5_over_44 rfl (lv_at hl 0 rfl) ?_
            refine lv_fload_n hx hb dX5_over_45 rfl (lv_at hl 1 rfl) ?_
            refine lv_fdiv hx hb dX5_over_46 (hn_over oa ob (by simp [cZer, c_3, c_8, c_11, c_20, c_25]) (by simp [cZer, c_3, c_8, c_11, c_20, c_25]) (by simp [cZer, c_3, c_8, c_11, c_20, c_25]) (by simp [cZer, c_3, c_8, c_11, c_20, c_25])) ?_
            exact W.fret (v := FP.fdiv a b) hx hb hr (fun t ht hW => ⟨_, rfl, (by simp [cOver, cZer, c_3, c_8, c_11, c_20, c_25]), ht⟩) (fun q hq => absurd hq List.not_mem_nil) dX5_over_47
          · refine lv_fload_n hx hb dX5_over_33 rfl (lv_at hl 1 rfl) ?_
            refine cr_i (va_runS (As := [.float b]) (rest := []) ⟨hx, hb, hml, hown, hts⟩ (metX5_isInfinite l G b) (cwS 1 hts gX5_over_X5_isInfinite rfl rfl rfl (by decide +kernel) ⟨Nat.le_of_ble_eq_true rfl, Nat.le_of_ble_eq_true rfl⟩) (pR_S hK (va_P_nil _ _ _)) rfl rfl hl.1 rfl (lv_room (Nat.le_of_ble_eq_true rfl)) dX5_over_34 ⟨Nat.zero_le _, Nat.zero_le _⟩) (fun r_26 hr_27 => ?_)
            subst hr_27
            refine nb_if_eq (B := cInf b) (tgt := 44) hx hb dX5_over_37 (by decide) (fun c_28 => ?_) (fun c_28 => ?_)
            · refine lv_fload_n hx hb dX5_over_44 rfl (lv_at hl 0 rfl) ?_
              refine lv_fload_n hx hb dX5_over_45 rfl (lv_at hl 1 rfl) ?_
              refine lv_fdiv hx hb dX5_over_46 (hn_over oa ob (by simp [cZer, c_3, c_8, c_11, c_20, c_25, c_28]) (by simp [cZer, c_3, c_8, c_11, c_20, c_25, c_28]) (by simp [cZer, c_3, c_8, c_11, c_20, c_25, c_28]) (by simp [cZer, c_3, c_8, c_11, c_20, c_25, c_28])) ?_
              exact W.fret (v := FP.fdiv a b) hx hb hr (fun t ht hW => ⟨_, rfl, (by simp [cOver, cZer, c_3, c_8, c_11, c_20, c_25, c_28]), ht⟩) (fun q hq => absurd hq List.not_mem_nil) dX5_over_47
            · refine cr_f (va_runS (As := []) (rest := []) ⟨hx, hb, hml, hown, hts⟩ (metX5_nan l G ) (cwS 0 hts gX5_over_X5_nan rfl rfl rfl (by decide +kernel) ⟨Nat.le_of_ble_eq_true rfl, Nat.le_of_ble_eq_true rfl⟩) (pR_S hK (va_P_nil _ _ _)) rfl rfl hl.1 rfl (lv_room (Nat.le_of_ble_eq_true rfl)) dX5_over_40 ⟨Nat.zero_le _, Nat.zero_le _⟩) (fun r_29 hr_30 => ?_)
              subst hr_30
              exact W.fret (v := NEG1) hx hb hr (fun t ht hW => ⟨_, rfl, (by simp [cOver, cZer, c_3, c_8, c_11, c_20, c_25, c_28]), ht⟩) (fun q hq => absurd hq List.not_mem_nil) dX5_over_43
set_option maxHeartbeats 4000000 in
set_option maxRecDepth 100000 in
theorem metX5_hundredths (l : Launch) (G : GG) (x : UInt32) (ox : okF x) : Met l yX5_hundredths wsX5_hundredths ({ frames := 1, cells := 0, slots := 0, locals := 30 }) (pR G ([]) [.float x]) (vp_Si (fun r => r = cHund x)) 0 0 (fun _ => False) := by
  refine Met.ofW (cc := cX5_hundredths) (maxL := 1) (ret := (some .int)) (by decide) rfl ?_
  intro p e s m args below meth c s₁ B hml hv
  obtain ⟨rfl, hK, hP⟩ := hv
  have hx := B.exec
  have hb := B.bytes
  have hr := B.returns
  have hlocks := B.notSynchronized
  have hts := atoms_spec (ws := wsX5_hundredths) B.pre
  have hown : s.vm.findClass RX5 = some m.cls := findClass_of_methodNamed B.named
  have hl := lv_entry ([.float x]) (n := 1) (Nat.le_of_ble_eq_true rfl)
  rw [lg_entry_eq]
  generalize (lg_sl ([.float x]) ++ List.replicate (1 - (lg_sl ([.float x])).length) Slot.unset).toArray = ls at hl ⊢
  have hl : lv_has ls 1 [(0, .float x)] := hl
  refine lv_fload_n hx hb dX5_hundredths_0 rfl (lv_at hl 0 rfl) ?_
  refine cr_i (va_runS (As := [.float x]) (rest := []) ⟨hx, hb, hml, hown, hts⟩ (metX5_isNan l G x) (cwS 1 hts gX5_hundredths_X5_isNan rfl rfl rfl (by decide +kernel) ⟨Nat.le_of_ble_eq_true rfl, Nat.le_of_ble_eq_true rfl⟩) (pR_S hK (va_P_nil _ _ _)) rfl rfl hl.1 rfl (lv_room (Nat.le_of_ble_eq_true rfl)) dX5_hundredths_1 ⟨Nat.zero_le _, Nat.zero_le _⟩) (fun r_1 hr_2 => ?_)
  subst hr_2
  refine nb_if_eq (B := cNeg x) (tgt := 11) hx hb dX5_hundredths_4 (by decide) (fun c_3 => ?_) (fun c_3 => ?_)
  · refine lv_fload_n hx hb dX5_hundredths_11 rfl (lv_at hl 0 rfl) ?_
    refine lv_ldcf hx hb hown (hts (.constantFloat RX5 22 (1120403456)) (by decide +kernel)) dX5_hundredths_12 ?_
    refine lv_fmul hx hb dX5_hundredths_14 (hn_100 ox c_3) ?_
    refine lv_ldcf hx hb hown (hts (.constantFloat RX5 23 (1056964608)) (by decide +kernel)) dX5_hundredths_15 ?_
    refine lv_fadd hx hb dX5_hundredths_17 (hn_100h ox c_3) ?_
    refine lv_f2i hx hb dX5_hundredths_18 ?_
    exact W.iret (v := FP.f2i (FP.fadd (FP.fmul x (1120403456 : UInt32)) (1056964608 : UInt32))) hx hb hr (fun t ht hW => ⟨_, rfl, (by rw [cHund, if_neg (by simp [c_3])]), ht⟩) (fun q hq => absurd hq List.not_mem_nil) dX5_hundredths_19
  · refine lv_iconst (v := nI 0) hx hb dX5_hundredths_7 (by decide) ?_
    refine lv_goto (tgt := 19) hx hb dX5_hundredths_8 (by decide) ?_
    exact W.iret (v := nI 0) hx hb hr (fun t ht hW => ⟨_, rfl, (by rw [cHund, if_pos c_3]; rfl), ht⟩) (fun q hq => absurd hq List.not_mem_nil) dX5_hundredths_19
set_option maxHeartbeats 4000000 in
set_option maxRecDepth 100000 in
theorem metX6_isStratum (l : Launch) (G : GG) (x : Int32) : Met l yX6_isStratum wsX6_isStratum ({ frames := 0, cells := 0, slots := 0, locals := 0 }) (pR G ([]) [.int x]) (vp_Si (fun r => r = bI (isStr x))) 0 0 (fun _ => False) := by
  refine Met.ofW (cc := cX6_isStratum) (maxL := 1) (ret := (some .boolean)) (by decide) rfl ?_
  intro p e s m args below meth c s₁ B hml hv
  obtain ⟨rfl, hK, hP⟩ := hv
  have hx := B.exec
  have hb := B.bytes
  have hr := B.returns
  have hlocks := B.notSynchronized
  have hts := atoms_spec (ws := wsX6_isStratum) B.pre
  have hown : s.vm.findClass RX6 = some m.cls := findClass_of_methodNamed B.named
  have hl := lv_entry ([.int x]) (n := 1) (Nat.le_of_ble_eq_true rfl)
  rw [lg_entry_eq]
  generalize (lg_sl ([.int x]) ++ List.replicate (1 - (lg_sl ([.int x])).length) Slot.unset).toArray = ls at hl ⊢
  have hl : lv_has ls 1 [(0, .int x)] := hl
  refine lv_iload_n hx hb dX6_isStratum_0 rfl (lv_at hl 0 rfl) ?_
  refine lv_if_lt (tgt := 13) hx hb dX6_isStratum_1 (by decide) (fun c_1 => ?_) (fun c_1 => ?_)
  · refine lv_iconst (v := nI 0) hx hb dX6_isStratum_13 (by decide) ?_
    exact W.zret (v := nI 0) (ty := .boolean) hx hb hr (by rfl) (fun t ht hW => ⟨_, rfl, ((congrArg bI (by simp [isStr, c_1] : isStr x = false)).symm), ht⟩) (fun q hq => absurd hq List.not_mem_nil) dX6_isStratum_14
  · refine lv_iload_n hx hb dX6_isStratum_4 rfl (lv_at hl 0 rfl) ?_
    refine lv_iconst (v := nI 4) hx hb dX6_isStratum_5 (by decide) ?_
    refine lv_icmp_ge (tgt := 13) hx hb dX6_isStratum_6 (by decide) (fun c_2 => ?_) (fun c_2 => ?_)
    · refine lv_iconst (v := nI 0) hx hb dX6_isStratum_13 (by decide) ?_
      exact W.zret (v := nI 0) (ty := .boolean) hx hb hr (by rfl) (fun t ht hW => ⟨_, rfl, ((congrArg bI (by simp [isStr, c_1, c_2] : isStr x = false)).symm), ht⟩) (fun q hq => absurd hq List.not_mem_nil) dX6_isStratum_14
    · refine lv_iconst (v := nI 1) hx hb dX6_isStratum_9 (by decide) ?_
      refine lv_goto (tgt := 14) hx hb dX6_isStratum_10 (by decide) ?_
      exact W.zret (v := nI 1) (ty := .boolean) hx hb hr (by rfl) (fun t ht hW => ⟨_, rfl, ((congrArg bI (by simp [isStr, c_1, c_2] : isStr x = true)).symm), ht⟩) (fun q hq => absurd hq List.not_mem_nil) dX6_isStratum_14
set_option maxHeartbeats 4000000 in
set_option maxRecDepth 100000 in
theorem metX6_isMonth (l : Launch) (G : GG) (x : Int32) : Met l yX6_isMonth wsX6_isMonth ({ frames := 0, cells := 0, slots := 0, locals := 0 }) (pR G ([]) [.int x]) (vp_Si (fun r => r = bI (isMon x))) 0 0 (fun _ => False) := by
  refine Met.ofW (cc := cX6_isMonth) (maxL := 1) (ret := (some .boolean)) (by decide) rfl ?_
  intro p e s m args below meth c s₁ B hml hv
  obtain ⟨rfl, hK, hP⟩ := hv
  have hx := B.exec
  have hb := B.bytes
  have hr := B.returns
  have hlocks := B.notSynchronized
  have hts := atoms_spec (ws := wsX6_isMonth) B.pre
  have hown : s.vm.findClass RX6 = some m.cls := findClass_of_methodNamed B.named
  have hl := lv_entry ([.int x]) (n := 1) (Nat.le_of_ble_eq_true rfl)
  rw [lg_entry_eq]
  generalize (lg_sl ([.int x]) ++ List.replicate (1 - (lg_sl ([.int x])).length) Slot.unset).toArray = ls at hl ⊢
  have hl : lv_has ls 1 [(0, .int x)] := hl
  refine lv_iload_n hx hb dX6_isMonth_0 rfl (lv_at hl 0 rfl) ?_
  refine lv_if_lt (tgt := 14) hx hb dX6_isMonth_1 (by decide) (fun c_1 => ?_) (fun c_1 => ?_)
  · refine lv_iconst (v := nI 0) hx hb dX6_isMonth_14 (by decide) ?_
    exact W.zret (v := nI 0) (ty := .boolean) hx hb hr (by rfl) (fun t ht hW => ⟨_, rfl, ((congrArg bI (by simp [isMon, c_1] : isMon x = false)).symm), ht⟩) (fun q hq => absurd hq List.not_mem_nil) dX6_isMonth_15
  · refine lv_iload_n hx hb dX6_isMonth_4 rfl (lv_at hl 0 rfl) ?_
    refine lv_bipush (v := nI 24) hx hb dX6_isMonth_5 (by decide) ?_
    refine lv_icmp_ge (tgt := 14) hx hb dX6_isMonth_7 (by decide) (fun c_2 => ?_) (fun c_2 => ?_)
    · refine lv_iconst (v := nI 0) hx hb dX6_isMonth_14 (by decide) ?_
      exact W.zret (v := nI 0) (ty := .boolean) hx hb hr (by rfl) (fun t ht hW => ⟨_, rfl, ((congrArg bI (by simp [isMon, c_1, c_2] : isMon x = false)).symm), ht⟩) (fun q hq => absurd hq List.not_mem_nil) dX6_isMonth_15
    · refine lv_iconst (v := nI 1) hx hb dX6_isMonth_10 (by decide) ?_
      refine lv_goto (tgt := 15) hx hb dX6_isMonth_11 (by decide) ?_
      exact W.zret (v := nI 1) (ty := .boolean) hx hb hr (by rfl) (fun t ht hW => ⟨_, rfl, ((congrArg bI (by simp [isMon, c_1, c_2] : isMon x = true)).symm), ht⟩) (fun q hq => absurd hq List.not_mem_nil) dX6_isMonth_15
set_option maxHeartbeats 4000000 in
set_option maxRecDepth 100000 in
theorem metX6_isWithin (l : Launch) (G : GG) (x y z : Int32) : Met l yX6_isWithin wsX6_isWithin ({ frames := 0, cells := 0, slots := 0, locals := 0 }) (pR G ([]) [.int x, .int y, .int z]) (vp_Si (fun r => r = bI (inR x y z))) 0 0 (fun _ => False) := by
  refine Met.ofW (cc := cX6_isWithin) (maxL := 3) (ret := (some .boolean)) (by decide) rfl ?_
  intro p e s m args below meth c s₁ B hml hv
  obtain ⟨rfl, hK, hP⟩ := hv
  have hx := B.exec
  have hb := B.bytes
  have hr := B.returns
  have hlocks := B.notSynchronized
  have hts := atoms_spec (ws := wsX6_isWithin) B.pre
  have hown : s.vm.findClass RX6 = some m.cls := findClass_of_methodNamed B.named
  have hl := lv_entry ([.int x, .int y, .int z]) (n := 3) (Nat.le_of_ble_eq_true rfl)
  rw [lg_entry_eq]
  generalize (lg_sl ([.int x, .int y, .int z]) ++ List.replicate (3 - (lg_sl ([.int x, .int y, .int z])).length) Slot.unset).toArray = ls at hl ⊢
  have hl : lv_has ls 3 [(0, .int x), (1, .int y), (2, .int z)] := hl
  refine lv_iload_n hx hb dX6_isWithin_0 rfl (lv_at hl 0 rfl) ?_
  refine lv_iload_n hx hb dX6_isWithin_1 rfl (lv_at hl 1 rfl) ?_
  refine lv_icmp_lt (tgt := 14) hx hb dX6_isWithin_2 (by decide) (fun c_1 => ?_) (fun c_1 => ?_)
  · refine lv_iconst (v := nI 0) hx hb dX6_isWithin_14 (by decide) ?_
    exact W.zret (v := nI 0) (ty := .boolean) hx hb hr (by rfl) (fun t ht hW => ⟨_, rfl, ((congrArg bI (by simp [inR, c_1] : inR x y z = false)).symm), ht⟩) (fun q hq => absurd hq List.not_mem_nil) dX6_isWithin_15
  · refine lv_iload_n hx hb dX6_isWithin_5 rfl (lv_at hl 0 rfl) ?_
    refine lv_iload_n hx hb dX6_isWithin_6 rfl (lv_at hl 2 rfl) ?_
    refine lv_icmp_gt (tgt := 14) hx hb dX6_isWithin_7 (by decide) (fun c_2 => ?_) (fun c_2 => ?_)
    · refine lv_iconst (v := nI 0) hx hb dX6_isWithin_14 (by decide) ?_
      exact W.zret (v := nI 0) (ty := .boolean) hx hb hr (by rfl) (fun t ht hW => ⟨_, rfl, ((congrArg bI (by simp [inR, c_1, c_2] : inR x y z = false)).symm), ht⟩) (fun q hq => absurd hq List.not_mem_nil) dX6_isWithin_15
    · refine lv_iconst (v := nI 1) hx hb dX6_isWithin_10 (by decide) ?_
      refine lv_goto (tgt := 15) hx hb dX6_isWithin_11 (by decide) ?_
      exact W.zret (v := nI 1) (ty := .boolean) hx hb hr (by rfl) (fun t ht hW => ⟨_, rfl, ((congrArg bI (by simp [inR, c_1, c_2] : inR x y z = true)).symm), ht⟩) (fun q hq => absurd hq List.not_mem_nil) dX6_isWithin_15
set_option maxHeartbeats 4000000 in
set_option maxRecDepth 100000 in
theorem metX6_cell (l : Launch) (G : GG) (k mo : Nat) : Met l yX6_cell wsX6_cell ({ frames := 0, cells := 0, slots := 0, locals := 0 }) (pR G ([]) [.int (nI k), .int (nI mo)]) (vp_Si (fun r => r = nI (k * 24 + mo))) 0 0 (fun _ => False) := by
  refine Met.ofW (cc := cX6_cell) (maxL := 2) (ret := (some .int)) (by decide) rfl ?_
  intro p e s m args below meth c s₁ B hml hv
  obtain ⟨rfl, hK, hP⟩ := hv
  have hx := B.exec
  have hb := B.bytes
  have hr := B.returns
  have hlocks := B.notSynchronized
  have hts := atoms_spec (ws := wsX6_cell) B.pre
  have hown : s.vm.findClass RX6 = some m.cls := findClass_of_methodNamed B.named
  have hl := lv_entry ([.int (nI k), .int (nI mo)]) (n := 2) (Nat.le_of_ble_eq_true rfl)
  rw [lg_entry_eq]
  generalize (lg_sl ([.int (nI k), .int (nI mo)]) ++ List.replicate (2 - (lg_sl ([.int (nI k), .int (nI mo)])).length) Slot.unset).toArray = ls at hl ⊢
  have hl : lv_has ls 2 [(0, .int (nI k)), (1, .int (nI mo))] := hl
  refine lv_iload_n hx hb dX6_cell_0 rfl (lv_at hl 0 rfl) ?_
  refine lv_bipush (v := nI 24) hx hb dX6_cell_1 (by decide) ?_
  refine n_mul hx hb dX6_cell_3 ?_
  refine lv_iload_n hx hb dX6_cell_4 rfl (lv_at hl 1 rfl) ?_
  refine n_add hx hb dX6_cell_5 ?_
  exact W.iret (v := nI ((k * 24) + mo)) hx hb hr (fun t ht hW => ⟨_, rfl, rfl, ht⟩) (fun q hq => absurd hq List.not_mem_nil) dX6_cell_6
end
section
def cBits (x : UInt32) : Int32 := if cNeg x then nI 2143289344 else x.toInt32
/-! a finite float by its significand and its exponent's field; halving and doubling -/
def fl (c j : Nat) : UInt32 := UInt32.ofNat (j * 8388608 + c)
def cn (c j : Nat) : Prop := c < 16777216 ∧ j ≤ 253 ∧ (j = 0 ∨ 8388608 ≤ c)
theorem fl_nat {c j : Nat} (h : cn c j) : (fl c j).toNat = j * 8388608 + c := by
  obtain ⟨h1, h2, -⟩ := h
  unfold fl
  rw [UInt32.toNat_ofNat_of_lt' (by simp only [UInt32.size]; omega)]
theorem cn_fits {c j : Nat} (h : cn c j) : FP.Core.fits FP.Core.b32 (.fin false c ((j : Int) - 149)) := by
  obtain ⟨h1, h2, h3⟩ := h
  refine ⟨?_, ?_, ?_, ?_⟩
  · show c < 2 ^ 24; omega
  · rw [FP.Core.qmin_b32]; omega
  · have : FP.Core.b32.qmax = 104 := by decide
    rw [this]; omega
  · rw [FP.Core.qmin_b32, FP.Core.tails_b32]
    rcases h3 with h3 | h3
    · exact Or.inl (by omega)
    · exact Or.inr (by omega)
theorem fl_of {c j : Nat} (h : cn c j) : FP.Core.of32 (.fin false c ((j : Int) - 149)) = fl c j := by
  have ht : FP.Core.b32.tails = 8388608 := by decide
  have hee : FP.Core.b32.exps = 256 := by decide
  unfold FP.Core.of32 fl
  congr 1
  obtain ⟨h1, h2, h3⟩ := h
  unfold FP.Core.encode FP.Core.assemble
  simp only [ht, hee, FP.Core.qmin_b32]
  split
  · rename_i hc
    simp only [Bool.toNat_false]
    omega
  · rename_i hc
    simp only [Bool.toNat_false]
    rw [show ((j : Int) - 149 - -149).toNat = j by omega]
    omega
theorem fl_val {c j : Nat} (h : cn c j) : FP.Core.val32 (fl c j) = .fin false c ((j : Int) - 149) := by
  rw [← fl_of h]
  exact FP.Core.val32_of32 (cn_fits h)
theorem fl_ex {x : UInt32} (h : x.toNat < 2139095040) : ∃ c j, cn c j ∧ x = fl c j := by
  by_cases h1 : x.toNat < 16777216
  · have hc : cn x.toNat 0 := ⟨h1, by omega, Or.inl rfl⟩
    refine ⟨x.toNat, 0, hc, ?_⟩
    rw [← UInt32.toNat_inj, fl_nat hc]; omega
  · have hc : cn (x.toNat % 8388608 + 8388608) (x.toNat / 8388608 - 1) := ⟨by omega, by omega, Or.inr (by omega)⟩
    refine ⟨_, _, hc, ?_⟩
    rw [← UInt32.toNat_inj, fl_nat hc]; omega
theorem fl_pos {c j : Nat} (h : cn c j) : posF (fl c j) := by
  unfold posF
  rw [fl_nat h]
  obtain ⟨h1, h2, -⟩ := h
  omega
theorem v32_2 : FP.Core.val32 FP.fconst2 = .fin false 8388608 (-22) := by decide +kernel
theorem v32_8 : FP.Core.val32 1258291200 = .fin false 8388608 0 := by decide +kernel
theorem fl_eq {x : UInt32} {c j : Nat} (h : cn c j) (hv : FP.Core.val32 x = .fin false c ((j : Int) - 149)) : x = fl c j := by
  refine FP.Core.val32_inj (by rw [hv]; exact FP.Core.Datum.noConfusion) (hv.trans (fl_val h).symm)
theorem fl_half {c j : Nat} (h : cn c j) (hj : 1 ≤ j) : FP.fdiv (fl c j) FP.fconst2 = fl c (j - 1) := by
  have h2 : cn c (j - 1) := by obtain ⟨a1, a2, a3⟩ := h; exact ⟨a1, by omega, Or.inr (by omega)⟩
  refine fl_eq h2 ?_
  show FP.Core.val32 (FP.Core.fdiv (fl c j) FP.fconst2) = _
  rw [FP.Core.val32_fdiv, fl_val h, v32_2]
  have e : FP.Core.quotient FP.Core.b32 (.fin false c ((j : Int) - 149)) (.fin false 8388608 (-22)) = FP.Core.roundRatio FP.Core.b32 false c 8388608 ((j : Int) - 149 - -22) := by simp [FP.Core.quotient]
  rw [e]
  refine FP.Core.roundRatio_exact FP.Core.good_b32 (by decide) (cn_fits h2) ?_
  rw [show ((j : Int) - 149 - -22 - (((j - 1 : Nat) : Int) - 149)).toNat = 23 by omega, show ((((j - 1 : Nat) : Int) - 149) - ((j : Int) - 149 - -22)).toNat = 0 by omega]
  omega
theorem fl_mulX {c j d k : Nat} {q : Int} {y : UInt32} (h : cn c j) (hy : FP.Core.val32 y = .fin false 8388608 q) (h2 : cn d k) (he : c * 8388608 * 2 ^ ((j : Int) - 149 + q - ((k : Int) - 149)).toNat = d * 1 * 2 ^ ((k : Int) - 149 - ((j : Int) - 149 + q)).toNat) : FP.fmul (fl c j) y = fl d k := by
  refine fl_eq h2 ?_
  show FP.Core.val32 (FP.Core.fmul (fl c j) y) = _
  rw [FP.Core.val32_fmul, fl_val h, hy]
  show FP.Core.roundRatio FP.Core.b32 (false != false) (c * 8388608) 1 ((j : Int) - 149 + q) = _
  exact FP.Core.roundRatio_exact FP.Core.good_b32 (by decide) (cn_fits h2) he
def dblC (c : Nat) : Nat := if c < 8388608 then 2 * c else c
def dblJ (c j : Nat) : Nat := if c < 8388608 then 0 else j + 1
theorem dbl_cn {c j : Nat} (h : cn c j) (hj : j < 253) : cn (dblC c) (dblJ c j) := by
  obtain ⟨h1, h2, h3⟩ := h
  unfold cn dblC dblJ
  split <;> omega
theorem fl_dbl {c j : Nat} (h : cn c j) (hj : j < 253) : FP.fmul (fl c j) FP.fconst2 = fl (dblC c) (dblJ c j) := by
  refine fl_mulX h v32_2 (dbl_cn h hj) ?_
  obtain ⟨h1, h2, h3⟩ := h
  unfold dblC dblJ
  split
  · have : j = 0 := by omega
    subst this
    rw [show (((0 : Nat) : Int) - 149 + -22 - (((0 : Nat) : Int) - 149)).toNat = 0 by omega, show ((((0 : Nat) : Int) - 149) - (((0 : Nat) : Int) - 149 + -22)).toNat = 22 by omega]
    omega
  · rw [show ((j : Int) - 149 + -22 - (((j + 1 : Nat) : Int) - 149)).toNat = 0 by omega, show ((((j + 1 : Nat) : Int) - 149) - ((j : Int) - 149 + -22)).toNat = 23 by omega]
    omega
theorem fl_up {c j : Nat} (h : cn c j) (hj : j ≤ 230) (hc : 8388608 ≤ c) : FP.fmul (fl c j) 1258291200 = fl c (j + 23) := by
  refine fl_mulX h v32_8 (by obtain ⟨a1, a2, a3⟩ := h; exact ⟨a1, by omega, Or.inr hc⟩) ?_
  rw [show ((j : Int) - 149 + 0 - (((j + 23 : Nat) : Int) - 149)).toNat = 0 by omega, show ((((j + 23 : Nat) : Int) - 149) - ((j : Int) - 149 + 0)).toNat = 23 by omega]
  omega
theorem fl_up0 : FP.fmul (fl 0 0) 1258291200 = fl 0 0 := by decide +kernel
theorem fl_f2i {c j v : Nat} (h : cn c j) (hj : j ≤ 149) (hv : c = v * 2 ^ (149 - j)) : FP.f2i (fl c j) = nI v := by
  have hvv : v ≤ c := by rw [hv]; exact Nat.le_mul_of_pos_right _ (Nat.two_pow_pos _)
  have h1 := h.1
  show FP.Core.toI (FP.Core.val32 (fl c j)) = _
  rw [fl_val h]
  show Int32.ofInt (max (-2 ^ 31) (min (2 ^ 31 - 1) (FP.Core.signed false (c * 2 ^ ((j : Int) - 149).toNat / 2 ^ (-((j : Int) - 149)).toNat)))) = _
  rw [show ((j : Int) - 149).toNat = 0 by omega, show (-((j : Int) - 149)).toNat = 149 - j by omega, hv, Nat.pow_zero, Nat.mul_one, Nat.mul_div_cancel _ (Nat.two_pow_pos _)]
  show Int32.ofInt (max (-2 ^ 31) (min (2 ^ 31 - 1) (v : Int))) = _
  rw [show max (-2 ^ 31 : Int) (min (2 ^ 31 - 1) (v : Int)) = (v : Int) by omega]
  rfl
/-- what the second loop keeps -/
def bL (c j i : Nat) (u : Nat × Nat) : Prop := cn u.1 u.2 ∧ ((8388608 ≤ c ∧ u.1 = c ∧ u.2 = j + i) ∨ (c < 8388608 ∧ j = 0 ∧ u.1 * 2 ^ u.2 = c * 2 ^ i))
theorem bL_lt {c j i : Nat} {u : Nat × Nat} (h : bL c j i u) (hc : cn c j) (hi : i < 126) (hj : j ≤ 126) : u.2 < 253 := by
  obtain ⟨⟨a1, a2, a3⟩, h⟩ := h
  rcases h with ⟨b1, b2, b3⟩ | ⟨b1, b2, b3⟩
  · omega
  · by_cases hu : u.2 = 0
    · omega
    · have h4 : 8388608 ≤ u.1 := by omega
      by_cases h5 : u.2 < 253
      · exact h5
      · exfalso
        have h6 : 8388608 * 2 ^ 253 ≤ u.1 * 2 ^ u.2 := Nat.mul_le_mul h4 (Nat.pow_le_pow_right (by decide) (by omega))
        have h7 : c * 2 ^ i ≤ 8388608 * 2 ^ 126 := Nat.mul_le_mul (by omega) (Nat.pow_le_pow_right (by decide) (by omega))
        rw [b3] at h6
        exact absurd (Nat.le_trans h6 h7) (by decide)
theorem bL_step {c j i : Nat} {u : Nat × Nat} (h : bL c j i u) (hc : cn c j) (hi : i < 126) (hj : j ≤ 126) : bL c j (i + 1) (dblC u.1, dblJ u.1 u.2) := by
  have h0 := bL_lt h hc hi hj
  refine ⟨dbl_cn h.1 h0, ?_⟩
  obtain ⟨⟨a1, a2, a3⟩, h⟩ := h
  rcases h with ⟨b1, b2, b3⟩ | ⟨b1, b2, b3⟩
  · refine Or.inl ⟨b1, ?_, ?_⟩
    · show dblC u.1 = c
      unfold dblC; rw [if_neg (by omega)]; exact b2
    · show dblJ u.1 u.2 = _
      unfold dblJ; rw [if_neg (by omega)]; omega
  · refine Or.inr ⟨b1, b2, ?_⟩
    show dblC u.1 * 2 ^ dblJ u.1 u.2 = _
    rw [Nat.pow_succ, ← Nat.mul_assoc, ← b3]
    unfold dblC dblJ
    split
    · have : u.2 = 0 := by omega
      rw [this]; omega
    · rw [Nat.pow_succ, ← Nat.mul_assoc]
theorem key_lt {a b : UInt32} (ha : posF a) (hb : posF b) : FP.fcmp a b = some .lt ↔ a.toNat < b.toNat := by
  show FP.Core.fcmp a b = some .lt ↔ _
  rw [FP.Core.fcmp_lt_key (posF_ne ha) (posF_ne hb), fkey_pos ha, fkey_pos hb]
  omega
theorem key_none {a b : UInt32} (ha : posF a) (hb : posF b) : FP.fcmp a b ≠ none := by
  intro h
  have := (FP.Core.fcmp_none a b).mp h
  rcases this with h1 | h1
  · exact posF_ne ha h1
  · exact posF_ne hb h1
def eN (i : Nat) : Int32 := -(nI i)
theorem eN_0 : nI 0 = eN 0 := by decide
theorem eN_s (i : Nat) : eN i + (-1) = eN (i + 1) := by
  unfold eN
  rw [nI_succ, Int32.neg_add, Int32.sub_eq_add_neg]
theorem eN_126 : eN 126 ≤ (-126) := by decide
theorem eN_int {i : Nat} (h : i ≤ 126) : (eN i).toInt = -(i : Int) := by
  unfold eN
  rw [Int32.toInt_neg, nI_toInt (by omega)]
  rw [Int.bmod_eq_of_le] <;> omega
theorem eN_nle {i : Nat} (h : i < 126) : ¬ eN i ≤ (-126) := by
  rw [Int32.le_iff_toInt_le, eN_int (by omega)]
  have : (-126 : Int32).toInt = -126 := by decide
  rw [this]; omega
theorem sh23 (a : Nat) : (nI a) <<< (nI 23 &&& 31) = nI (a * 8388608) := by
  have : (nI 23 &&& 31) = 23 := by decide
  rw [this]
  apply Int32.toBitVec_inj.mp
  rw [Int32.toBitVec_shiftLeft]
  show (BitVec.ofNat 32 a) <<< ((23 : Int32).toBitVec.smod 32) = BitVec.ofNat 32 (a * 8388608)
  have h2 : ((23 : Int32).toBitVec.smod 32) = 23#32 := by decide
  rw [h2]
  apply BitVec.eq_of_toNat_eq
  simp [BitVec.toNat_shiftLeft, Nat.shiftLeft_eq]
theorem eN_sub {i : Nat} (h : i ≤ 126) : eN i - (-126) = nI (126 - i) := by
  have h1 : eN i - (-126) = nI 126 - nI i := by
    unfold eN
    rw [show nI 126 = 126 by decide, Int32.sub_eq_add_neg, Int32.sub_eq_add_neg, Int32.add_comm]
    rfl
  rw [h1, pk_sub h]
theorem nI_sub126 (k : Nat) : nI k - (-126) = nI (k + 126) := by
  rw [← nI_add, Int32.sub_eq_add_neg, Int32.neg_neg, show nI 126 = 126 by decide]
theorem nI_toNat32 (x : UInt32) : nI x.toNat = x.toInt32 := by
  apply Int32.toBitVec_inj.mp
  show BitVec.ofNat 32 x.toBitVec.toNat = x.toBitVec
  simp
theorem cBits_fl {c j : Nat} (h : cn c j) : cBits (fl c j) = nI (j * 8388608 + c) := by
  unfold cBits
  rw [if_neg (by rw [cNeg_pos (fl_pos h)]; decide), ← nI_toNat32, fl_nat h]
theorem end1 {c j k : Nat} (h : cn c j) (hj : 126 ≤ j) (hk : k + 126 = j) : (nI k - (-126)) <<< (nI 23 &&& 31) + FP.f2i (FP.fmul (fl c (j - k)) 1258291200) = cBits (fl c j) := by
  have h1 := h.1
  have h2 := h.2.2
  have hc : 8388608 ≤ c := by omega
  rw [show j - k = 126 by omega, nI_sub126, sh23, fl_up ⟨h1, by omega, Or.inr hc⟩ (by omega) hc, fl_f2i (v := c) ⟨h1, by omega, Or.inr hc⟩ (by omega) (by simp), nI_add, cBits_fl h, hk]
theorem end2 {c j i : Nat} {u : Nat × Nat} (hc : cn c j) (hj : j ≤ 126) (hi : i ≤ 126) (h : bL c j i u) (hu : u.2 ≤ 126) (hx : i = 126 ∨ 127 * 8388608 ≤ (fl u.1 u.2).toNat) : (eN i - (-126)) <<< (nI 23 &&& 31) + FP.f2i (FP.fmul (fl u.1 u.2) 1258291200) = cBits (fl c j) := by
  obtain ⟨h0, h⟩ := h
  rw [fl_nat h0] at hx
  rw [eN_sub hi, sh23, cBits_fl hc]
  obtain ⟨a1, a2, a3⟩ := h0
  rcases h with ⟨b1, b2, b3⟩ | ⟨b1, b2, b3⟩
  · have hc1 := hc.1
    have hu2 : u.2 = 126 := by omega
    rw [b2, hu2, fl_up ⟨hc1, by omega, Or.inr b1⟩ (by omega) b1, fl_f2i (v := c) ⟨hc1, by omega, Or.inr b1⟩ (by omega) (by simp), nI_add, show 126 - i = j by omega]
  · have hi2 : i = 126 := by
      rcases hx with hx | hx
      · exact hx
      · exfalso
        have e1 : u.2 = 126 := by omega
        have e2 : c * 2 ^ i ≤ c * 2 ^ 126 := Nat.mul_le_mul_left _ (Nat.pow_le_pow_right (by decide) hi)
        rw [← b3, e1] at e2
        have e3 := Nat.le_of_mul_le_mul_right e2 (by decide)
        omega
    subst hi2
    have e4 : u.1 = c * 2 ^ (126 - u.2) := by
      have : u.1 * 2 ^ u.2 = c * 2 ^ (126 - u.2) * 2 ^ u.2 := by
        rw [Nat.mul_assoc, ← Nat.pow_add, show 126 - u.2 + u.2 = 126 by omega]; exact b3
      exact Nat.eq_of_mul_eq_mul_right (Nat.two_pow_pos _) this
    by_cases hn : 8388608 ≤ u.1
    · rw [fl_up ⟨a1, by omega, Or.inr hn⟩ (by omega) hn, fl_f2i (v := c) ⟨a1, by omega, Or.inr hn⟩ (by omega) (by rw [show 149 - (u.2 + 23) = 126 - u.2 by omega]; exact e4), nI_add, b2]
    · have hu0 : u.2 = 0 := by omega
      rw [hu0] at e4
      have hc0 : c = 0 := by
        rcases Nat.eq_zero_or_pos c with h9 | h9
        · exact h9
        · exfalso
          have := Nat.mul_le_mul_right (2 ^ (126 - 0)) h9
          rw [← e4] at this
          exact absurd (Nat.le_trans this (Nat.le_of_lt (Nat.lt_of_not_le hn))) (by decide)
      have hu1 : u.1 = 0 := by rw [e4, hc0, Nat.zero_mul]
      rw [hu1, hu0, fl_up0, fl_f2i (c := 0) (j := 0) (v := 0) ⟨by omega, by omega, Or.inl rfl⟩ (by omega) (by simp), nI_add, b2, hc0]
theorem bL_u {c j i : Nat} {u : Nat × Nat} (h : bL c j i u) (hu : (fl u.1 u.2).toNat < 127 * 8388608) : dblJ u.1 u.2 ≤ 126 := by
  rw [fl_nat h.1] at hu
  have := h.1.2.2
  unfold dblJ
  split <;> omega
theorem bL_0 {c j : Nat} (h : cn c j) : bL c j 0 (c, j) := by
  refine ⟨h, ?_⟩
  by_cases hc : 8388608 ≤ c
  · exact Or.inl ⟨hc, rfl, rfl⟩
  · have := h.2.2
    have hj : j = 0 := by omega
    subst hj
    exact Or.inr ⟨by omega, rfl, rfl⟩
theorem tw2 : (FP.fconst2).toNat = 128 * 8388608 := rfl
theorem tw1 : (FP.fconst1).toNat = 127 * 8388608 := rfl
theorem posF_2 : posF FP.fconst2 := by unfold posF; decide
theorem posF_1 : posF FP.fconst1 := by unfold posF; decide
theorem posF_8 : posF 1258291200 := by unfold posF; decide
theorem hn_half {x : UInt32} (h : posF x) : vf_n32 (FP.fdiv x FP.fconst2) := by
  refine n32_of (posF_ne (posF_div h posF_2 ?_ ?_))
  · have : cZer FP.fconst2 = false := by decide +kernel
    rw [this]; simp
  · have : cInf FP.fconst2 = false := by decide +kernel
    rw [this]; simp
theorem hn_dbl {x y : UInt32} (h : posF x) (hy : posF y) (h1 : cZer y = false) (h2 : cInf y = false) : vf_n32 (FP.fmul x y) := by
  refine n32_of (posF_ne (posF_mul h hy ?_ ?_))
  · rw [h2]; simp
  · rw [h1]; simp
theorem cn_sub {c j i : Nat} (h : cn c j) (hi : i + 126 ≤ j ∨ i = 0) : cn c (j - i) := by
  obtain ⟨h1, h2, h3⟩ := h
  unfold cn
  omega
theorem key_ge {a b : UInt32} (ha : posF a) (hb : posF b) (h : FP.fcmp a b = some .gt ∨ FP.fcmp a b = some .eq) : b.toNat ≤ a.toNat := by
  apply Nat.le_of_not_lt
  intro h1
  rw [(key_lt ha hb).mpr h1] at h
  rcases h with h | h <;> cases h
theorem key_nlt {a b : UInt32} (ha : posF a) (hb : posF b) (h : FP.fcmp a b ≠ some .lt) : b.toNat ≤ a.toNat := by
  apply Nat.le_of_not_lt
  intro h1
  exact h ((key_lt ha hb).mpr h1)
theorem key_lt2 {a b : UInt32} (ha : posF a) (hb : posF b) (h : FP.fcmp a b = some .lt ∨ FP.fcmp a b = none) : a.toNat < b.toNat := by
  rcases h with h | h
  · exact (key_lt ha hb).mp h
  · exact absurd h (key_none ha hb)
theorem nI_n126 {k : Nat} (h : k < 2 ^ 31) : ¬ nI k ≤ (-126) := by
  rw [Int32.le_iff_toInt_le, nI_toInt h]
  have : (-126 : Int32).toInt = -126 := by decide
  rw [this]; omega
theorem cBits_inf {x : UInt32} (ox : okF x) (h1 : cNeg x = false) (h2 : cInf x = true) : nI 2139095040 = cBits x := by
  have h3 := (cInf_pos (ok_pos ox h1)).mp h2
  unfold cBits
  rw [h1, ← nI_toNat32, h3]
  rfl
theorem fin_of {x : UInt32} (ox : okF x) (h1 : cNeg x = false) (h2 : cInf x = false) : x.toNat < 2139095040 := by
  have h3 := ok_pos ox h1
  have h4 : x.toNat ≠ 2139095040 := fun h => by rw [(cInf_pos h3).mpr h] at h2; cases h2
  unfold posF at h3
  omega
end
section
set_option maxHeartbeats 4000000 in
set_option maxRecDepth 100000 in
theorem metX5_bits (l : Launch) (G : GG) (x : UInt32) (ox : okF x) : Met l yX5_bits wsX5_bits ({ frames := 1, cells := 0, slots := 0, locals := 30 }) (pR G ([]) [.float x]) (vp_Si (fun r => r = cBits x)) 0 0 (fun _ => False) := by
  refine Met.ofW (cc := cX5_bits) (maxL := 3) (ret := (some .int)) (by decide) rfl ?_
  intro p e s m args below meth c s₁ B hml hv
  obtain ⟨rfl, hK, hP⟩ := hv
  have hx := B.exec
  have hb := B.bytes
  have hr := B.returns
  have hlocks := B.notSynchronized
  have hts := atoms_spec (ws := wsX5_bits) B.pre
  have hown : s.vm.findClass RX5 = some m.cls := findClass_of_methodNamed B.named
  have hl := lv_entry ([.float x]) (n := 3) (Nat.le_of_ble_eq_true rfl)
  rw [lg_entry_eq]
  generalize (lg_sl ([.float x]) ++ List.replicate (3 - (lg_sl ([.float x])).length) Slot.unset).toArray = ls at hl ⊢
  have hl : lv_has ls 3 [(0, .float x)] := hl
  refine lv_fload_n hx hb dX5_bits_0 rfl (lv_at hl 0 rfl) ?_
  refine cr_i (va_runS (As := [.float x]) (rest := []) ⟨hx, hb, hml, hown, hts⟩ (metX5_isNan l G x) (va_cwS 1 hts gX5_bits_X5_isNan rfl rfl rfl (by decide +kernel) ⟨Nat.le_of_ble_eq_true rfl, Nat.le_of_ble_eq_true rfl⟩) (pR_S hK (va_P_nil _ _ _)) rfl rfl hl.1 rfl (lv_room (Nat.le_of_ble_eq_true rfl)) dX5_bits_1 ⟨Nat.zero_le _, Nat.zero_le _⟩) (fun r_1 hr_2 => ?_)
  subst hr_2
  refine nb_if_eq (B := cNeg x) (tgt := 10) hx hb dX5_bits_4 (by decide) (fun c_3 => ?_) (fun c_3 => ?_)
  · refine lv_fload_n hx hb dX5_bits_10 rfl (lv_at hl 0 rfl) ?_
    refine cr_i (va_runS (As := [.float x]) (rest := []) ⟨hx, hb, hml, hown, hts⟩ (metX5_isInfinite l G x) (va_cwS 1 hts gX5_bits_X5_isInfinite rfl rfl rfl (by decide +kernel) ⟨Nat.le_of_ble_eq_true rfl, Nat.le_of_ble_eq_true rfl⟩) (pR_S hK (va_P_nil _ _ _)) rfl rfl hl.1 rfl (lv_room (Nat.le_of_ble_eq_true rfl)) dX5_bits_11 ⟨Nat.zero_le _, Nat.zero_le _⟩) (fun r_4 hr_5 => ?_)
    subst hr_5
    refine nb_if_eq (B := cInf x) (tgt := 20) hx hb dX5_bits_14 (by decide) (fun c_6 => ?_) (fun c_6 => ?_)
    · obtain ⟨c9, j9, hcn, rfl⟩ := fl_ex (fin_of ox c_3 c_6)
      have hl : lv_has ls 3 [(0, .float (fl c9 j9))] := hl
      refine lv_fload_n hx hb dX5_bits_20 rfl (lv_at hl 0 rfl) ?_
      refine lv_fstore_n (lv' := [(1, .float (fl c9 j9)), (0, .float (fl c9 j9))]) hx hb dX5_bits_21 rfl hl (by decide) rfl (fun ls hl => ?_)
      refine lv_iconst (v := nI 0) hx hb dX5_bits_22 (by decide) ?_
      refine lv_istore_n (lv' := [(2, .int (nI 0)), (1, .float (fl c9 j9)), (0, .float (fl c9 j9))]) hx hb dX5_bits_23 rfl hl (by decide) rfl (fun ls hl => ?_)
      refine lpR (S := Unit) (127) (fun i u => i + 126 ≤ j9 ∨ i = 0) (fun i u => [(0, .float (fl c9 j9)), (1, .float (fl c9 (j9 - i))), (2, .int (nI i))]) (fun u ls hI_8 hl => ?_) (fun i u ls hi_9 hI_8 hl ih_7 => ?_) (0) () (by omega) (Or.inr rfl) (lv_sub hl [2, 1, 0] rfl)
      · have hl : lv_has ls 3 [(0, .float (fl c9 j9)), (1, .float (fl c9 (j9 - 127))), (2, .int (nI 127))] := hl
        have hcj := cn_sub hcn hI_8
        have hpj := fl_pos hcj
        have hnj := fl_nat hcj
        have h253 := hcn.2.1
        have hc24 := hcn.1
        have hc23 := hcn.2.2
        refine lv_iload_n hx hb dX5_bits_24 rfl (lv_at hl 2 rfl) ?_
        refine lv_bipush (v := nI 127) hx hb dX5_bits_25 (by decide) ?_
        refine n_icmp_ge (x := 127) (y := 127) (tgt := 46) hx hb (by omega) (by omega) dX5_bits_27 (by decide) (fun c_10 => ?_) (fun c_10 => ?_)
        · refine lv_iload_n hx hb dX5_bits_46 rfl (lv_at hl 2 rfl) ?_
          refine lv_bipush (v := (-126)) hx hb dX5_bits_47 (by decide) ?_
          refine lv_icmp_le (tgt := 68) hx hb dX5_bits_49 (by decide) (fun c_11 => ?_) (fun c_11 => ?_)
          · exact absurd c_11 (nI_n126 (by omega))
          · refine lv_fload_n hx hb dX5_bits_52 rfl (lv_at hl 1 rfl) ?_
            refine lv_fconst1 hx hb dX5_bits_53 ?_
            refine lv_fcmp hx hb dX5_bits_54 ?_
            refine nf_g_ge (tgt := 68) hx hb dX5_bits_55 (by decide) (fun c_12 => ?_) (fun c_12 => ?_)
            · refine lv_iload_n hx hb dX5_bits_68 rfl (lv_at hl 2 rfl) ?_
              refine lv_bipush (v := (-126)) hx hb dX5_bits_69 (by decide) ?_
              refine lv_isub hx hb dX5_bits_71 ?_
              refine lv_bipush (v := nI 23) hx hb dX5_bits_72 (by decide) ?_
              refine lv_ishl hx hb dX5_bits_74 ?_
              refine lv_fload_n hx hb dX5_bits_75 rfl (lv_at hl 1 rfl) ?_
              refine lv_ldcf hx hb hown (hts (.constantFloat RX5 26 (1258291200)) (by decide +kernel)) dX5_bits_76 ?_
              refine lv_fmul hx hb dX5_bits_78 (hn_dbl hpj posF_8 (by decide +kernel) (by decide +kernel)) ?_
              refine lv_f2i hx hb dX5_bits_79 ?_
              refine lv_iadd hx hb dX5_bits_80 ?_
              exact W.iret (v := (((nI 127) - (-126)) <<< ((nI 23) &&& 31)) + (FP.f2i (FP.fmul (fl c9 (j9 - 127)) (1258291200 : UInt32)))) hx hb hr (fun t ht hW => ⟨_, rfl, (end1 hcn (by omega) (by omega)), ht⟩) (fun q hq => absurd hq List.not_mem_nil) dX5_bits_81
            · exact absurd ((key_lt hpj posF_1).mp c_12) (by rw [tw1, hnj]; omega)
        · exact absurd c_10 (by omega)
      · have hl : lv_has ls 3 [(0, .float (fl c9 j9)), (1, .float (fl c9 (j9 - i))), (2, .int (nI i))] := hl
        have hcj := cn_sub hcn hI_8
        have hpj := fl_pos hcj
        have hnj := fl_nat hcj
        have h253 := hcn.2.1
        have hc24 := hcn.1
        have hc23 := hcn.2.2
        refine lv_iload_n hx hb dX5_bits_24 rfl (lv_at hl 2 rfl) ?_
        refine lv_bipush (v := nI 127) hx hb dX5_bits_25 (by decide) ?_
        refine n_icmp_ge (x := i) (y := 127) (tgt := 46) hx hb (by omega) (by omega) dX5_bits_27 (by decide) (fun c_13 => ?_) (fun c_13 => ?_)
        · exact absurd c_13 (by omega)
        · refine lv_fload_n hx hb dX5_bits_30 rfl (lv_at hl 1 rfl) ?_
          refine lv_fconst2 hx hb dX5_bits_31 ?_
          refine lv_fcmp hx hb dX5_bits_32 ?_
          refine nf_l_lt (tgt := 46) hx hb dX5_bits_33 (by decide) (fun c_14 => ?_) (fun c_14 => ?_)
          · have hlt := key_lt2 hpj posF_2 c_14
            rw [tw2, hnj] at hlt
            by_cases hk0 : i = 0
            · subst hk0
              have hl : lv_has ls 3 [(2, .int (eN 0)), (1, .float (fl c9 j9)), (0, .float (fl c9 j9))] := by rw [← eN_0]; exact lv_sub hl [2, 1, 0] rfl
              refine lpR (S := Nat × Nat) (126) (fun i2 u => bL c9 j9 i2 (u.1, u.2) ∧ u.2 ≤ 126) (fun i2 u => [(0, .float (fl c9 j9)), (1, .float (fl u.1 u.2)), (2, .int (eN i2))]) (fun u ls hI_16 hl => ?_) (fun i2 u ls hi_17 hI_16 hl ih_15 => ?_) (0) (c9, j9) (by omega) (⟨bL_0 hcn, by omega⟩) (lv_sub hl [2, 1, 0] rfl)
              · obtain ⟨c8, j8⟩ := u
                have hl : lv_has ls 3 [(0, .float (fl c9 j9)), (1, .float (fl c8 j8)), (2, .int (eN 126))] := hl
                have hp8 := fl_pos hI_16.1.1
                refine lv_iload_n hx hb dX5_bits_46 rfl (lv_at hl 2 rfl) ?_
                refine lv_bipush (v := (-126)) hx hb dX5_bits_47 (by decide) ?_
                refine lv_icmp_le (tgt := 68) hx hb dX5_bits_49 (by decide) (fun c_18 => ?_) (fun c_18 => ?_)
                · refine lv_iload_n hx hb dX5_bits_68 rfl (lv_at hl 2 rfl) ?_
                  refine lv_bipush (v := (-126)) hx hb dX5_bits_69 (by decide) ?_
                  refine lv_isub hx hb dX5_bits_71 ?_
                  refine lv_bipush (v := nI 23) hx hb dX5_bits_72 (by decide) ?_
                  refine lv_ishl hx hb dX5_bits_74 ?_
                  refine lv_fload_n hx hb dX5_bits_75 rfl (lv_at hl 1 rfl) ?_
                  refine lv_ldcf hx hb hown (hts (.constantFloat RX5 26 (1258291200)) (by decide +kernel)) dX5_bits_76 ?_
                  refine lv_fmul hx hb dX5_bits_78 (hn_dbl hp8 posF_8 (by decide +kernel) (by decide +kernel)) ?_
                  refine lv_f2i hx hb dX5_bits_79 ?_
                  refine lv_iadd hx hb dX5_bits_80 ?_
                  exact W.iret (v := (((eN 126) - (-126)) <<< ((nI 23) &&& 31)) + (FP.f2i (FP.fmul (fl c8 j8) (1258291200 : UInt32)))) hx hb hr (fun t ht hW => ⟨_, rfl, (end2 (u := (c8, j8)) (i := 126) hcn (by omega) (by omega) hI_16.1 hI_16.2 (Or.inl rfl)), ht⟩) (fun q hq => absurd hq List.not_mem_nil) dX5_bits_81
                · exact absurd eN_126 c_18
              · obtain ⟨c8, j8⟩ := u
                have hl : lv_has ls 3 [(0, .float (fl c9 j9)), (1, .float (fl c8 j8)), (2, .int (eN i2))] := hl
                have hp8 := fl_pos hI_16.1.1
                refine lv_iload_n hx hb dX5_bits_46 rfl (lv_at hl 2 rfl) ?_
                refine lv_bipush (v := (-126)) hx hb dX5_bits_47 (by decide) ?_
                refine lv_icmp_le (tgt := 68) hx hb dX5_bits_49 (by decide) (fun c_19 => ?_) (fun c_19 => ?_)
                · exact absurd c_19 (eN_nle (by omega))
                · refine lv_fload_n hx hb dX5_bits_52 rfl (lv_at hl 1 rfl) ?_
                  refine lv_fconst1 hx hb dX5_bits_53 ?_
                  refine lv_fcmp hx hb dX5_bits_54 ?_
                  refine nf_g_ge (tgt := 68) hx hb dX5_bits_55 (by decide) (fun c_20 => ?_) (fun c_20 => ?_)
                  · refine lv_iload_n hx hb dX5_bits_68 rfl (lv_at hl 2 rfl) ?_
                    refine lv_bipush (v := (-126)) hx hb dX5_bits_69 (by decide) ?_
                    refine lv_isub hx hb dX5_bits_71 ?_
                    refine lv_bipush (v := nI 23) hx hb dX5_bits_72 (by decide) ?_
                    refine lv_ishl hx hb dX5_bits_74 ?_
                    refine lv_fload_n hx hb dX5_bits_75 rfl (lv_at hl 1 rfl) ?_
                    refine lv_ldcf hx hb hown (hts (.constantFloat RX5 26 (1258291200)) (by decide +kernel)) dX5_bits_76 ?_
                    refine lv_fmul hx hb dX5_bits_78 (hn_dbl hp8 posF_8 (by decide +kernel) (by decide +kernel)) ?_
                    refine lv_f2i hx hb dX5_bits_79 ?_
                    refine lv_iadd hx hb dX5_bits_80 ?_
                    exact W.iret (v := (((eN i2) - (-126)) <<< ((nI 23) &&& 31)) + (FP.f2i (FP.fmul (fl c8 j8) (1258291200 : UInt32)))) hx hb hr (fun t ht hW => ⟨_, rfl, (end2 (u := (c8, j8)) (i := i2) hcn (by omega) (by omega) hI_16.1 hI_16.2 (Or.inr (by have h9 := key_nlt hp8 posF_1 c_20; rw [tw1] at h9; exact h9))), ht⟩) (fun q hq => absurd hq List.not_mem_nil) dX5_bits_81
                  · have hlt8 := (key_lt hp8 posF_1).mp c_20
                    rw [tw1] at hlt8
                    refine lv_fload_n hx hb dX5_bits_58 rfl (lv_at hl 1 rfl) ?_
                    refine lv_fconst2 hx hb dX5_bits_59 ?_
                    refine lv_fmul hx hb dX5_bits_60 (hn_dbl hp8 posF_2 (by decide +kernel) (by decide +kernel)) ?_
                    refine eq_f (y := fl (dblC c8) (dblJ c8 j8)) (fl_dbl hI_16.1.1 (by omega)) ?_
                    refine lv_fstore_n (lv' := [(1, .float (fl (dblC c8) (dblJ c8 j8))), (0, .float (fl c9 j9)), (2, .int (eN i2))]) hx hb dX5_bits_61 rfl hl (by decide) rfl (fun ls hl => ?_)
                    refine lv_iinc (v := eN (i2 + 1)) (lv' := [(2, .int (eN (i2 + 1))), (1, .float (fl (dblC c8) (dblJ c8 j8))), (0, .float (fl c9 j9))]) hx hb dX5_bits_62 hl (k := 2) rfl (eN_s _) (by decide) rfl (fun ls hl => ?_)
                    refine lv_goto (tgt := 46) hx hb dX5_bits_65 (by decide) ?_
                    exact ih_15 (dblC c8, dblJ c8 j8) _ (⟨bL_step hI_16.1 hcn (by omega) (by omega), bL_u hI_16.1 hlt8⟩) (lv_sub hl [2, 1, 0] rfl)
            · refine lv_iload_n hx hb dX5_bits_46 rfl (lv_at hl 2 rfl) ?_
              refine lv_bipush (v := (-126)) hx hb dX5_bits_47 (by decide) ?_
              refine lv_icmp_le (tgt := 68) hx hb dX5_bits_49 (by decide) (fun c_21 => ?_) (fun c_21 => ?_)
              · exact absurd c_21 (nI_n126 (by omega))
              · refine lv_fload_n hx hb dX5_bits_52 rfl (lv_at hl 1 rfl) ?_
                refine lv_fconst1 hx hb dX5_bits_53 ?_
                refine lv_fcmp hx hb dX5_bits_54 ?_
                refine nf_g_ge (tgt := 68) hx hb dX5_bits_55 (by decide) (fun c_22 => ?_) (fun c_22 => ?_)
                · refine lv_iload_n hx hb dX5_bits_68 rfl (lv_at hl 2 rfl) ?_
                  refine lv_bipush (v := (-126)) hx hb dX5_bits_69 (by decide) ?_
                  refine lv_isub hx hb dX5_bits_71 ?_
                  refine lv_bipush (v := nI 23) hx hb dX5_bits_72 (by decide) ?_
                  refine lv_ishl hx hb dX5_bits_74 ?_
                  refine lv_fload_n hx hb dX5_bits_75 rfl (lv_at hl 1 rfl) ?_
                  refine lv_ldcf hx hb hown (hts (.constantFloat RX5 26 (1258291200)) (by decide +kernel)) dX5_bits_76 ?_
                  refine lv_fmul hx hb dX5_bits_78 (hn_dbl hpj posF_8 (by decide +kernel) (by decide +kernel)) ?_
                  refine lv_f2i hx hb dX5_bits_79 ?_
                  refine lv_iadd hx hb dX5_bits_80 ?_
                  exact W.iret (v := (((nI i) - (-126)) <<< ((nI 23) &&& 31)) + (FP.f2i (FP.fmul (fl c9 (j9 - i)) (1258291200 : UInt32)))) hx hb hr (fun t ht hW => ⟨_, rfl, (end1 hcn (by omega) (by omega)), ht⟩) (fun q hq => absurd hq List.not_mem_nil) dX5_bits_81
                · exact absurd ((key_lt hpj posF_1).mp c_22) (by rw [tw1, hnj]; omega)
          · have hge := key_ge hpj posF_2 c_14
            rw [tw2, hnj] at hge
            refine lv_fload_n hx hb dX5_bits_36 rfl (lv_at hl 1 rfl) ?_
            refine lv_fconst2 hx hb dX5_bits_37 ?_
            refine lv_fdiv hx hb dX5_bits_38 (hn_half hpj) ?_
            refine eq_f (y := fl c9 (j9 - (i + 1))) ((fl_half hcj (by omega)).trans (by rw [Nat.sub_sub])) ?_
            refine lv_fstore_n (lv' := [(1, .float (fl c9 (j9 - (i + 1)))), (0, .float (fl c9 j9)), (2, .int (nI i))]) hx hb dX5_bits_39 rfl hl (by decide) rfl (fun ls hl => ?_)
            refine lv_iinc (v := nI (i + 1)) (lv' := [(2, .int (nI (i + 1))), (1, .float (fl c9 (j9 - (i + 1)))), (0, .float (fl c9 j9))]) hx hb dX5_bits_40 hl (k := 2) rfl (by exact nI_add _ _) (by decide) rfl (fun ls hl => ?_)
            refine lv_goto (tgt := 24) hx hb dX5_bits_43 (by decide) ?_
            exact ih_7 () _ (Or.inl (by omega)) (lv_sub hl [2, 1, 0] rfl)
    · refine lv_ldc (v := nI 2139095040) hx hb hown (hts (.constant RX5 25 (2139095040)) (by decide +kernel)) dX5_bits_17 ?_
      exact W.iret (v := nI 2139095040) hx hb hr (fun t ht hW => ⟨_, rfl, (cBits_inf ox c_3 c_6), ht⟩) (fun q hq => absurd hq List.not_mem_nil) dX5_bits_19
  · refine lv_ldc (v := nI 2143289344) hx hb hown (hts (.constant RX5 24 (2143289344)) (by decide +kernel)) dX5_bits_7 ?_
    exact W.iret (v := nI 2143289344) hx hb hr (fun t ht hW => ⟨_, rfl, (by rw [cBits, if_pos c_3]), ht⟩) (fun q hq => absurd hq List.not_mem_nil) dX5_bits_9
end
