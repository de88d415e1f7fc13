section
-- ===== PART A: goes FIRST, ahead of the names: the tables' words, and 'selects' of the private methods out of them =====
/-- a private method of a class that the tables say can be made, by its rows of tables_1 -/
def lw_okq (q : MethodName × Nat) : Prop := (q.1.cls ≠ "java/lang/invoke/MethodHandle" ∧ q.1.cls ≠ "java/lang/invoke/VarHandle") ∧ Cond.instantiable q.1.cls q.2 ∈ tables_1 ∧ Cond.privateMethod q.1 ∈ tables_1 ∧ Cond.instanceMethod q.1 ∈ tables_1
theorem lw_p0 : lw_okq (⟨"TruthScan", "putOnTape", "(I)V"⟩, 13) := ⟨⟨by decide +kernel, by decide +kernel⟩, List.mem_of_getElem? (i := 10) (by decide +kernel), List.mem_of_getElem? (i := 70) (by decide +kernel), List.mem_of_getElem? (i := 71) (by decide +kernel)⟩
theorem lw_p1 : lw_okq (⟨"TruthScan", "columnAt", "(I)LTruthScan$Column;"⟩, 13) := ⟨⟨by decide +kernel, by decide +kernel⟩, List.mem_of_getElem? (i := 10) (by decide +kernel), List.mem_of_getElem? (i := 133) (by decide +kernel), List.mem_of_getElem? (i := 134) (by decide +kernel)⟩
theorem lw_p2 : lw_okq (⟨"TruthScan", "isOnTape", "(I)Z"⟩, 13) := ⟨⟨by decide +kernel, by decide +kernel⟩, List.mem_of_getElem? (i := 10) (by decide +kernel), List.mem_of_getElem? (i := 171) (by decide +kernel), List.mem_of_getElem? (i := 172) (by decide +kernel)⟩
theorem lw_p3 : lw_okq (⟨"TruthScan", "keepLiteral", "(LTruthScan$Value;)I"⟩, 13) := ⟨⟨by decide +kernel, by decide +kernel⟩, List.mem_of_getElem? (i := 10) (by decide +kernel), List.mem_of_getElem? (i := 211) (by decide +kernel), List.mem_of_getElem? (i := 212) (by decide +kernel)⟩
theorem lw_p4 : lw_okq (⟨"TruthScan", "fits", "(ILTruthScan$Column;ILTruthScan$Column;II)Z"⟩, 13) := ⟨⟨by decide +kernel, by decide +kernel⟩, List.mem_of_getElem? (i := 10) (by decide +kernel), List.mem_of_getElem? (i := 223) (by decide +kernel), List.mem_of_getElem? (i := 224) (by decide +kernel)⟩
theorem lw_p5 : lw_okq (⟨"TruthScan", "areLiterals", "(III)Z"⟩, 13) := ⟨⟨by decide +kernel, by decide +kernel⟩, List.mem_of_getElem? (i := 10) (by decide +kernel), List.mem_of_getElem? (i := 227) (by decide +kernel), List.mem_of_getElem? (i := 228) (by decide +kernel)⟩
theorem lw_p6 : lw_okq (⟨"TruthScan", "isCondition", "()Z"⟩, 13) := ⟨⟨by decide +kernel, by decide +kernel⟩, List.mem_of_getElem? (i := 10) (by decide +kernel), List.mem_of_getElem? (i := 272) (by decide +kernel), List.mem_of_getElem? (i := 273) (by decide +kernel)⟩
theorem lw_p7 : lw_okq (⟨"TruthScan", "stepsHaveRows", "(I)Z"⟩, 13) := ⟨⟨by decide +kernel, by decide +kernel⟩, List.mem_of_getElem? (i := 10) (by decide +kernel), List.mem_of_getElem? (i := 280) (by decide +kernel), List.mem_of_getElem? (i := 281) (by decide +kernel)⟩
theorem lw_p8 : lw_okq (⟨"TruthScan", "outcome", "(I)I"⟩, 13) := ⟨⟨by decide +kernel, by decide +kernel⟩, List.mem_of_getElem? (i := 10) (by decide +kernel), List.mem_of_getElem? (i := 284) (by decide +kernel), List.mem_of_getElem? (i := 285) (by decide +kernel)⟩
theorem lw_p9 : lw_okq (⟨"TruthScan$Step", "canBeOutside", "()Z"⟩, 7) := ⟨⟨by decide +kernel, by decide +kernel⟩, List.mem_of_getElem? (i := 233) (by decide +kernel), List.mem_of_getElem? (i := 310) (by decide +kernel), List.mem_of_getElem? (i := 311) (by decide +kernel)⟩
theorem lw_p10 : lw_okq (⟨"TruthScan$Step", "isOutside", "(LTruthScan$Value;)Z"⟩, 7) := ⟨⟨by decide +kernel, by decide +kernel⟩, List.mem_of_getElem? (i := 233) (by decide +kernel), List.mem_of_getElem? (i := 318) (by decide +kernel), List.mem_of_getElem? (i := 319) (by decide +kernel)⟩
theorem lw_p11 : lw_okq (⟨"TruthScan$Step", "canBeInside", "()Z"⟩, 7) := ⟨⟨by decide +kernel, by decide +kernel⟩, List.mem_of_getElem? (i := 233) (by decide +kernel), List.mem_of_getElem? (i := 326) (by decide +kernel), List.mem_of_getElem? (i := 327) (by decide +kernel)⟩
theorem lw_p12 : lw_okq (⟨"TruthScan$Step", "canCompare", "(I)Z"⟩, 7) := ⟨⟨by decide +kernel, by decide +kernel⟩, List.mem_of_getElem? (i := 233) (by decide +kernel), List.mem_of_getElem? (i := 339) (by decide +kernel), List.mem_of_getElem? (i := 340) (by decide +kernel)⟩
theorem lw_p13 : lw_okq (⟨"TruthScan$Step", "valueOfOther", "(I)LTruthScan$Value;"⟩, 7) := ⟨⟨by decide +kernel, by decide +kernel⟩, List.mem_of_getElem? (i := 233) (by decide +kernel), List.mem_of_getElem? (i := 358) (by decide +kernel), List.mem_of_getElem? (i := 359) (by decide +kernel)⟩
theorem lw_p14 : lw_okq (⟨"TruthScanModel", "isColumn", "(I)Z"⟩, 28) := ⟨⟨by decide +kernel, by decide +kernel⟩, List.mem_of_getElem? (i := 402) (by decide +kernel), List.mem_of_getElem? (i := 508) (by decide +kernel), List.mem_of_getElem? (i := 509) (by decide +kernel)⟩
theorem lw_p15 : lw_okq (⟨"TruthScanModel", "fromTape", "(III)V"⟩, 28) := ⟨⟨by decide +kernel, by decide +kernel⟩, List.mem_of_getElem? (i := 402) (by decide +kernel), List.mem_of_getElem? (i := 519) (by decide +kernel), List.mem_of_getElem? (i := 520) (by decide +kernel)⟩
def lw_privs_1 : List (MethodName × Nat) := [(⟨"TruthScan", "putOnTape", "(I)V"⟩, 13), (⟨"TruthScan", "columnAt", "(I)LTruthScan$Column;"⟩, 13), (⟨"TruthScan", "isOnTape", "(I)Z"⟩, 13), (⟨"TruthScan", "keepLiteral", "(LTruthScan$Value;)I"⟩, 13), (⟨"TruthScan", "fits", "(ILTruthScan$Column;ILTruthScan$Column;II)Z"⟩, 13), (⟨"TruthScan", "areLiterals", "(III)Z"⟩, 13), (⟨"TruthScan", "isCondition", "()Z"⟩, 13), (⟨"TruthScan", "stepsHaveRows", "(I)Z"⟩, 13), (⟨"TruthScan", "outcome", "(I)I"⟩, 13), (⟨"TruthScan$Step", "canBeOutside", "()Z"⟩, 7), (⟨"TruthScan$Step", "isOutside", "(LTruthScan$Value;)Z"⟩, 7), (⟨"TruthScan$Step", "canBeInside", "()Z"⟩, 7), (⟨"TruthScan$Step", "canCompare", "(I)Z"⟩, 7), (⟨"TruthScan$Step", "valueOfOther", "(I)LTruthScan$Value;"⟩, 7), (⟨"TruthScanModel", "isColumn", "(I)Z"⟩, 28), (⟨"TruthScanModel", "fromTape", "(III)V"⟩, 28)]
theorem lw_r1 : ∀ q ∈ lw_privs_1, lw_okq q := List.forall_mem_cons.mpr ⟨lw_p0, List.forall_mem_cons.mpr ⟨lw_p1, List.forall_mem_cons.mpr ⟨lw_p2, List.forall_mem_cons.mpr ⟨lw_p3, List.forall_mem_cons.mpr ⟨lw_p4, List.forall_mem_cons.mpr ⟨lw_p5, List.forall_mem_cons.mpr ⟨lw_p6, List.forall_mem_cons.mpr ⟨lw_p7, List.forall_mem_cons.mpr ⟨lw_p8, List.forall_mem_cons.mpr ⟨lw_p9, List.forall_mem_cons.mpr ⟨lw_p10, List.forall_mem_cons.mpr ⟨lw_p11, List.forall_mem_cons.mpr ⟨lw_p12, List.forall_mem_cons.mpr ⟨lw_p13, List.forall_mem_cons.mpr ⟨lw_p14, List.forall_mem_cons.mpr ⟨lw_p15, fun _ h => absurd h List.not_mem_nil⟩⟩⟩⟩⟩⟩⟩⟩⟩⟩⟩⟩⟩⟩⟩⟩
theorem lw_p16 : lw_okq (⟨"TruthScanModel", "isTest", "(IIIII)Z"⟩, 28) := ⟨⟨by decide +kernel, by decide +kernel⟩, List.mem_of_getElem? (i := 402) (by decide +kernel), List.mem_of_getElem? (i := 544) (by decide +kernel), List.mem_of_getElem? (i := 545) (by decide +kernel)⟩
theorem lw_p17 : lw_okq (⟨"TruthScanModel", "areLiterals", "(III)Z"⟩, 28) := ⟨⟨by decide +kernel, by decide +kernel⟩, List.mem_of_getElem? (i := 402) (by decide +kernel), List.mem_of_getElem? (i := 548) (by decide +kernel), List.mem_of_getElem? (i := 549) (by decide +kernel)⟩
theorem lw_p18 : lw_okq (⟨"TruthScanModel", "isCondition", "()Z"⟩, 28) := ⟨⟨by decide +kernel, by decide +kernel⟩, List.mem_of_getElem? (i := 402) (by decide +kernel), List.mem_of_getElem? (i := 560) (by decide +kernel), List.mem_of_getElem? (i := 561) (by decide +kernel)⟩
theorem lw_p19 : lw_okq (⟨"TruthScanModel", "condition", "(I)I"⟩, 28) := ⟨⟨by decide +kernel, by decide +kernel⟩, List.mem_of_getElem? (i := 402) (by decide +kernel), List.mem_of_getElem? (i := 564) (by decide +kernel), List.mem_of_getElem? (i := 565) (by decide +kernel)⟩
theorem lw_p20 : lw_okq (⟨"TruthScanModel", "canOf", "(I)I"⟩, 28) := ⟨⟨by decide +kernel, by decide +kernel⟩, List.mem_of_getElem? (i := 402) (by decide +kernel), List.mem_of_getElem? (i := 568) (by decide +kernel), List.mem_of_getElem? (i := 569) (by decide +kernel)⟩
theorem lw_p21 : lw_okq (⟨"TruthScanModel", "mayMeet", "(III)Z"⟩, 28) := ⟨⟨by decide +kernel, by decide +kernel⟩, List.mem_of_getElem? (i := 402) (by decide +kernel), List.mem_of_getElem? (i := 572) (by decide +kernel), List.mem_of_getElem? (i := 573) (by decide +kernel)⟩
theorem lw_p22 : lw_okq (⟨"TruthScanModel", "compare", "(III)I"⟩, 28) := ⟨⟨by decide +kernel, by decide +kernel⟩, List.mem_of_getElem? (i := 402) (by decide +kernel), List.mem_of_getElem? (i := 576) (by decide +kernel), List.mem_of_getElem? (i := 577) (by decide +kernel)⟩
theorem lw_p23 : lw_okq (⟨"TruthScanModel", "may", "(III)Z"⟩, 28) := ⟨⟨by decide +kernel, by decide +kernel⟩, List.mem_of_getElem? (i := 402) (by decide +kernel), List.mem_of_getElem? (i := 583) (by decide +kernel), List.mem_of_getElem? (i := 584) (by decide +kernel)⟩
theorem lw_p24 : lw_okq (⟨"TruthScanModel", "mayBeNone", "(I)Z"⟩, 28) := ⟨⟨by decide +kernel, by decide +kernel⟩, List.mem_of_getElem? (i := 402) (by decide +kernel), List.mem_of_getElem? (i := 590) (by decide +kernel), List.mem_of_getElem? (i := 591) (by decide +kernel)⟩
theorem lw_p25 : lw_okq (⟨"TruthScanModel", "isIn", "(II)Z"⟩, 28) := ⟨⟨by decide +kernel, by decide +kernel⟩, List.mem_of_getElem? (i := 402) (by decide +kernel), List.mem_of_getElem? (i := 594) (by decide +kernel), List.mem_of_getElem? (i := 595) (by decide +kernel)⟩
theorem lw_p26 : lw_okq (⟨"TruthScanModel", "truthOf", "(II)I"⟩, 28) := ⟨⟨by decide +kernel, by decide +kernel⟩, List.mem_of_getElem? (i := 402) (by decide +kernel), List.mem_of_getElem? (i := 598) (by decide +kernel), List.mem_of_getElem? (i := 599) (by decide +kernel)⟩
theorem lw_p27 : lw_okq (⟨"TruthScanModel", "most", "(II)I"⟩, 28) := ⟨⟨by decide +kernel, by decide +kernel⟩, List.mem_of_getElem? (i := 402) (by decide +kernel), List.mem_of_getElem? (i := 621) (by decide +kernel), List.mem_of_getElem? (i := 622) (by decide +kernel)⟩
theorem lw_p28 : lw_okq (⟨"TruthScanModel", "copy", "(III)V"⟩, 28) := ⟨⟨by decide +kernel, by decide +kernel⟩, List.mem_of_getElem? (i := 402) (by decide +kernel), List.mem_of_getElem? (i := 626) (by decide +kernel), List.mem_of_getElem? (i := 627) (by decide +kernel)⟩
theorem lw_p29 : lw_okq (⟨"TruthScanModel", "isFirst", "(II)Z"⟩, 28) := ⟨⟨by decide +kernel, by decide +kernel⟩, List.mem_of_getElem? (i := 402) (by decide +kernel), List.mem_of_getElem? (i := 634) (by decide +kernel), List.mem_of_getElem? (i := 635) (by decide +kernel)⟩
def lw_privs_2 : List (MethodName × Nat) := [(⟨"TruthScanModel", "isTest", "(IIIII)Z"⟩, 28), (⟨"TruthScanModel", "areLiterals", "(III)Z"⟩, 28), (⟨"TruthScanModel", "isCondition", "()Z"⟩, 28), (⟨"TruthScanModel", "condition", "(I)I"⟩, 28), (⟨"TruthScanModel", "canOf", "(I)I"⟩, 28), (⟨"TruthScanModel", "mayMeet", "(III)Z"⟩, 28), (⟨"TruthScanModel", "compare", "(III)I"⟩, 28), (⟨"TruthScanModel", "may", "(III)Z"⟩, 28), (⟨"TruthScanModel", "mayBeNone", "(I)Z"⟩, 28), (⟨"TruthScanModel", "isIn", "(II)Z"⟩, 28), (⟨"TruthScanModel", "truthOf", "(II)I"⟩, 28), (⟨"TruthScanModel", "most", "(II)I"⟩, 28), (⟨"TruthScanModel", "copy", "(III)V"⟩, 28), (⟨"TruthScanModel", "isFirst", "(II)Z"⟩, 28)]
theorem lw_r2 : ∀ q ∈ lw_privs_2, lw_okq q := List.forall_mem_cons.mpr ⟨lw_p16, List.forall_mem_cons.mpr ⟨lw_p17, List.forall_mem_cons.mpr ⟨lw_p18, List.forall_mem_cons.mpr ⟨lw_p19, List.forall_mem_cons.mpr ⟨lw_p20, List.forall_mem_cons.mpr ⟨lw_p21, List.forall_mem_cons.mpr ⟨lw_p22, List.forall_mem_cons.mpr ⟨lw_p23, List.forall_mem_cons.mpr ⟨lw_p24, List.forall_mem_cons.mpr ⟨lw_p25, List.forall_mem_cons.mpr ⟨lw_p26, List.forall_mem_cons.mpr ⟨lw_p27, List.forall_mem_cons.mpr ⟨lw_p28, List.forall_mem_cons.mpr ⟨lw_p29, fun _ h => absurd h List.not_mem_nil⟩⟩⟩⟩⟩⟩⟩⟩⟩⟩⟩⟩⟩⟩
def lw_privs : List (MethodName × Nat) := lw_privs_1 ++ (lw_privs_2)
def lw_tbl : List Cond := k2_sels lw_privs ++ tables_1
theorem lw_privs_ok : ∀ q ∈ lw_privs, lw_okq q := by
  show ∀ q ∈ lw_privs_1 ++ (lw_privs_2), lw_okq q
  exact List.forall_mem_append.mpr ⟨lw_r1, lw_r2⟩
def RT : String := "TruthScan"
def FT : u_T := fun k => match k with
  | 0 => ("TruthScan", "columns", "[LTruthScan$Column;", true)
  | 1 => ("TruthScan", "columnCount", "I", false)
  | 2 => ("TruthScan", "tape", "[B", true)
  | 3 => ("TruthScan", "tapeLength", "I", false)
  | 4 => ("TruthScan", "literals", "[LTruthScan$Value;", true)
  | 5 => ("TruthScan", "literalCount", "I", false)
  | 6 => ("TruthScan", "steps", "[LTruthScan$Step;", true)
  | 7 => ("TruthScan", "stepCount", "I", false)
  | 8 => ("TruthScan", "waiting", "[I", true)
  | 9 => ("TruthScan", "rowTruths", "[I", true)
  | 10 => ("TruthScan", "scannedRows", "I", false)
  | 11 => ("TruthScan", "trueRows", "[I", true)
  | _ => ("TruthScan", "trueCount", "I", false)
def tT : Nat → FieldType := fun k => match k with
  | 0 => .array (.object "TruthScan$Column")
  | 1 => .int
  | 2 => .array .byte
  | 3 => .int
  | 4 => .array (.object "TruthScan$Value")
  | 5 => .int
  | 6 => .array (.object "TruthScan$Step")
  | 7 => .int
  | 8 => .array .int
  | 9 => .array .int
  | 10 => .int
  | 11 => .array .int
  | _ => .int
def RC : String := "TruthScan$Column"
def FC : u_T := fun k => match k with
  | 0 => ("TruthScan$Column", "type", "I", true)
  | 1 => ("TruthScan$Column", "rows", "[LTruthScan$Value;", true)
  | 2 => ("TruthScan$Column", "rowCount", "I", false)
  | 3 => ("TruthScan$Column", "textBytes", "I", false)
  | 4 => ("TruthScan$Column", "isKnown", "Z", false)
  | 5 => ("TruthScan$Column", "knownRows", "I", false)
  | 6 => ("TruthScan$Column", "knownMissing", "I", false)
  | 7 => ("TruthScan$Column", "least", "LTruthScan$Value;", false)
  | 8 => ("TruthScan$Column", "greatest", "LTruthScan$Value;", false)
  | 9 => ("TruthScan$Column", "entries", "[LTruthScan$Value;", false)
  | 10 => ("TruthScan$Column", "entryCount", "I", false)
  | _ => ("TruthScan$Column", "spareEntries", "[LTruthScan$Value;", false)
def tC : Nat → FieldType := fun k => match k with
  | 0 => .int
  | 1 => .array (.object "TruthScan$Value")
  | 2 => .int
  | 3 => .int
  | 4 => .boolean
  | 5 => .int
  | 6 => .int
  | 7 => .object "TruthScan$Value"
  | 8 => .object "TruthScan$Value"
  | 9 => .array (.object "TruthScan$Value")
  | 10 => .int
  | _ => .array (.object "TruthScan$Value")
def RS : String := "TruthScan$Step"
def FS : u_T := fun k => match k with
  | 0 => ("TruthScan$Step", "kind", "I", true)
  | 1 => ("TruthScan$Step", "column", "LTruthScan$Column;", true)
  | 2 => ("TruthScan$Step", "operator", "I", true)
  | 3 => ("TruthScan$Step", "other", "LTruthScan$Column;", true)
  | 4 => ("TruthScan$Step", "literals", "[LTruthScan$Value;", true)
  | 5 => ("TruthScan$Step", "firstLiteral", "I", true)
  | _ => ("TruthScan$Step", "literalCount", "I", true)
def tS : Nat → FieldType := fun k => match k with
  | 0 => .int
  | 1 => .object "TruthScan$Column"
  | 2 => .int
  | 3 => .object "TruthScan$Column"
  | 4 => .array (.object "TruthScan$Value")
  | 5 => .int
  | _ => .int
def RV : String := "TruthScan$Value"
def FV : u_T := fun k => match k with
  | 0 => ("TruthScan$Value", "type", "I", true)
  | 1 => ("TruthScan$Value", "number", "J", true)
  | _ => ("TruthScan$Value", "text", "[B", true)
def tV : Nat → FieldType := fun k => match k with
  | 0 => .int
  | 1 => .long
  | _ => .array .byte
def RM : String := "TruthScanModel"
def FM : u_T := fun k => match k with
  | 0 => ("TruthScanModel", "code", "I", false)
  | 1 => ("TruthScanModel", "tape", "[I", true)
  | 2 => ("TruthScanModel", "taped", "I", false)
  | 3 => ("TruthScanModel", "number", "[J", true)
  | 4 => ("TruthScanModel", "from", "[I", true)
  | 5 => ("TruthScanModel", "size", "[I", true)
  | 6 => ("TruthScanModel", "bytes", "[I", true)
  | 7 => ("TruthScanModel", "type", "[I", true)
  | 8 => ("TruthScanModel", "count", "[I", true)
  | 9 => ("TruthScanModel", "used", "[I", true)
  | 10 => ("TruthScanModel", "rows", "[I", true)
  | 11 => ("TruthScanModel", "missing", "[I", true)
  | 12 => ("TruthScanModel", "words", "[I", true)
  | 13 => ("TruthScanModel", "isKnown", "[Z", true)
  | 14 => ("TruthScanModel", "hasMost", "[Z", true)
  | 15 => ("TruthScanModel", "has", "[Z", true)
  | 16 => ("TruthScanModel", "columns", "I", false)
  | 17 => ("TruthScanModel", "literals", "I", false)
  | 18 => ("TruthScanModel", "steps", "I", false)
  | 19 => ("TruthScanModel", "literalType", "[I", true)
  | 20 => ("TruthScanModel", "kind", "[I", true)
  | 21 => ("TruthScanModel", "first", "[I", true)
  | 22 => ("TruthScanModel", "operator", "[I", true)
  | 23 => ("TruthScanModel", "other", "[I", true)
  | 24 => ("TruthScanModel", "many", "[I", true)
  | 25 => ("TruthScanModel", "truths", "[I", true)
  | 26 => ("TruthScanModel", "pile", "[I", true)
  | _ => ("TruthScanModel", "looked", "I", false)
def tM : Nat → FieldType := fun k => match k with
  | 0 => .int
  | 1 => .array .int
  | 2 => .int
  | 3 => .array .long
  | 4 => .array .int
  | 5 => .array .int
  | 6 => .array .int
  | 7 => .array .int
  | 8 => .array .int
  | 9 => .array .int
  | 10 => .array .int
  | 11 => .array .int
  | 12 => .array .int
  | 13 => .array .boolean
  | 14 => .array .boolean
  | 15 => .array .boolean
  | 16 => .int
  | 17 => .int
  | 18 => .int
  | 19 => .array .int
  | 20 => .array .int
  | 21 => .array .int
  | 22 => .array .int
  | 23 => .array .int
  | 24 => .array .int
  | 25 => .array .int
  | 26 => .array .int
  | _ => .int
def RL : String := "TruthScanLaw"
def RA : String := "java/util/Arrays"
abbrev vwCl : List vw_C := [(RT, FT, 13), (RC, FC, 12), (RS, FS, 7), (RV, FV, 3), (RM, FM, 28)]
abbrev cT : Nat := 0
abbrev cC : Nat := 1
abbrev cS : Nat := 2
abbrev cV : Nat := 3
abbrev cM : Nat := 4
theorem nm_T : ∀ a, a < 13 → ∀ b, b < 13 → a ≠ b → (FT a).2.1 ≠ (FT b).2.1 := by decide +kernel
theorem ty_T : ∀ k, k < 13 → parseFieldDescriptor (FT k).2.2.1 = some (tT k) := by decide +kernel
theorem nm_C : ∀ a, a < 12 → ∀ b, b < 12 → a ≠ b → (FC a).2.1 ≠ (FC b).2.1 := by decide +kernel
theorem ty_C : ∀ k, k < 12 → parseFieldDescriptor (FC k).2.2.1 = some (tC k) := by decide +kernel
theorem nm_S : ∀ a, a < 7 → ∀ b, b < 7 → a ≠ b → (FS a).2.1 ≠ (FS b).2.1 := by decide +kernel
theorem ty_S : ∀ k, k < 7 → parseFieldDescriptor (FS k).2.2.1 = some (tS k) := by decide +kernel
theorem nm_V : ∀ a, a < 3 → ∀ b, b < 3 → a ≠ b → (FV a).2.1 ≠ (FV b).2.1 := by decide +kernel
theorem ty_V : ∀ k, k < 3 → parseFieldDescriptor (FV k).2.2.1 = some (tV k) := by decide +kernel
theorem nm_M : ∀ a, a < 28 → ∀ b, b < 28 → a ≠ b → (FM a).2.1 ≠ (FM b).2.1 := by decide +kernel
theorem ty_M : ∀ k, k < 28 → parseFieldDescriptor (FM k).2.2.1 = some (tM k) := by decide +kernel
abbrev b_T_init : ByteArray := prog_1_method_1_code
def y_T_init : MethodName := ⟨RT, "<init>", "()V"⟩
abbrev b_T_feed : ByteArray := prog_1_method_2_code
def y_T_feed : MethodName := ⟨RT, "feed", "(IIIII)Z"⟩
abbrev b_T_putOnTape : ByteArray := prog_1_method_19_code
def y_T_putOnTape : MethodName := ⟨RT, "putOnTape", "(I)V"⟩
abbrev b_T_column : ByteArray := prog_1_method_3_code
def y_T_column : MethodName := ⟨RT, "column", "(I)I"⟩
abbrev b_T_add : ByteArray := prog_1_method_4_code
def y_T_add : MethodName := ⟨RT, "add", "(IJI)Z"⟩
abbrev b_T_columnAt : ByteArray := prog_1_method_21_code
def y_T_columnAt : MethodName := ⟨RT, "columnAt", "(I)LTruthScan$Column;"⟩
abbrev b_T_isNumberOf : ByteArray := prog_1_method_23_code
def y_T_isNumberOf : MethodName := ⟨RT, "isNumberOf", "(IJ)Z"⟩
abbrev b_T_addText : ByteArray := prog_1_method_5_code
def y_T_addText : MethodName := ⟨RT, "addText", "(II)Z"⟩
abbrev b_T_isOnTape : ByteArray := prog_1_method_20_code
def y_T_isOnTape : MethodName := ⟨RT, "isOnTape", "(I)Z"⟩
abbrev b_T_miss : ByteArray := prog_1_method_6_code
def y_T_miss : MethodName := ⟨RT, "miss", "(II)Z"⟩
abbrev b_T_clear : ByteArray := prog_1_method_7_code
def y_T_clear : MethodName := ⟨RT, "clear", "(I)Z"⟩
abbrev b_T_literal : ByteArray := prog_1_method_8_code
def y_T_literal : MethodName := ⟨RT, "literal", "(IJ)I"⟩
abbrev b_T_keepLiteral : ByteArray := prog_1_method_22_code
def y_T_keepLiteral : MethodName := ⟨RT, "keepLiteral", "(LTruthScan$Value;)I"⟩
abbrev b_T_literalText : ByteArray := prog_1_method_9_code
def y_T_literalText : MethodName := ⟨RT, "literalText", "(I)I"⟩
abbrev b_T_step : ByteArray := prog_1_method_10_code
def y_T_step : MethodName := ⟨RT, "step", "(IIIII)I"⟩
abbrev b_T_fits : ByteArray := prog_1_method_24_code
def y_T_fits : MethodName := ⟨RT, "fits", "(ILTruthScan$Column;ILTruthScan$Column;II)Z"⟩
abbrev b_T_areLiterals : ByteArray := prog_1_method_26_code
def y_T_areLiterals : MethodName := ⟨RT, "areLiterals", "(III)Z"⟩
abbrev b_T_isOperator : ByteArray := prog_1_method_25_code
def y_T_isOperator : MethodName := ⟨RT, "isOperator", "(I)Z"⟩
abbrev b_T_forget : ByteArray := prog_1_method_11_code
def y_T_forget : MethodName := ⟨RT, "forget", "()V"⟩
abbrev b_T_scan : ByteArray := prog_1_method_12_code
def y_T_scan : MethodName := ⟨RT, "scan", "(I)I"⟩
abbrev b_T_isCondition : ByteArray := prog_1_method_27_code
def y_T_isCondition : MethodName := ⟨RT, "isCondition", "()Z"⟩
abbrev b_T_stepsHaveRows : ByteArray := prog_1_method_28_code
def y_T_stepsHaveRows : MethodName := ⟨RT, "stepsHaveRows", "(I)Z"⟩
abbrev b_T_outcome : ByteArray := prog_1_method_29_code
def y_T_outcome : MethodName := ⟨RT, "outcome", "(I)I"⟩
abbrev b_T_truthSet : ByteArray := prog_1_method_30_code
def y_T_truthSet : MethodName := ⟨RT, "truthSet", "(ZZZ)I"⟩
abbrev b_T_not : ByteArray := prog_1_method_32_code
def y_T_not : MethodName := ⟨RT, "not", "(I)I"⟩
abbrev b_T_has : ByteArray := prog_1_method_31_code
def y_T_has : MethodName := ⟨RT, "has", "(II)Z"⟩
abbrev b_T_isAmong : ByteArray := prog_1_method_35_code
def y_T_isAmong : MethodName := ⟨RT, "isAmong", "(LTruthScan$Value;[LTruthScan$Value;II)Z"⟩
abbrev b_T_contrary : ByteArray := prog_1_method_37_code
def y_T_contrary : MethodName := ⟨RT, "contrary", "(I)I"⟩
abbrev b_T_canHold : ByteArray := prog_1_method_38_code
def y_T_canHold : MethodName := ⟨RT, "canHold", "(ILTruthScan$Value;LTruthScan$Value;LTruthScan$Value;LTruthScan$Value;)Z"⟩
abbrev b_T_holds : ByteArray := prog_1_method_36_code
def y_T_holds : MethodName := ⟨RT, "holds", "(II)Z"⟩
abbrev b_T_and : ByteArray := prog_1_method_33_code
def y_T_and : MethodName := ⟨RT, "and", "(II)I"⟩
abbrev b_T_or : ByteArray := prog_1_method_34_code
def y_T_or : MethodName := ⟨RT, "or", "(II)I"⟩
abbrev b_T_truth : ByteArray := prog_1_method_13_code
def y_T_truth : MethodName := ⟨RT, "truth", "(I)I"⟩
abbrev b_T_chosen : ByteArray := prog_1_method_14_code
def y_T_chosen : MethodName := ⟨RT, "chosen", "(I)I"⟩
abbrev b_T_known : ByteArray := prog_1_method_15_code
def y_T_known : MethodName := ⟨RT, "known", "(III)Z"⟩
abbrev b_T_dictionary : ByteArray := prog_1_method_16_code
def y_T_dictionary : MethodName := ⟨RT, "dictionary", "(I)Z"⟩
abbrev b_T_unknown : ByteArray := prog_1_method_17_code
def y_T_unknown : MethodName := ⟨RT, "unknown", "(I)Z"⟩
abbrev b_T_can : ByteArray := prog_1_method_18_code
def y_T_can : MethodName := ⟨RT, "can", "()I"⟩
abbrev b_C_init : ByteArray := prog_2_method_1_code
def y_C_init : MethodName := ⟨RC, "<init>", "(I)V"⟩
abbrev b_C_hasRoomFor : ByteArray := prog_2_method_2_code
def y_C_hasRoomFor : MethodName := ⟨RC, "hasRoomFor", "(I)Z"⟩
abbrev b_C_append : ByteArray := prog_2_method_4_code
def y_C_append : MethodName := ⟨RC, "append", "(LTruthScan$Value;I)V"⟩
abbrev b_C_hasRoomForBytes : ByteArray := prog_2_method_3_code
def y_C_hasRoomForBytes : MethodName := ⟨RC, "hasRoomForBytes", "(I)Z"⟩
abbrev b_C_removeRows : ByteArray := prog_2_method_5_code
def y_C_removeRows : MethodName := ⟨RC, "removeRows", "()V"⟩
abbrev b_C_mayHaveValues : ByteArray := prog_2_method_10_code
def y_C_mayHaveValues : MethodName := ⟨RC, "mayHaveValues", "()Z"⟩
abbrev b_C_mayMiss : ByteArray := prog_2_method_9_code
def y_C_mayMiss : MethodName := ⟨RC, "mayMiss", "()Z"⟩
abbrev b_C_mayHold : ByteArray := prog_2_method_11_code
def y_C_mayHold : MethodName := ⟨RC, "mayHold", "(LTruthScan$Value;)Z"⟩
abbrev b_C_valueAt : ByteArray := prog_2_method_6_code
def y_C_valueAt : MethodName := ⟨RC, "valueAt", "(I)LTruthScan$Value;"⟩
abbrev b_C_learn : ByteArray := prog_2_method_7_code
def y_C_learn : MethodName := ⟨RC, "learn", "(II)Z"⟩
abbrev b_C_learnDictionary : ByteArray := prog_2_method_8_code
def y_C_learnDictionary : MethodName := ⟨RC, "learnDictionary", "()Z"⟩
abbrev b_S_init : ByteArray := prog_3_method_1_code
def y_S_init : MethodName := ⟨RS, "<init>", "(ILTruthScan$Column;ILTruthScan$Column;[LTruthScan$Value;II)V"⟩
abbrev b_S_takes : ByteArray := prog_3_method_2_code
def y_S_takes : MethodName := ⟨RS, "takes", "()I"⟩
abbrev b_S_canBe : ByteArray := prog_3_method_5_code
def y_S_canBe : MethodName := ⟨RS, "canBe", "()I"⟩
abbrev b_S_canBeOutside : ByteArray := prog_3_method_7_code
def y_S_canBeOutside : MethodName := ⟨RS, "canBeOutside", "()Z"⟩
abbrev b_S_isOutside : ByteArray := prog_3_method_8_code
def y_S_isOutside : MethodName := ⟨RS, "isOutside", "(LTruthScan$Value;)Z"⟩
abbrev b_S_canBeInside : ByteArray := prog_3_method_6_code
def y_S_canBeInside : MethodName := ⟨RS, "canBeInside", "()Z"⟩
abbrev b_S_canCompare : ByteArray := prog_3_method_9_code
def y_S_canCompare : MethodName := ⟨RS, "canCompare", "(I)Z"⟩
abbrev b_S_atRow : ByteArray := prog_3_method_3_code
def y_S_atRow : MethodName := ⟨RS, "atRow", "(I)I"⟩
abbrev b_S_valueOfOther : ByteArray := prog_3_method_4_code
def y_S_valueOfOther : MethodName := ⟨RS, "valueOfOther", "(I)LTruthScan$Value;"⟩
abbrev b_V_init : ByteArray := prog_4_method_1_code
def y_V_init : MethodName := ⟨RV, "<init>", "(IJ[B)V"⟩
abbrev b_V_order : ByteArray := prog_4_method_2_code
def y_V_order : MethodName := ⟨RV, "order", "(LTruthScan$Value;)I"⟩
abbrev b_M_init : ByteArray := prog_6_method_1_code
def y_M_init : MethodName := ⟨RM, "<init>", "()V"⟩
abbrev b_M_feed : ByteArray := prog_6_method_3_code
def y_M_feed : MethodName := ⟨RM, "feed", "(IIIII)Z"⟩
abbrev b_M_column : ByteArray := prog_6_method_9_code
def y_M_column : MethodName := ⟨RM, "column", "(I)I"⟩
abbrev b_M_add : ByteArray := prog_6_method_10_code
def y_M_add : MethodName := ⟨RM, "add", "(IJI)Z"⟩
abbrev b_M_isColumn : ByteArray := prog_6_method_7_code
def y_M_isColumn : MethodName := ⟨RM, "isColumn", "(I)Z"⟩
abbrev b_M_isValue : ByteArray := prog_6_method_8_code
def y_M_isValue : MethodName := ⟨RM, "isValue", "(IJ)Z"⟩
abbrev b_M_addText : ByteArray := prog_6_method_11_code
def y_M_addText : MethodName := ⟨RM, "addText", "(II)Z"⟩
abbrev b_M_fromTape : ByteArray := prog_6_method_6_code
def y_M_fromTape : MethodName := ⟨RM, "fromTape", "(III)V"⟩
abbrev b_M_miss : ByteArray := prog_6_method_12_code
def y_M_miss : MethodName := ⟨RM, "miss", "(II)Z"⟩
abbrev b_M_clear : ByteArray := prog_6_method_13_code
def y_M_clear : MethodName := ⟨RM, "clear", "(I)Z"⟩
abbrev b_M_literal : ByteArray := prog_6_method_14_code
def y_M_literal : MethodName := ⟨RM, "literal", "(IJ)I"⟩
abbrev b_M_literalText : ByteArray := prog_6_method_15_code
def y_M_literalText : MethodName := ⟨RM, "literalText", "(I)I"⟩
abbrev b_M_step : ByteArray := prog_6_method_18_code
def y_M_step : MethodName := ⟨RM, "step", "(IIIII)I"⟩
abbrev b_M_isTest : ByteArray := prog_6_method_17_code
def y_M_isTest : MethodName := ⟨RM, "isTest", "(IIIII)Z"⟩
abbrev b_M_areLiterals : ByteArray := prog_6_method_16_code
def y_M_areLiterals : MethodName := ⟨RM, "areLiterals", "(III)Z"⟩
abbrev b_M_forget : ByteArray := prog_6_method_19_code
def y_M_forget : MethodName := ⟨RM, "forget", "()V"⟩
abbrev b_M_scan : ByteArray := prog_6_method_26_code
def y_M_scan : MethodName := ⟨RM, "scan", "(I)I"⟩
abbrev b_M_isCondition : ByteArray := prog_6_method_20_code
def y_M_isCondition : MethodName := ⟨RM, "isCondition", "()Z"⟩
abbrev b_M_condition : ByteArray := prog_6_method_25_code
def y_M_condition : MethodName := ⟨RM, "condition", "(I)I"⟩
abbrev b_M_canOf : ByteArray := prog_6_method_39_code
def y_M_canOf : MethodName := ⟨RM, "canOf", "(I)I"⟩
abbrev b_M_mayMeet : ByteArray := prog_6_method_35_code
def y_M_mayMeet : MethodName := ⟨RM, "mayMeet", "(III)Z"⟩
abbrev b_M_compare : ByteArray := prog_6_method_4_code
def y_M_compare : MethodName := ⟨RM, "compare", "(III)I"⟩
abbrev b_M_holds : ByteArray := prog_6_method_21_code
def y_M_holds : MethodName := ⟨RM, "holds", "(II)Z"⟩
abbrev b_M_may : ByteArray := prog_6_method_34_code
def y_M_may : MethodName := ⟨RM, "may", "(III)Z"⟩
abbrev b_M_contrary : ByteArray := prog_6_method_38_code
def y_M_contrary : MethodName := ⟨RM, "contrary", "(I)I"⟩
abbrev b_M_mayBeNone : ByteArray := prog_6_method_37_code
def y_M_mayBeNone : MethodName := ⟨RM, "mayBeNone", "(I)Z"⟩
abbrev b_M_isIn : ByteArray := prog_6_method_36_code
def y_M_isIn : MethodName := ⟨RM, "isIn", "(II)Z"⟩
abbrev b_M_truthOf : ByteArray := prog_6_method_22_code
def y_M_truthOf : MethodName := ⟨RM, "truthOf", "(II)I"⟩
abbrev b_M_turned : ByteArray := prog_6_method_23_code
def y_M_turned : MethodName := ⟨RM, "turned", "(I)I"⟩
abbrev b_M_joined : ByteArray := prog_6_method_24_code
def y_M_joined : MethodName := ⟨RM, "joined", "(II)I"⟩
abbrev b_M_truth : ByteArray := prog_6_method_27_code
def y_M_truth : MethodName := ⟨RM, "truth", "(I)I"⟩
abbrev b_M_chosen : ByteArray := prog_6_method_28_code
def y_M_chosen : MethodName := ⟨RM, "chosen", "(I)I"⟩
abbrev b_M_known : ByteArray := prog_6_method_30_code
def y_M_known : MethodName := ⟨RM, "known", "(III)Z"⟩
abbrev b_M_most : ByteArray := prog_6_method_29_code
def y_M_most : MethodName := ⟨RM, "most", "(II)I"⟩
abbrev b_M_copy : ByteArray := prog_6_method_5_code
def y_M_copy : MethodName := ⟨RM, "copy", "(III)V"⟩
abbrev b_M_dictionary : ByteArray := prog_6_method_32_code
def y_M_dictionary : MethodName := ⟨RM, "dictionary", "(I)Z"⟩
abbrev b_M_isFirst : ByteArray := prog_6_method_31_code
def y_M_isFirst : MethodName := ⟨RM, "isFirst", "(II)Z"⟩
abbrev b_M_unknown : ByteArray := prog_6_method_33_code
def y_M_unknown : MethodName := ⟨RM, "unknown", "(I)Z"⟩
abbrev b_M_can : ByteArray := prog_6_method_40_code
def y_M_can : MethodName := ⟨RM, "can", "()I"⟩
abbrev b_A_copyOf : ByteArray := prog_10_method_121_code
def y_A_copyOf : MethodName := ⟨RA, "copyOf", "([BI)[B"⟩
abbrev b_L_law : ByteArray := code
def jtbl : List Cond := lw_tbl.filter goodWord
theorem jtbl_good : ∀ w ∈ jtbl, goodWord w = true := fun w h => (List.mem_filter.mp h).2
def jnest : List Cond := [.methodLinkNest "TruthScan$Step" 62 y_T_truthSet "TruthScan", .methodLinkNest "TruthScan$Step" 73 y_T_not "TruthScan", .methodLinkNest "TruthScan$Step" 41 y_T_isAmong "TruthScan", .methodLinkNest "TruthScan$Column" 61 y_T_isAmong "TruthScan", .methodLinkNest "TruthScan$Step" 83 y_T_contrary "TruthScan", .methodLinkNest "TruthScan$Step" 110 y_T_canHold "TruthScan", .methodLinkNest "TruthScan$Step" 54 y_T_holds "TruthScan"]
def jover : List String := [RC, RV, RS]
theorem jnest_kind : ∀ w ∈ jnest, ∃ (a : String) (i : Nat) (x : MethodName) (b : String), w = .methodLinkNest a i x b := by
  intro w hw
  simp only [jnest, List.mem_cons, List.not_mem_nil, or_false] at hw
  rcases hw with rfl | rfl | rfl | rfl | rfl | rfl | rfl <;> exact ⟨_, _, _, _, rfl⟩
theorem jnest_tab : ∀ w ∈ jnest, w.onTables = true := by decide +kernel
def jtyl : List FieldType := [.int, .byte, .long, .boolean, .object RC, .object RV, .object RS]
end
section
/-! THE J KIT. A world is a list of addresses and what lies at each; J says: from here (pc, locals, operands, world) the method's walk comes to Q. One row an instruction; nothing here speaks of this claim's classes but by vwCl, lw_tbl. -/
abbrev jw : Type := List Nat × (Nat → va_E)
abbrev jG : Type := va_G × (Nat → ClassId) × Nat
abbrev jX : Type := Program × Launch × Env × Room × State × MethodId × Array Value × List Frame × Method × Code × jG × (Nat → Prop)
def jh (w : jw) (a : Nat) (e : va_E) : Prop := a ∈ w.1 ∧ w.2 a = e
def ju (w : jw) (a : Nat) (e : va_E) : jw := (w.1, va_up w.2 a e)
def jn (w : jw) (a : Nat) (e : va_E) : jw := (w.1 ++ [a], va_up w.2 a e)
abbrev jws (w : jw) : va_W := va_pl w.1 w.2
theorem jh_us {w : jw} {a : Nat} {e e0 : va_E} (h : jh w a e0) : jh (ju w a e) a e := ⟨h.1, va_up_self _ _ _⟩
theorem jh_un {w : jw} {a b : Nat} {e e' : va_E} (h : jh w b e') (hn : b ≠ a) : jh (ju w a e) b e' := ⟨h.1, (va_up_ne _ _ hn).trans h.2⟩
theorem jh_ns {w : jw} {a : Nat} {e : va_E} : jh (jn w a e) a e := ⟨List.mem_append_right _ (List.mem_singleton.mpr rfl), va_up_self _ _ _⟩
theorem jh_nn {w : jw} {a b : Nat} {e e' : va_E} (h : jh w b e') (hn : a ∉ w.1) : jh (jn w a e) b e' := ⟨List.mem_append_left _ h.1, (va_up_ne _ _ (fun q => hn (by rw [← q]; exact h.1))).trans h.2⟩
theorem jh_ne {w : jw} {a b : Nat} {e e' : va_E} (h : jh w a e) (h' : jh w b e') (hn : e ≠ e') : a ≠ b := fun q => hn (by rw [← h.2, ← h'.2, q])
theorem jh_eq {w : jw} {a : Nat} {e e' : va_E} (h : jh w a e) (h' : jh w a e') : e = e' := h.2.symm.trans h'.2
/-- array contents, by the kind's number in jtys; objects -/
abbrev eI (G : jG) (n : Nat) (f : Nat → Int32) : va_E := .inl (G.2.1 0, n, .inl f)
abbrev eB (G : jG) (n : Nat) (f : Nat → Int32) : va_E := .inl (G.2.1 1, n, .inl f)
abbrev eL (G : jG) (n : Nat) (f : Nat → Int64) : va_E := .inl (G.2.1 2, n, .inr (.inl f))
abbrev eZ (G : jG) (n : Nat) (f : Nat → Int32) : va_E := .inl (G.2.1 3, n, .inl f)
abbrev eR (G : jG) (k : Nat) (n : Nat) (f : Nat → Option Nat) : va_E := .inl (G.2.1 k, n, .inr (.inr (.inr (.inr f))))
abbrev eO (ci : Nat) (fs : List Value) : va_E := .inr (ci, fs)
/-- locals: the list holds them; only place v.2 may hold a long -/
def jl (ls : Array Slot) (v : Nat × Nat) (lv : List (Nat × Value)) : Prop := lv_has ls v.1 lv ∧ ∀ q ∈ lv, q.2.category = 2 → q.1 = v.2
def jg : List (Nat × Value) → Nat → Option Value
  | [], _ => none
  | (j, v) :: r, i => bif Nat.beq j i then some v else jg r i
def jrm : List (Nat × Value) → Nat → List (Nat × Value)
  | [], _ => []
  | (j, v) :: r, i => bif Nat.beq j i then jrm r i else (j, v) :: jrm r i
def js : List (Nat × Value) → Nat → Value → List (Nat × Value)
  | [], i, v => [(i, v)]
  | (j, u) :: r, i, v => bif Nat.beq j i then (i, v) :: jrm r i else (j, u) :: js r i v
theorem jg_mem : ∀ {lv : List (Nat × Value)} {i : Nat} {v : Value}, jg lv i = some v → (i, v) ∈ lv
  | [], i, v, h => by simp [jg] at h
  | (j, u) :: r, i, v, h => by
    by_cases hj : j = i
    · subst hj
      simp [jg] at h
      subst h
      exact List.mem_cons_self
    · have hb : Nat.beq j i = false := by
        cases hb : Nat.beq j i with
        | false => rfl
        | true => exact absurd (Nat.eq_of_beq_eq_true hb) hj
      simp only [jg, hb, cond_false] at h
      exact List.mem_cons_of_mem _ (jg_mem h)
theorem jrm_mem : ∀ {lv : List (Nat × Value)} {i : Nat} {q : Nat × Value}, q ∈ jrm lv i → q ∈ lv ∧ q.1 ≠ i
  | [], i, q, h => by simp [jrm] at h
  | (j, u) :: r, i, q, h => by
    by_cases hj : j = i
    · subst hj
      simp only [jrm, Nat.beq_refl, cond_true] at h
      exact ⟨List.mem_cons_of_mem _ (jrm_mem h).1, (jrm_mem h).2⟩
    · have hb : Nat.beq j i = false := by
        cases hb : Nat.beq j i with
        | false => rfl
        | true => exact absurd (Nat.eq_of_beq_eq_true hb) hj
      simp only [jrm, hb, cond_false] at h
      rcases List.mem_cons.mp h with rfl | h
      · exact ⟨List.mem_cons_self, hj⟩
      · exact ⟨List.mem_cons_of_mem _ (jrm_mem h).1, (jrm_mem h).2⟩
theorem js_mem : ∀ {lv : List (Nat × Value)} {i : Nat} {v : Value} {q : Nat × Value}, q ∈ js lv i v → q = (i, v) ∨ (q ∈ lv ∧ q.1 ≠ i)
  | [], i, v, q, h => by simp [js] at h; exact Or.inl h
  | (j, u) :: r, i, v, q, h => by
    by_cases hj : j = i
    · subst hj
      simp only [js, Nat.beq_refl, cond_true] at h
      rcases List.mem_cons.mp h with rfl | h
      · exact Or.inl rfl
      · exact Or.inr ⟨List.mem_cons_of_mem _ (jrm_mem h).1, (jrm_mem h).2⟩
    · have hb : Nat.beq j i = false := by
        cases hb : Nat.beq j i with
        | false => rfl
        | true => exact absurd (Nat.eq_of_beq_eq_true hb) hj
      simp only [js, hb, cond_false] at h
      rcases List.mem_cons.mp h with rfl | h
      · exact Or.inr ⟨List.mem_cons_self, hj⟩
      · rcases js_mem h with h | h
        · exact Or.inl h
        · exact Or.inr ⟨List.mem_cons_of_mem _ h.1, h.2⟩
theorem jl_at {ls : Array Slot} {v : Nat × Nat} {lv : List (Nat × Value)} {i : Nat} {x : Value} (h : jl ls v lv) (hg : jg lv i = some x) : ls[i]? = some (.val x) := h.1.2.2 (i, x) (jg_mem hg)
/-- what a store leaves -/
theorem jl_set {ls ls' : Array Slot} {v : Nat × Nat} {lv : List (Nat × Value)} {i : Nat} {x : Value} (h : jl ls v lv) (hx : x.category = 1) (hz : v.2 + 1 ≠ i) (hn : lv_has ls' v.1 ((i, x) :: lv.filter (fun q => !(q.1 == i) && !(q.1 + 1 == i && q.2.category == 2)))) : jl ls' v (js lv i x) := by
  refine ⟨⟨hn.1, hn.2.1, fun q hq => ?_⟩, fun q hq hc => ?_⟩
  · rcases js_mem hq with rfl | ⟨h1, h2⟩
    · exact hn.2.2 _ List.mem_cons_self
    · refine hn.2.2 _ (List.mem_cons_of_mem _ (List.mem_filter.mpr ⟨h1, ?_⟩))
      have h3 : q.2.category = 2 → ¬ q.1 + 1 = i := fun hc e => hz (by rw [← h.2 q h1 hc]; exact e)
      simp only [Bool.and_eq_true, Bool.not_eq_true', beq_eq_false_iff_ne, ne_eq, Bool.and_eq_false_iff]
      refine ⟨h2, ?_⟩
      by_cases hc : q.2.category = 2
      · exact Or.inl (h3 hc)
      · exact Or.inr hc
  · rcases js_mem hq with rfl | ⟨h1, h2⟩
    · rw [hx] at hc
      exact absurd hc (by decide)
    · exact h.2 q h1 hc
def jcb (z : Nat) (l : List (Nat × Value)) : Bool := l.all (fun q => Nat.beq q.2.category 1 || Nat.beq q.1 z)
theorem jcb_ok {z : Nat} {l : List (Nat × Value)} (h : jcb z l = true) : ∀ q ∈ l, q.2.category = 2 → q.1 = z := by
  intro q hq hc
  have h1 := List.all_eq_true.mp h q hq
  rw [hc] at h1
  simpa using h1
def jst : Option Value → List Value → List Value
  | none, s => s
  | some v, s => v :: s
/-- a reference or null -/
def jrv (v : Value) : Prop := v = .null ∨ ∃ a, v = .ref a
theorem jrv_n : jrv .null := Or.inl rfl
theorem jrv_r {a : Nat} : jrv (.ref a) := Or.inr ⟨a, rfl⟩
theorem jrv_f {r : Option Nat} : jrv (va_rf r) := by
  cases r with
  | none => exact Or.inl rfl
  | some a => exact Or.inr ⟨a, rfl⟩
theorem jrv_c {v : Value} (h : jrv v) : v.category = 1 := by
  rcases h with rfl | ⟨a, rfl⟩ <;> rfl
/-- the kinds of arrays, and what the tables say beside the words -/
def jtys (G : jG) : List (ClassId × FieldType) := jtyl.zipIdx.map (fun q => (G.2.1 q.2, q.1))
def jZ (z : Nat) (A : Nat → Prop) (U : State) (H : Heap) : Prop := va_Z "TruthScan" "NO_TEXT" "[B" (.ref z) A U H ∧ va_T .byte z 0 (fun _ => .null) A U H
def jN (U : State) : Prop := (∀ w ∈ jnest, va_Nw w U) ∧ ∀ c ∈ jover, va_AO c U
theorem jN_warm {s U : State} (hW : s.WarmedH U.vm) (h : jN s) : jN U := by
  refine ⟨fun w hw => ?_, fun c hc => va_AO.moved hW.alike (h.2 c hc)⟩
  have h1 := h.1 w hw
  obtain ⟨a, i, x, b, rfl⟩ := jnest_kind w hw
  exact va_Nw.warmM hW h1
/-- the method's frame: what stands fast while it runs -/
def jC : jX → String → ByteArray → Nat × Nat → Option FieldType → Nat → Nat → Nat → Prop
  | (p, _, _, R, s, m, args, _, meth, c, G, A), own, cc, v, ret, d, mc, ms =>
    p.tables.exec = Jvm.exec ∧ c.code = cc ∧ c.maxLocals = v.1 ∧ s.vm.findClass own = some m.cls ∧ (∀ w ∈ jtbl, w.before args s = true) ∧ va_K G.1 vwCl (jtys G) s ∧ (∀ q, s.heap.size ≤ q → A q) ∧ meth.locks = false ∧ jZ G.2.2 A s s.heap ∧ jN s ∧ meth.sig.returnType = ret ∧ (d ≤ R.frames ∧ 40 * d ≤ R.locals ∧ mc ≤ R.cells ∧ ms ≤ R.slots)
/-- parts of the frame -/
abbrev xG (X : jX) : jG := X.2.2.2.2.2.2.2.2.2.2.1
def jname : jX → String
  | (_, _, _, _, _, _, _, _, meth, _, _, _) => meth.name
def J : jX → Nat × Nat → (State → Prop) → jw → Nat → Nat → Nat → List (Nat × Value) → List Value → Prop
  | (p, l, e, R, s, m, args, below, meth, c, G, A), v, Q, w, k, n, pc, lv, st =>
    ∀ (H : Heap) (locs : List Loc) (ls : Array Slot), va_P G.1 vwCl (jws w) H → va_D A (jws w) → va_S A s.heap H locs → jl ls v lv → W p l e R s m args below meth c H locs k n Q (F0 m pc ls st)
section JK
variable {X : jX} {own : String} {cc : ByteArray} {v : Nat × Nat} {ret : Option FieldType} {d0 mc ms : Nat} {Q : State → Prop} {w : jw} {k n pc t : Nat} {lv : List (Nat × Value)} {st : List Value}
theorem j_lv {lv' : List (Nat × Value)} {st' : List Value} (e : lv = lv') (e2 : st = st') (K : J X v Q w k n pc lv' st') : J X v Q w k n pc lv st := by
  subst e; subst e2; exact K
theorem j_sub {lv' : List (Nat × Value)} (hsub : ∀ q ∈ lv', q ∈ lv) (K : J X v Q w k n pc lv' st) : J X v Q w k n pc lv st := by
  obtain ⟨p, l, e, R, s, m, args, below, meth, c, G, A⟩ := X
  intro H locs ls hP hD hS hl
  exact K H locs ls hP hD hS ⟨⟨hl.1.1, hl.1.2.1, fun q hq => hl.1.2.2 q (hsub q hq)⟩, fun q hq => hl.2 q (hsub q hq)⟩
theorem j_pick {lv' : List (Nat × Value)} (ks : List Nat) (e : lv_pick lv ks = lv') (K : J X v Q w k n pc lv' st) : J X v Q w k n pc lv st := by
  refine j_sub (fun q hq => ?_) K
  rw [← e] at hq
  obtain ⟨i, -, hi⟩ := List.mem_filterMap.mp hq
  exact List.mem_of_getElem? hi
theorem j_wide {k' n' : Nat} (h1 : k ≤ k') (h2 : n ≤ n') (K : J X v Q w k' n' pc lv st) : J X v Q w k n pc lv st := by
  obtain ⟨p, l, e, R, s, m, args, below, meth, c, G, A⟩ := X
  intro H locs ls hP hD hS hl
  exact W.widen h1 h2 (K H locs ls hP hD hS hl)
theorem j_iconst {i : Int} {x : Int32} (C : jC X own cc v ret d0 mc ms) (d : decode cc pc = .ok (.iconst i, 1)) (hv : Int32.ofInt i = x) (ht : pc + 1 = t) (K : J X v Q w k n t lv (.int x :: st)) : J X v Q w k n pc lv (st) := by
  obtain ⟨p, l, e, R, s, m, args, below, meth, c, G, A⟩ := X
  intro H locs ls hP hD hS hl
  subst ht
  exact lv_iconst C.1 C.2.1 d hv (K H locs ls hP hD hS hl)
theorem j_bipush {i : Int} {x : Int32} (C : jC X own cc v ret d0 mc ms) (d : decode cc pc = .ok (.bipush i, 2)) (hv : (Int8.ofInt i).toInt32 = x) (ht : pc + 2 = t) (K : J X v Q w k n t lv (.int x :: st)) : J X v Q w k n pc lv (st) := by
  obtain ⟨p, l, e, R, s, m, args, below, meth, c, G, A⟩ := X
  intro H locs ls hP hD hS hl
  subst ht
  exact lv_bipush C.1 C.2.1 d hv (K H locs ls hP hD hS hl)
theorem j_sipush {i : Int} {x : Int32} (C : jC X own cc v ret d0 mc ms) (d : decode cc pc = .ok (.sipush i, 3)) (hv : (Int16.ofInt i).toInt32 = x) (ht : pc + 3 = t) (K : J X v Q w k n t lv (.int x :: st)) : J X v Q w k n pc lv (st) := by
  obtain ⟨p, l, e, R, s, m, args, below, meth, c, G, A⟩ := X
  intro H locs ls hP hD hS hl
  subst ht
  exact lv_sipush C.1 C.2.1 d hv (K H locs ls hP hD hS hl)
theorem j_lconst {i : Fin 2} {x : Int64} (C : jC X own cc v ret d0 mc ms) (d : decode cc pc = .ok (.lconst i, 1)) (hv : Int64.ofNat (i : Nat) = x) (ht : pc + 1 = t) (K : J X v Q w k n t lv (.long x :: st)) : J X v Q w k n pc lv (st) := by
  obtain ⟨p, l, e, R, s, m, args, below, meth, c, G, A⟩ := X
  intro H locs ls hP hD hS hl
  subst ht
  exact lv_lconst C.1 C.2.1 d hv (K H locs ls hP hD hS hl)
theorem j_null  (C : jC X own cc v ret d0 mc ms) (d : decode cc pc = .ok (.aconst_null, 1))  (ht : pc + 1 = t) (K : J X v Q w k n t lv (.null :: st)) : J X v Q w k n pc lv (st) := by
  obtain ⟨p, l, e, R, s, m, args, below, meth, c, G, A⟩ := X
  intro H locs ls hP hD hS hl
  subst ht
  exact lv_null C.1 C.2.1 d  (K H locs ls hP hD hS hl)
theorem j_iadd {x y : Int32} (C : jC X own cc v ret d0 mc ms) (d : decode cc pc = .ok (.iadd, 1))  (ht : pc + 1 = t) (K : J X v Q w k n t lv (.int (x + y) :: st)) : J X v Q w k n pc lv (.int y :: .int x :: st) := by
  obtain ⟨p, l, e, R, s, m, args, below, meth, c, G, A⟩ := X
  intro H locs ls hP hD hS hl
  subst ht
  exact lv_iadd C.1 C.2.1 d  (K H locs ls hP hD hS hl)
theorem j_isub {x y : Int32} (C : jC X own cc v ret d0 mc ms) (d : decode cc pc = .ok (.isub, 1))  (ht : pc + 1 = t) (K : J X v Q w k n t lv (.int (x - y) :: st)) : J X v Q w k n pc lv (.int y :: .int x :: st) := by
  obtain ⟨p, l, e, R, s, m, args, below, meth, c, G, A⟩ := X
  intro H locs ls hP hD hS hl
  subst ht
  exact lv_isub C.1 C.2.1 d  (K H locs ls hP hD hS hl)
theorem j_imul {x y : Int32} (C : jC X own cc v ret d0 mc ms) (d : decode cc pc = .ok (.imul, 1))  (ht : pc + 1 = t) (K : J X v Q w k n t lv (.int (x * y) :: st)) : J X v Q w k n pc lv (.int y :: .int x :: st) := by
  obtain ⟨p, l, e, R, s, m, args, below, meth, c, G, A⟩ := X
  intro H locs ls hP hD hS hl
  subst ht
  exact lv_imul C.1 C.2.1 d  (K H locs ls hP hD hS hl)
theorem j_iand {x y : Int32} (C : jC X own cc v ret d0 mc ms) (d : decode cc pc = .ok (.iand, 1))  (ht : pc + 1 = t) (K : J X v Q w k n t lv (.int (x &&& y) :: st)) : J X v Q w k n pc lv (.int y :: .int x :: st) := by
  obtain ⟨p, l, e, R, s, m, args, below, meth, c, G, A⟩ := X
  intro H locs ls hP hD hS hl
  subst ht
  exact lv_iand C.1 C.2.1 d  (K H locs ls hP hD hS hl)
theorem j_ior {x y : Int32} (C : jC X own cc v ret d0 mc ms) (d : decode cc pc = .ok (.ior, 1))  (ht : pc + 1 = t) (K : J X v Q w k n t lv (.int (x ||| y) :: st)) : J X v Q w k n pc lv (.int y :: .int x :: st) := by
  obtain ⟨p, l, e, R, s, m, args, below, meth, c, G, A⟩ := X
  intro H locs ls hP hD hS hl
  subst ht
  exact lv_ior C.1 C.2.1 d  (K H locs ls hP hD hS hl)
theorem j_ixor {x y : Int32} (C : jC X own cc v ret d0 mc ms) (d : decode cc pc = .ok (.ixor, 1))  (ht : pc + 1 = t) (K : J X v Q w k n t lv (.int (x ^^^ y) :: st)) : J X v Q w k n pc lv (.int y :: .int x :: st) := by
  obtain ⟨p, l, e, R, s, m, args, below, meth, c, G, A⟩ := X
  intro H locs ls hP hD hS hl
  subst ht
  exact lv_ixor C.1 C.2.1 d  (K H locs ls hP hD hS hl)
theorem j_ladd {x y : Int64} (C : jC X own cc v ret d0 mc ms) (d : decode cc pc = .ok (.ladd, 1))  (ht : pc + 1 = t) (K : J X v Q w k n t lv (.long (x + y) :: st)) : J X v Q w k n pc lv (.long y :: .long x :: st) := by
  obtain ⟨p, l, e, R, s, m, args, below, meth, c, G, A⟩ := X
  intro H locs ls hP hD hS hl
  subst ht
  exact lv_ladd C.1 C.2.1 d  (K H locs ls hP hD hS hl)
theorem j_lsub {x y : Int64} (C : jC X own cc v ret d0 mc ms) (d : decode cc pc = .ok (.lsub, 1))  (ht : pc + 1 = t) (K : J X v Q w k n t lv (.long (x - y) :: st)) : J X v Q w k n pc lv (.long y :: .long x :: st) := by
  obtain ⟨p, l, e, R, s, m, args, below, meth, c, G, A⟩ := X
  intro H locs ls hP hD hS hl
  subst ht
  exact lv_lsub C.1 C.2.1 d  (K H locs ls hP hD hS hl)
theorem j_land {x y : Int64} (C : jC X own cc v ret d0 mc ms) (d : decode cc pc = .ok (.land, 1))  (ht : pc + 1 = t) (K : J X v Q w k n t lv (.long (x &&& y) :: st)) : J X v Q w k n pc lv (.long y :: .long x :: st) := by
  obtain ⟨p, l, e, R, s, m, args, below, meth, c, G, A⟩ := X
  intro H locs ls hP hD hS hl
  subst ht
  exact lv_land C.1 C.2.1 d  (K H locs ls hP hD hS hl)
theorem j_lor {x y : Int64} (C : jC X own cc v ret d0 mc ms) (d : decode cc pc = .ok (.lor, 1))  (ht : pc + 1 = t) (K : J X v Q w k n t lv (.long (x ||| y) :: st)) : J X v Q w k n pc lv (.long y :: .long x :: st) := by
  obtain ⟨p, l, e, R, s, m, args, below, meth, c, G, A⟩ := X
  intro H locs ls hP hD hS hl
  subst ht
  exact lv_lor C.1 C.2.1 d  (K H locs ls hP hD hS hl)
theorem j_ishr {x y : Int32} (C : jC X own cc v ret d0 mc ms) (d : decode cc pc = .ok (.ishr, 1))  (ht : pc + 1 = t) (K : J X v Q w k n t lv (.int (x >>> (y &&& 31)) :: st)) : J X v Q w k n pc lv (.int y :: .int x :: st) := by
  obtain ⟨p, l, e, R, s, m, args, below, meth, c, G, A⟩ := X
  intro H locs ls hP hD hS hl
  subst ht
  exact lv_ishr C.1 C.2.1 d  (K H locs ls hP hD hS hl)
theorem j_ishl {x y : Int32} (C : jC X own cc v ret d0 mc ms) (d : decode cc pc = .ok (.ishl, 1))  (ht : pc + 1 = t) (K : J X v Q w k n t lv (.int (x <<< (y &&& 31)) :: st)) : J X v Q w k n pc lv (.int y :: .int x :: st) := by
  obtain ⟨p, l, e, R, s, m, args, below, meth, c, G, A⟩ := X
  intro H locs ls hP hD hS hl
  subst ht
  exact lv_ishl C.1 C.2.1 d  (K H locs ls hP hD hS hl)
theorem j_iushr {x y z : Int32} (C : jC X own cc v ret d0 mc ms) (d : decode cc pc = .ok (.iushr, 1)) (hv : (x.toUInt32 >>> (y.toUInt32 &&& Int32.toUInt32 31)).toInt32 = z) (ht : pc + 1 = t) (K : J X v Q w k n t lv (.int z :: st)) : J X v Q w k n pc lv (.int y :: .int x :: st) := by
  obtain ⟨p, l, e, R, s, m, args, below, meth, c, G, A⟩ := X
  intro H locs ls hP hD hS hl
  subst ht
  exact lv_iushr C.1 C.2.1 d hv (K H locs ls hP hD hS hl)
theorem j_lshl {x z : Int64} {y : Int32} (C : jC X own cc v ret d0 mc ms) (d : decode cc pc = .ok (.lshl, 1)) (hv : x <<< (y.toInt64 &&& 63) = z) (ht : pc + 1 = t) (K : J X v Q w k n t lv (.long z :: st)) : J X v Q w k n pc lv (.int y :: .long x :: st) := by
  obtain ⟨p, l, e, R, s, m, args, below, meth, c, G, A⟩ := X
  intro H locs ls hP hD hS hl
  subst ht
  exact lv_lshl C.1 C.2.1 d hv (K H locs ls hP hD hS hl)
theorem j_i2l {x : Int32} {z : Int64} (C : jC X own cc v ret d0 mc ms) (d : decode cc pc = .ok (.i2l, 1)) (hv : x.toInt64 = z) (ht : pc + 1 = t) (K : J X v Q w k n t lv (.long z :: st)) : J X v Q w k n pc lv (.int x :: st) := by
  obtain ⟨p, l, e, R, s, m, args, below, meth, c, G, A⟩ := X
  intro H locs ls hP hD hS hl
  subst ht
  exact lv_i2l C.1 C.2.1 d hv (K H locs ls hP hD hS hl)
theorem j_i2b {x z : Int32} (C : jC X own cc v ret d0 mc ms) (d : decode cc pc = .ok (.i2b, 1)) (hv : x.toInt8.toInt32 = z) (ht : pc + 1 = t) (K : J X v Q w k n t lv (.int z :: st)) : J X v Q w k n pc lv (.int x :: st) := by
  obtain ⟨p, l, e, R, s, m, args, below, meth, c, G, A⟩ := X
  intro H locs ls hP hD hS hl
  subst ht
  exact lv_i2b C.1 C.2.1 d hv (K H locs ls hP hD hS hl)
theorem j_irem {x y : Int32} (C : jC X own cc v ret d0 mc ms) (d : decode cc pc = .ok (.irem, 1)) (hne : ¬ y = 0) (ht : pc + 1 = t) (K : J X v Q w k n t lv (.int (x - x / y * y) :: st)) : J X v Q w k n pc lv (.int y :: .int x :: st) := by
  obtain ⟨p, l, e, R, s, m, args, below, meth, c, G, A⟩ := X
  intro H locs ls hP hD hS hl
  subst ht
  exact lv_irem C.1 C.2.1 d hne (K H locs ls hP hD hS hl)
theorem j_dup {u : Value} (C : jC X own cc v ret d0 mc ms) (d : decode cc pc = .ok (.dup, 1)) (hu : u.category = 1) (ht : pc + 1 = t) (K : J X v Q w k n t lv (u :: u :: st)) : J X v Q w k n pc lv (u :: st) := by
  obtain ⟨p, l, e, R, s, m, args, below, meth, c, G, A⟩ := X
  intro H locs ls hP hD hS hl
  subst ht
  exact lv_dup C.1 C.2.1 d hu (K H locs ls hP hD hS hl)
theorem j_pop {u : Value} (C : jC X own cc v ret d0 mc ms) (d : decode cc pc = .ok (.pop, 1)) (hu : u.category = 1) (ht : pc + 1 = t) (K : J X v Q w k n t lv (st)) : J X v Q w k n pc lv (u :: st) := by
  obtain ⟨p, l, e, R, s, m, args, below, meth, c, G, A⟩ := X
  intro H locs ls hP hD hS hl
  subst ht
  exact lv_pop C.1 C.2.1 d hu (K H locs ls hP hD hS hl)
theorem j_dup_x1 {u y : Value} (C : jC X own cc v ret d0 mc ms) (d : decode cc pc = .ok (.dup_x1, 1)) (hu : u.category = 1) (hy : y.category = 1) (ht : pc + 1 = t) (K : J X v Q w k n t lv (u :: y :: u :: st)) : J X v Q w k n pc lv (u :: y :: st) := by
  obtain ⟨p, l, e, R, s, m, args, below, meth, c, G, A⟩ := X
  intro H locs ls hP hD hS hl
  subst ht
  exact lv_dup_x1 C.1 C.2.1 d hu hy (K H locs ls hP hD hS hl)
theorem j_dup2 {u y : Value} (C : jC X own cc v ret d0 mc ms) (d : decode cc pc = .ok (.dup2, 1)) (hu : u.category = 1) (hy : y.category = 1) (ht : pc + 1 = t) (K : J X v Q w k n t lv (u :: y :: u :: y :: st)) : J X v Q w k n pc lv (u :: y :: st) := by
  obtain ⟨p, l, e, R, s, m, args, below, meth, c, G, A⟩ := X
  intro H locs ls hP hD hS hl
  subst ht
  exact lv_dup2_11 C.1 C.2.1 d hu hy (K H locs ls hP hD hS hl)
theorem j_lcmp {x y : Int64} (C : jC X own cc v ret d0 mc ms) (d : decode cc pc = .ok (.lcmp, 1)) (ht : pc + 1 = t) (K : J X v Q w k n t lv (.int (lg_cmp x y) :: st)) : J X v Q w k n pc lv (.long y :: .long x :: st) := by
  obtain ⟨p, l, e, R, s, m, args, below, meth, c, G, A⟩ := X
  intro H locs ls hP hD hS hl
  subst ht
  exact W.lcmp C.1 C.2.1 d (K H locs ls hP hD hS hl)
theorem j_iload_n {q : Fin 4} {i : Nat} {x : Int32} (C : jC X own cc v ret d0 mc ms) (d : decode cc pc = .ok (.iload_n q, 1)) (hi : (q : Nat) = i) (hg : jg lv i = some (.int x)) (ht : pc + 1 = t) (K : J X v Q w k n t lv (.int x :: st)) : J X v Q w k n pc lv st := by
  obtain ⟨p, l, e, R, s, m, args, below, meth, c, G, A⟩ := X
  intro H locs ls hP hD hS hl
  subst ht
  exact lv_iload_n C.1 C.2.1 d hi (jl_at hl hg) (K H locs ls hP hD hS hl)
theorem j_iload {i : Nat} {x : Int32} (C : jC X own cc v ret d0 mc ms) (d : decode cc pc = .ok (.iload i, 2)) (hg : jg lv i = some (.int x)) (ht : pc + 2 = t) (K : J X v Q w k n t lv (.int x :: st)) : J X v Q w k n pc lv st := by
  obtain ⟨p, l, e, R, s, m, args, below, meth, c, G, A⟩ := X
  intro H locs ls hP hD hS hl
  subst ht
  exact lv_iload C.1 C.2.1 d (jl_at hl hg) (K H locs ls hP hD hS hl)
theorem j_lload_n {q : Fin 4} {i : Nat} {x : Int64} (C : jC X own cc v ret d0 mc ms) (d : decode cc pc = .ok (.lload_n q, 1)) (hi : (q : Nat) = i) (hg : jg lv i = some (.long x)) (ht : pc + 1 = t) (K : J X v Q w k n t lv (.long x :: st)) : J X v Q w k n pc lv st := by
  obtain ⟨p, l, e, R, s, m, args, below, meth, c, G, A⟩ := X
  intro H locs ls hP hD hS hl
  subst ht
  exact lv_lload_n C.1 C.2.1 d hi (jl_at hl hg) (K H locs ls hP hD hS hl)
theorem j_lload {i : Nat} {x : Int64} (C : jC X own cc v ret d0 mc ms) (d : decode cc pc = .ok (.lload i, 2)) (hg : jg lv i = some (.long x)) (ht : pc + 2 = t) (K : J X v Q w k n t lv (.long x :: st)) : J X v Q w k n pc lv st := by
  obtain ⟨p, l, e, R, s, m, args, below, meth, c, G, A⟩ := X
  intro H locs ls hP hD hS hl
  subst ht
  exact lv_lload C.1 C.2.1 d (jl_at hl hg) (K H locs ls hP hD hS hl)
theorem j_aload_n {q : Fin 4} {i : Nat} {x : Value} (C : jC X own cc v ret d0 mc ms) (d : decode cc pc = .ok (.aload_n q, 1)) (hi : (q : Nat) = i) (hg : jg lv i = some x) (hx : jrv x) (ht : pc + 1 = t) (K : J X v Q w k n t lv (x :: st)) : J X v Q w k n pc lv st := by
  obtain ⟨p, l, e, R, s, m, args, below, meth, c, G, A⟩ := X
  intro H locs ls hP hD hS hl
  subst ht
  rcases hx with rfl | ⟨a, rfl⟩
  · exact lv_aload_nN C.1 C.2.1 d hi (jl_at hl hg) (K H locs ls hP hD hS hl)
  · exact lv_aload_n C.1 C.2.1 d hi (jl_at hl hg) (K H locs ls hP hD hS hl)
theorem j_aload {i : Nat} {x : Value} (C : jC X own cc v ret d0 mc ms) (d : decode cc pc = .ok (.aload i, 2)) (hg : jg lv i = some x) (hx : jrv x) (ht : pc + 2 = t) (K : J X v Q w k n t lv (x :: st)) : J X v Q w k n pc lv st := by
  obtain ⟨p, l, e, R, s, m, args, below, meth, c, G, A⟩ := X
  intro H locs ls hP hD hS hl
  subst ht
  rcases hx with rfl | ⟨a, rfl⟩
  · exact lv_aloadN C.1 C.2.1 d (jl_at hl hg) (K H locs ls hP hD hS hl)
  · exact lv_aload C.1 C.2.1 d (jl_at hl hg) (K H locs ls hP hD hS hl)
theorem j_istore_n {q : Fin 4} {i : Nat} {x : Int32} (C : jC X own cc v ret d0 mc ms) (d : decode cc pc = .ok (.istore_n q, 1)) (hi : (q : Nat) = i) (hb : i < v.1) (hz : v.2 + 1 ≠ i) {lv' : List (Nat × Value)} (hs : js lv i (.int x) = lv') (ht : pc + 1 = t) (K : J X v Q w k n t lv' st) : J X v Q w k n pc lv (.int x :: st) := by
  obtain ⟨p, l, e, R, s, m, args, below, meth, c, G, A⟩ := X
  intro H locs ls hP hD hS hl
  subst ht
  subst hs
  exact lv_istore_n C.1 C.2.1 d hi hl.1 hb rfl (fun ls' hl' => K H locs ls' hP hD hS (jl_set hl rfl hz hl'))
theorem j_istore {i : Nat} {x : Int32} (C : jC X own cc v ret d0 mc ms) (d : decode cc pc = .ok (.istore i, 2)) (hb : i < v.1) (hz : v.2 + 1 ≠ i) {lv' : List (Nat × Value)} (hs : js lv i (.int x) = lv') (ht : pc + 2 = t) (K : J X v Q w k n t lv' st) : J X v Q w k n pc lv (.int x :: st) := by
  obtain ⟨p, l, e, R, s, m, args, below, meth, c, G, A⟩ := X
  intro H locs ls hP hD hS hl
  subst ht
  subst hs
  exact lv_istore C.1 C.2.1 d hl.1 hb rfl (fun ls' hl' => K H locs ls' hP hD hS (jl_set hl rfl hz hl'))
theorem j_astore_n {q : Fin 4} {i : Nat} {x : Value} (C : jC X own cc v ret d0 mc ms) (d : decode cc pc = .ok (.astore_n q, 1)) (hi : (q : Nat) = i) (hx : jrv x) (hb : i < v.1) (hz : v.2 + 1 ≠ i) {lv' : List (Nat × Value)} (hs : js lv i (x) = lv') (ht : pc + 1 = t) (K : J X v Q w k n t lv' st) : J X v Q w k n pc lv (x :: st) := by
  obtain ⟨p, l, e, R, s, m, args, below, meth, c, G, A⟩ := X
  intro H locs ls hP hD hS hl
  subst ht
  subst hs
  rcases hx with rfl | ⟨a, rfl⟩
  · exact lv_astore_nN C.1 C.2.1 d hi hl.1 hb rfl (fun ls' hl' => K H locs ls' hP hD hS (jl_set hl rfl hz hl'))
  · exact lv_astore_n C.1 C.2.1 d hi hl.1 hb rfl (fun ls' hl' => K H locs ls' hP hD hS (jl_set hl rfl hz hl'))
theorem j_astore {i : Nat} {x : Value} (C : jC X own cc v ret d0 mc ms) (d : decode cc pc = .ok (.astore i, 2)) (hx : jrv x) (hb : i < v.1) (hz : v.2 + 1 ≠ i) {lv' : List (Nat × Value)} (hs : js lv i (x) = lv') (ht : pc + 2 = t) (K : J X v Q w k n t lv' st) : J X v Q w k n pc lv (x :: st) := by
  obtain ⟨p, l, e, R, s, m, args, below, meth, c, G, A⟩ := X
  intro H locs ls hP hD hS hl
  subst ht
  subst hs
  rcases hx with rfl | ⟨a, rfl⟩
  · exact lv_astoreN C.1 C.2.1 d hl.1 hb rfl (fun ls' hl' => K H locs ls' hP hD hS (jl_set hl rfl hz hl'))
  · exact lv_astore C.1 C.2.1 d hl.1 hb rfl (fun ls' hl' => K H locs ls' hP hD hS (jl_set hl rfl hz hl'))
theorem j_iinc {i : Nat} {c1 : Int} {x y : Int32} (C : jC X own cc v ret d0 mc ms) (d : decode cc pc = .ok (.iinc i c1, 3)) (hg : jg lv i = some (.int x)) (hv : x + Int32.ofInt c1 = y) (hb : i < v.1) (hz : v.2 + 1 ≠ i) {lv' : List (Nat × Value)} (hs : js lv i (.int y) = lv') (ht : pc + 3 = t) (K : J X v Q w k n t lv' st) : J X v Q w k n pc lv st := by
  obtain ⟨p, l, e, R, s, m, args, below, meth, c, G, A⟩ := X
  intro H locs ls hP hD hS hl
  subst ht
  subst hs
  obtain ⟨j, hj⟩ := List.getElem?_of_mem (jg_mem hg)
  exact lv_iinc C.1 C.2.1 d hl.1 hj hv hb rfl (fun ls' hl' => K H locs ls' hP hD hS (jl_set hl rfl hz hl'))
theorem j_if_eq {x : Int32} {off : Int} {tgt : Nat} (C : jC X own cc v ret d0 mc ms) (d : decode cc pc = .ok (.ifCond .eq off, 3)) (hg : (pc : Int) + off = (tgt : Int)) (ht : pc + 3 = t) (K1 : x = 0 → J X v Q w k n tgt lv st) (K2 : ¬ x = 0 → J X v Q w k n t lv st) : J X v Q w k n pc lv (.int x :: st) := by
  obtain ⟨p, l, e, R, s, m, args, below, meth, c, G, A⟩ := X
  intro H locs ls hP hD hS hl
  subst ht
  exact lv_if_eq C.1 C.2.1 d hg (fun q => K1 q H locs ls hP hD hS hl) (fun q => K2 q H locs ls hP hD hS hl)
theorem j_icmp_eq {x y : Int32} {off : Int} {tgt : Nat} (C : jC X own cc v ret d0 mc ms) (d : decode cc pc = .ok (.if_icmp .eq off, 3)) (hg : (pc : Int) + off = (tgt : Int)) (ht : pc + 3 = t) (K1 : x = y → J X v Q w k n tgt lv st) (K2 : ¬ x = y → J X v Q w k n t lv st) : J X v Q w k n pc lv (.int y :: .int x :: st) := by
  obtain ⟨p, l, e, R, s, m, args, below, meth, c, G, A⟩ := X
  intro H locs ls hP hD hS hl
  subst ht
  exact lv_icmp_eq C.1 C.2.1 d hg (fun q => K1 q H locs ls hP hD hS hl) (fun q => K2 q H locs ls hP hD hS hl)
theorem j_if_ne {x : Int32} {off : Int} {tgt : Nat} (C : jC X own cc v ret d0 mc ms) (d : decode cc pc = .ok (.ifCond .ne off, 3)) (hg : (pc : Int) + off = (tgt : Int)) (ht : pc + 3 = t) (K1 : ¬ x = 0 → J X v Q w k n tgt lv st) (K2 : x = 0 → J X v Q w k n t lv st) : J X v Q w k n pc lv (.int x :: st) := by
  obtain ⟨p, l, e, R, s, m, args, below, meth, c, G, A⟩ := X
  intro H locs ls hP hD hS hl
  subst ht
  exact lv_if_ne C.1 C.2.1 d hg (fun q => K1 q H locs ls hP hD hS hl) (fun q => K2 q H locs ls hP hD hS hl)
theorem j_icmp_ne {x y : Int32} {off : Int} {tgt : Nat} (C : jC X own cc v ret d0 mc ms) (d : decode cc pc = .ok (.if_icmp .ne off, 3)) (hg : (pc : Int) + off = (tgt : Int)) (ht : pc + 3 = t) (K1 : ¬ x = y → J X v Q w k n tgt lv st) (K2 : x = y → J X v Q w k n t lv st) : J X v Q w k n pc lv (.int y :: .int x :: st) := by
  obtain ⟨p, l, e, R, s, m, args, below, meth, c, G, A⟩ := X
  intro H locs ls hP hD hS hl
  subst ht
  exact lv_icmp_ne C.1 C.2.1 d hg (fun q => K1 q H locs ls hP hD hS hl) (fun q => K2 q H locs ls hP hD hS hl)
theorem j_if_lt {x : Int32} {off : Int} {tgt : Nat} (C : jC X own cc v ret d0 mc ms) (d : decode cc pc = .ok (.ifCond .lt off, 3)) (hg : (pc : Int) + off = (tgt : Int)) (ht : pc + 3 = t) (K1 : x < 0 → J X v Q w k n tgt lv st) (K2 : ¬ x < 0 → J X v Q w k n t lv st) : J X v Q w k n pc lv (.int x :: st) := by
  obtain ⟨p, l, e, R, s, m, args, below, meth, c, G, A⟩ := X
  intro H locs ls hP hD hS hl
  subst ht
  exact lv_if_lt C.1 C.2.1 d hg (fun q => K1 q H locs ls hP hD hS hl) (fun q => K2 q H locs ls hP hD hS hl)
theorem j_icmp_lt {x y : Int32} {off : Int} {tgt : Nat} (C : jC X own cc v ret d0 mc ms) (d : decode cc pc = .ok (.if_icmp .lt off, 3)) (hg : (pc : Int) + off = (tgt : Int)) (ht : pc + 3 = t) (K1 : x < y → J X v Q w k n tgt lv st) (K2 : ¬ x < y → J X v Q w k n t lv st) : J X v Q w k n pc lv (.int y :: .int x :: st) := by
  obtain ⟨p, l, e, R, s, m, args, below, meth, c, G, A⟩ := X
  intro H locs ls hP hD hS hl
  subst ht
  exact lv_icmp_lt C.1 C.2.1 d hg (fun q => K1 q H locs ls hP hD hS hl) (fun q => K2 q H locs ls hP hD hS hl)
theorem j_if_ge {x : Int32} {off : Int} {tgt : Nat} (C : jC X own cc v ret d0 mc ms) (d : decode cc pc = .ok (.ifCond .ge off, 3)) (hg : (pc : Int) + off = (tgt : Int)) (ht : pc + 3 = t) (K1 : 0 ≤ x → J X v Q w k n tgt lv st) (K2 : ¬ 0 ≤ x → J X v Q w k n t lv st) : J X v Q w k n pc lv (.int x :: st) := by
  obtain ⟨p, l, e, R, s, m, args, below, meth, c, G, A⟩ := X
  intro H locs ls hP hD hS hl
  subst ht
  exact lv_if_ge C.1 C.2.1 d hg (fun q => K1 q H locs ls hP hD hS hl) (fun q => K2 q H locs ls hP hD hS hl)
theorem j_icmp_ge {x y : Int32} {off : Int} {tgt : Nat} (C : jC X own cc v ret d0 mc ms) (d : decode cc pc = .ok (.if_icmp .ge off, 3)) (hg : (pc : Int) + off = (tgt : Int)) (ht : pc + 3 = t) (K1 : y ≤ x → J X v Q w k n tgt lv st) (K2 : ¬ y ≤ x → J X v Q w k n t lv st) : J X v Q w k n pc lv (.int y :: .int x :: st) := by
  obtain ⟨p, l, e, R, s, m, args, below, meth, c, G, A⟩ := X
  intro H locs ls hP hD hS hl
  subst ht
  exact lv_icmp_ge C.1 C.2.1 d hg (fun q => K1 q H locs ls hP hD hS hl) (fun q => K2 q H locs ls hP hD hS hl)
theorem j_if_gt {x : Int32} {off : Int} {tgt : Nat} (C : jC X own cc v ret d0 mc ms) (d : decode cc pc = .ok (.ifCond .gt off, 3)) (hg : (pc : Int) + off = (tgt : Int)) (ht : pc + 3 = t) (K1 : 0 < x → J X v Q w k n tgt lv st) (K2 : ¬ 0 < x → J X v Q w k n t lv st) : J X v Q w k n pc lv (.int x :: st) := by
  obtain ⟨p, l, e, R, s, m, args, below, meth, c, G, A⟩ := X
  intro H locs ls hP hD hS hl
  subst ht
  exact lv_if_gt C.1 C.2.1 d hg (fun q => K1 q H locs ls hP hD hS hl) (fun q => K2 q H locs ls hP hD hS hl)
theorem j_icmp_gt {x y : Int32} {off : Int} {tgt : Nat} (C : jC X own cc v ret d0 mc ms) (d : decode cc pc = .ok (.if_icmp .gt off, 3)) (hg : (pc : Int) + off = (tgt : Int)) (ht : pc + 3 = t) (K1 : y < x → J X v Q w k n tgt lv st) (K2 : ¬ y < x → J X v Q w k n t lv st) : J X v Q w k n pc lv (.int y :: .int x :: st) := by
  obtain ⟨p, l, e, R, s, m, args, below, meth, c, G, A⟩ := X
  intro H locs ls hP hD hS hl
  subst ht
  exact lv_icmp_gt C.1 C.2.1 d hg (fun q => K1 q H locs ls hP hD hS hl) (fun q => K2 q H locs ls hP hD hS hl)
theorem j_if_le {x : Int32} {off : Int} {tgt : Nat} (C : jC X own cc v ret d0 mc ms) (d : decode cc pc = .ok (.ifCond .le off, 3)) (hg : (pc : Int) + off = (tgt : Int)) (ht : pc + 3 = t) (K1 : x ≤ 0 → J X v Q w k n tgt lv st) (K2 : ¬ x ≤ 0 → J X v Q w k n t lv st) : J X v Q w k n pc lv (.int x :: st) := by
  obtain ⟨p, l, e, R, s, m, args, below, meth, c, G, A⟩ := X
  intro H locs ls hP hD hS hl
  subst ht
  exact lv_if_le C.1 C.2.1 d hg (fun q => K1 q H locs ls hP hD hS hl) (fun q => K2 q H locs ls hP hD hS hl)
theorem j_icmp_le {x y : Int32} {off : Int} {tgt : Nat} (C : jC X own cc v ret d0 mc ms) (d : decode cc pc = .ok (.if_icmp .le off, 3)) (hg : (pc : Int) + off = (tgt : Int)) (ht : pc + 3 = t) (K1 : x ≤ y → J X v Q w k n tgt lv st) (K2 : ¬ x ≤ y → J X v Q w k n t lv st) : J X v Q w k n pc lv (.int y :: .int x :: st) := by
  obtain ⟨p, l, e, R, s, m, args, below, meth, c, G, A⟩ := X
  intro H locs ls hP hD hS hl
  subst ht
  exact lv_icmp_le C.1 C.2.1 d hg (fun q => K1 q H locs ls hP hD hS hl) (fun q => K2 q H locs ls hP hD hS hl)
theorem j_goto {off : Int} {tgt : Nat} (C : jC X own cc v ret d0 mc ms) (d : decode cc pc = .ok (.goto off, 3)) (hg : (pc : Int) + off = (tgt : Int)) (K : J X v Q w k n tgt lv st) : J X v Q w k n pc lv st := by
  obtain ⟨p, l, e, R, s, m, args, below, meth, c, G, A⟩ := X
  intro H locs ls hP hD hS hl
  exact lv_goto C.1 C.2.1 d hg (K H locs ls hP hD hS hl)
theorem j_tableIn {dflt lo hi : Int} {offs : Array Int} {len : Nat} {x : Int32} {off : Int} {tgt : Nat} (C : jC X own cc v ret d0 mc ms) (d : decode cc pc = .ok (.tableswitch dflt lo hi offs, len)) (h1 : ¬ x.toInt < lo) (h2 : ¬ hi < x.toInt) (ho : offs[(x.toInt - lo).toNat]? = some off) (hg : (pc : Int) + off = (tgt : Int)) (K : J X v Q w k n tgt lv st) : J X v Q w k n pc lv (.int x :: st) := by
  obtain ⟨p, l, e, R, s, m, args, below, meth, c, G, A⟩ := X
  intro H locs ls hP hD hS hl
  exact lv_tableIn C.1 C.2.1 d h1 h2 ho hg (K H locs ls hP hD hS hl)
theorem j_tableOut {dflt lo hi : Int} {offs : Array Int} {len : Nat} {x : Int32} {tgt : Nat} (C : jC X own cc v ret d0 mc ms) (d : decode cc pc = .ok (.tableswitch dflt lo hi offs, len)) (h : x.toInt < lo ∨ hi < x.toInt) (hg : (pc : Int) + dflt = (tgt : Int)) (K : J X v Q w k n tgt lv st) : J X v Q w k n pc lv (.int x :: st) := by
  obtain ⟨p, l, e, R, s, m, args, below, meth, c, G, A⟩ := X
  intro H locs ls hP hD hS hl
  exact lv_tableOut C.1 C.2.1 d h hg (K H locs ls hP hD hS hl)
theorem j_ifnull {r : Option Nat} {off : Int} {tgt : Nat} (C : jC X own cc v ret d0 mc ms) (d : decode cc pc = .ok (.ifnull off, 3)) (hg : (pc : Int) + off = (tgt : Int)) (ht : pc + 3 = t) (K1 : r = none → J X v Q w k n tgt lv st) (K2 : ∀ a, r = some a → J X v Q w k n t lv st) : J X v Q w k n pc lv (va_rf r :: st) := by
  obtain ⟨p, l, e, R, s, m, args, below, meth, c, G, A⟩ := X
  intro H locs ls hP hD hS hl
  subst ht
  cases r with
  | none => exact lv_ifnullN C.1 C.2.1 d hg (K1 rfl H locs ls hP hD hS hl)
  | some a => exact lv_ifnull C.1 C.2.1 d (K2 a rfl H locs ls hP hD hS hl)
theorem j_ifnonnull {r : Option Nat} {off : Int} {tgt : Nat} (C : jC X own cc v ret d0 mc ms) (d : decode cc pc = .ok (.ifnonnull off, 3)) (hg : (pc : Int) + off = (tgt : Int)) (ht : pc + 3 = t) (K1 : ∀ a, r = some a → J X v Q w k n tgt lv st) (K2 : r = none → J X v Q w k n t lv st) : J X v Q w k n pc lv (va_rf r :: st) := by
  obtain ⟨p, l, e, R, s, m, args, below, meth, c, G, A⟩ := X
  intro H locs ls hP hD hS hl
  subst ht
  cases r with
  | none => exact lv_ifnonnullN C.1 C.2.1 d (K2 rfl H locs ls hP hD hS hl)
  | some a => exact lv_ifnonnull C.1 C.2.1 d hg (K1 a rfl H locs ls hP hD hS hl)
theorem j_ldc {i : Nat} {x : Int32} (C : jC X own cc v ret d0 mc ms) (d : decode cc pc = .ok (.ldc i, 2)) (hc : Jvm.Cond.constant own i x ∈ jtbl) (ht : pc + 2 = t) (K : J X v Q w k n t lv (.int x :: st)) : J X v Q w k n pc lv st := by
  obtain ⟨p, l, e, R, s, m, args, below, meth, c, G, A⟩ := X
  intro H locs ls hP hD hS hl
  subst ht
  exact lv_ldc C.1 C.2.1 C.2.2.2.1 (C.2.2.2.2.1 _ hc) d (K H locs ls hP hD hS hl)
theorem j_ldc2 {i : Nat} {x : Int64} (C : jC X own cc v ret d0 mc ms) (d : decode cc pc = .ok (.ldc2_w i, 3)) (hc : Jvm.Cond.constantLong own i x ∈ jtbl) (ht : pc + 3 = t) (K : J X v Q w k n t lv (.long x :: st)) : J X v Q w k n pc lv st := by
  obtain ⟨p, l, e, R, s, m, args, below, meth, c, G, A⟩ := X
  intro H locs ls hP hD hS hl
  subst ht
  exact lv_ldc2 C.1 C.2.1 C.2.2.2.1 (C.2.2.2.2.1 _ hc) d (K H locs ls hP hD hS hl)
theorem jh_at {a : Nat} {e : va_E} (h : jh w a e) : ∃ q : Nat, (jws w)[q]? = some (a, e) := by
  obtain ⟨q, hq⟩ := va_pl_get (X := []) (f := w.2) h.1
  exact ⟨q, by rw [h.2] at hq; exact hq⟩
theorem jws_set {A : Nat → Prop} {a q : Nat} {e e0 : va_E} (hD : va_D A (jws w)) (h : jh w a e0) (hq : (jws w)[q]? = some (a, e0)) : (jws w).set q (a, e) = jws (ju w a e) := by
  have h1 := va_pl_set (X := []) (e := e) (f := w.2) (L := w.1) (a := a) (k := q) (A := A) hD h.1 (by rw [h.2]; exact hq)
  exact h1
theorem jws_new {a : Nat} {e : va_E} (h : a ∉ w.1) : jws w ++ [(a, e)] = jws (jn w a e) := va_pl_push h
theorem jws_fresh {A : Nat → Prop} {a : Nat} {e : va_E} (hD : va_D A (jws w ++ [(a, e)])) : a ∉ w.1 := va_pl_fresh2 (X := []) (f := w.2) hD
/-- a field: pool entry 'idx' of class 'own' is field kx of class ci -/
def jF (own : String) (idx ci kx : Nat) : Prop := ∃ q : vw_C, vwCl[ci]? = some q ∧ kx < q.2.2 ∧ Cond.fieldLink own idx (q.2.1 kx).1 (q.2.1 kx).2.1 (q.2.1 kx).2.2.1 ∈ jtbl ∧ ∀ y ∈ u_ws q.1 q.2.1 q.2.2, y ∈ jtbl
def jFp (own : String) (idx ci kx : Nat) (fin : Bool) (ty : FieldType) : Prop := ∃ q : vw_C, vwCl[ci]? = some q ∧ kx < q.2.2 ∧ Cond.fieldLink own idx (q.2.1 kx).1 (q.2.1 kx).2.1 (q.2.1 kx).2.2.1 ∈ jtbl ∧ (∀ y ∈ u_ws q.1 q.2.1 q.2.2, y ∈ jtbl) ∧ (q.2.1 kx).2.2.2 = fin ∧ parseFieldDescriptor (q.2.1 kx).2.2.1 = some ty ∧ (fin = true → (q.2.1 kx).1 = own) ∧ (∃ ty0 : Nat → FieldType, ∀ j, j < q.2.2 → parseFieldDescriptor (q.2.1 j).2.2.1 = some (ty0 j)) ∧ ∀ a, a < q.2.2 → ∀ b, b < q.2.2 → a ≠ b → (q.2.1 a).2.1 ≠ (q.2.1 b).2.1
theorem j_get {a ci kx idx : Nat} {fs : List Value} {x : Value} (C : jC X own cc v ret d0 mc ms) (f : jF own idx ci kx) (d : decode cc pc = .ok (.getfield idx, 3)) (hh : jh w a (eO ci fs)) (hx : fs[kx]? = some x) (ht : pc + 3 = t) (K : J X v Q w k n t lv (x :: st)) : J X v Q w k n pc lv (.ref a :: st) := by
  obtain ⟨p, l, e, R, s, m, args, below, meth, c, G, A⟩ := X
  intro H locs ls hP hD hS hl
  subst ht
  obtain ⟨⟨c0, T, N⟩, f1, f2, f3, f4⟩ := f
  obtain ⟨q, hq⟩ := jh_at hh
  exact va_get C.1 C.2.1 C.2.2.2.2.1 f4 C.2.2.2.1 C.2.2.2.2.2.1 hP q hq f1 kx f2 (C.2.2.2.2.1 _ f3) (fun _ z => z) hx d (K H locs ls hP hD hS hl)
theorem j_put {a ci kx idx : Nat} {fs : List Value} {x : Value} {ty : FieldType} (C : jC X own cc v ret d0 mc ms) (f : jFp own idx ci kx false ty) (d : decode cc pc = .ok (.putfield idx, 3)) (hh : jh w a (eO ci fs)) (hn : narrow ty x = x) (hf : fits ty x = true) (hlen : kx < fs.length) (ht : pc + 3 = t) (K : J X v Q (ju w a (eO ci (fs.set kx x))) k n t lv st) : J X v Q w k n pc lv (x :: .ref a :: st) := by
  obtain ⟨p, l, e, R, s, m, args, below, meth, c, G, A⟩ := X
  intro H locs ls hP hD hS hl
  subst ht
  obtain ⟨⟨c0, T, N⟩, f1, f2, f3, f4, f5, f6, f7, ⟨ty0, f8⟩, f9⟩ := f
  obtain ⟨q, hq⟩ := jh_at hh
  exact va_put C.1 C.2.1 C.2.2.2.2.1 f4 ty0 f8 f9 C.2.2.2.1 C.2.2.2.2.2.1 hP hD hS q hq f1 kx f2 (C.2.2.2.2.1 _ f3) (fun _ z => z) f5 f6 hn hf hlen d (fun H1 locs1 hP1 hD1 hS1 => K H1 locs1 ls (by rw [← jws_set hD hh hq]; exact hP1) (by rw [← jws_set hD hh hq]; exact hD1) hS1 hl)
theorem j_putF {a ci kx idx : Nat} {fs : List Value} {x : Value} {ty : FieldType} (C : jC X own cc v ret d0 mc ms) (hin : jname X = "<init>") (f : jFp own idx ci kx true ty) (d : decode cc pc = .ok (.putfield idx, 3)) (hh : jh w a (eO ci fs)) (hn : narrow ty x = x) (hf : fits ty x = true) (hlen : kx < fs.length) (ht : pc + 3 = t) (K : J X v Q (ju w a (eO ci (fs.set kx x))) k n t lv st) : J X v Q w k n pc lv (x :: .ref a :: st) := by
  obtain ⟨p, l, e, R, s, m, args, below, meth, c, G, A⟩ := X
  intro H locs ls hP hD hS hl
  subst ht
  obtain ⟨⟨c0, T, N⟩, f1, f2, f3, f4, f5, f6, f7, ⟨ty0, f8⟩, f9⟩ := f
  obtain ⟨q, hq⟩ := jh_at hh
  exact va_putF C.1 C.2.1 C.2.2.2.2.1 f4 ty0 f8 f9 C.2.2.2.1 C.2.2.2.2.2.1 hP hD hS q hq f1 kx f2 (C.2.2.2.2.1 _ f3) (fun _ z => z) f5 hin (f7 rfl) f6 hn hf hlen d (fun H1 locs1 hP1 hD1 hS1 => K H1 locs1 ls (by rw [← jws_set hD hh hq]; exact hP1) (by rw [← jws_set hD hh hq]; exact hD1) hS1 hl)
theorem jty {G : jG} {i : Nat} {ty : FieldType} (h : jtyl[i]? = some ty) : (jtys G)[i]? = some (G.2.1 i, ty) := by
  unfold jtys
  rw [List.getElem?_map, List.getElem?_zipIdx, h]
  simp
theorem j_iaload {a N : Nat} {f : Nat → Int32} {i : Int32} (C : jC X own cc v ret d0 mc ms) (d : decode cc pc = .ok (.iaload, 1)) (hh : jh w a (eI (xG X) N f)) (hi : vp_in i N) (ht : pc + 1 = t) (K : J X v Q w k n t lv (.int (f i.toNatClampNeg) :: st)) : J X v Q w k n pc lv (.int i :: .ref a :: st) := by
  obtain ⟨p, l, e, R, s, m, args, below, meth, c, G, A⟩ := X
  intro H locs ls hP hD hS hl
  subst ht
  obtain ⟨q, hq⟩ := jh_at hh
  exact va_iald C.1 C.2.1 C.2.2.2.2.2.1 hP q 0 hq (jty rfl) hi d (K H locs ls hP hD hS hl)
theorem j_iastore {a N : Nat} {f : Nat → Int32} {i : Int32} {x : Int32} (C : jC X own cc v ret d0 mc ms) (d : decode cc pc = .ok (.iastore, 1)) (hh : jh w a (eI (xG X) N f)) (hi : vp_in i N) (ht : pc + 1 = t) (K : J X v Q (ju w a (eI (xG X) N (upd f i.toNatClampNeg x))) k n t lv st) : J X v Q w k n pc lv (.int x :: .int i :: .ref a :: st) := by
  obtain ⟨p, l, e, R, s, m, args, below, meth, c, G, A⟩ := X
  intro H locs ls hP hD hS hl
  subst ht
  obtain ⟨q, hq⟩ := jh_at hh
  exact va_iast C.1 C.2.1 C.2.2.2.2.2.1 hP hD hS q 0 hq (jty rfl) hi d (fun H1 locs1 hP1 hD1 hS1 => K H1 locs1 ls (by rw [← jws_set hD hh hq]; exact hP1) (by rw [← jws_set hD hh hq]; exact hD1) hS1 hl)
theorem j_baload {a N : Nat} {f : Nat → Int32} {i : Int32} (C : jC X own cc v ret d0 mc ms) (d : decode cc pc = .ok (.baload, 1)) (hh : jh w a (eB (xG X) N f)) (hi : vp_in i N) (ht : pc + 1 = t) (K : J X v Q w k n t lv (.int (f i.toNatClampNeg) :: st)) : J X v Q w k n pc lv (.int i :: .ref a :: st) := by
  obtain ⟨p, l, e, R, s, m, args, below, meth, c, G, A⟩ := X
  intro H locs ls hP hD hS hl
  subst ht
  obtain ⟨q, hq⟩ := jh_at hh
  exact va_bald C.1 C.2.1 C.2.2.2.2.2.1 hP q 1 hq (jty rfl) hi d (K H locs ls hP hD hS hl)
theorem j_bastore {a N : Nat} {f : Nat → Int32} {i : Int32} {x : Int32} (C : jC X own cc v ret d0 mc ms) (d : decode cc pc = .ok (.bastore, 1)) (hh : jh w a (eB (xG X) N f)) (hi : vp_in i N) (ht : pc + 1 = t) (K : J X v Q (ju w a (eB (xG X) N (upd f i.toNatClampNeg (vp_nar .byte x)))) k n t lv st) : J X v Q w k n pc lv (.int x :: .int i :: .ref a :: st) := by
  obtain ⟨p, l, e, R, s, m, args, below, meth, c, G, A⟩ := X
  intro H locs ls hP hD hS hl
  subst ht
  obtain ⟨q, hq⟩ := jh_at hh
  exact va_bast C.1 C.2.1 C.2.2.2.2.2.1 hP hD hS q 1 hq (jty rfl) hi d (fun H1 locs1 hP1 hD1 hS1 => K H1 locs1 ls (by rw [← jws_set hD hh hq]; exact hP1) (by rw [← jws_set hD hh hq]; exact hD1) hS1 hl)
theorem j_laload {a N : Nat} {f : Nat → Int64} {i : Int32} (C : jC X own cc v ret d0 mc ms) (d : decode cc pc = .ok (.laload, 1)) (hh : jh w a (eL (xG X) N f)) (hi : vp_in i N) (ht : pc + 1 = t) (K : J X v Q w k n t lv (.long (f i.toNatClampNeg) :: st)) : J X v Q w k n pc lv (.int i :: .ref a :: st) := by
  obtain ⟨p, l, e, R, s, m, args, below, meth, c, G, A⟩ := X
  intro H locs ls hP hD hS hl
  subst ht
  obtain ⟨q, hq⟩ := jh_at hh
  exact va_lald C.1 C.2.1 C.2.2.2.2.2.1 hP q 2 hq (jty rfl) hi d (K H locs ls hP hD hS hl)
theorem j_lastore {a N : Nat} {f : Nat → Int64} {i : Int32} {x : Int64} (C : jC X own cc v ret d0 mc ms) (d : decode cc pc = .ok (.lastore, 1)) (hh : jh w a (eL (xG X) N f)) (hi : vp_in i N) (ht : pc + 1 = t) (K : J X v Q (ju w a (eL (xG X) N (vp_updL f i.toNatClampNeg x))) k n t lv st) : J X v Q w k n pc lv (.long x :: .int i :: .ref a :: st) := by
  obtain ⟨p, l, e, R, s, m, args, below, meth, c, G, A⟩ := X
  intro H locs ls hP hD hS hl
  subst ht
  obtain ⟨q, hq⟩ := jh_at hh
  exact va_last C.1 C.2.1 C.2.2.2.2.2.1 hP hD hS q 2 hq (jty rfl) hi d (fun H1 locs1 hP1 hD1 hS1 => K H1 locs1 ls (by rw [← jws_set hD hh hq]; exact hP1) (by rw [← jws_set hD hh hq]; exact hD1) hS1 hl)
theorem j_zaload {a N : Nat} {f : Nat → Int32} {i : Int32} (C : jC X own cc v ret d0 mc ms) (d : decode cc pc = .ok (.baload, 1)) (hh : jh w a (eZ (xG X) N f)) (hi : vp_in i N) (ht : pc + 1 = t) (K : J X v Q w k n t lv (.int (f i.toNatClampNeg) :: st)) : J X v Q w k n pc lv (.int i :: .ref a :: st) := by
  obtain ⟨p, l, e, R, s, m, args, below, meth, c, G, A⟩ := X
  intro H locs ls hP hD hS hl
  subst ht
  obtain ⟨q, hq⟩ := jh_at hh
  exact va_zald C.1 C.2.1 C.2.2.2.2.2.1 hP q 3 hq (jty rfl) hi d (K H locs ls hP hD hS hl)
theorem j_zastore {a N : Nat} {f : Nat → Int32} {i : Int32} {x : Int32} (C : jC X own cc v ret d0 mc ms) (d : decode cc pc = .ok (.bastore, 1)) (hh : jh w a (eZ (xG X) N f)) (hi : vp_in i N) (ht : pc + 1 = t) (K : J X v Q (ju w a (eZ (xG X) N (upd f i.toNatClampNeg (vp_nar .boolean x)))) k n t lv st) : J X v Q w k n pc lv (.int x :: .int i :: .ref a :: st) := by
  obtain ⟨p, l, e, R, s, m, args, below, meth, c, G, A⟩ := X
  intro H locs ls hP hD hS hl
  subst ht
  obtain ⟨q, hq⟩ := jh_at hh
  exact va_zast C.1 C.2.1 C.2.2.2.2.2.1 hP hD hS q 3 hq (jty rfl) hi d (fun H1 locs1 hP1 hD1 hS1 => K H1 locs1 ls (by rw [← jws_set hD hh hq]; exact hP1) (by rw [← jws_set hD hh hq]; exact hD1) hS1 hl)
theorem j_aaload {a N tk : Nat} {cn : String} {f : Nat → Option Nat} {i : Int32} (C : jC X own cc v ret d0 mc ms) (d : decode cc pc = .ok (.aaload, 1)) (hh : jh w a (eR (xG X) tk N f)) (hk : jtyl[tk]? = some (.object cn)) (hi : vp_in i N) (ht : pc + 1 = t) (K : J X v Q w k n t lv (va_rf (f i.toNatClampNeg) :: st)) : J X v Q w k n pc lv (.int i :: .ref a :: st) := by
  obtain ⟨p, l, e, R, s, m, args, below, meth, c, G, A⟩ := X
  intro H locs ls hP hD hS hl
  subst ht
  obtain ⟨q, hq⟩ := jh_at hh
  exact va_aldq C.1 C.2.1 C.2.2.2.2.2.1 hP q tk hq (jty hk) hi d (K H locs ls hP hD hS hl)
theorem j_aastore {a b N tk ci : Nat} {fs : List Value} {r : vw_C} {f : Nat → Option Nat} {i : Int32} (C : jC X own cc v ret d0 mc ms) (d : decode cc pc = .ok (.aastore, 1)) (hh : jh w a (eR (xG X) tk N f)) (hb : jh w b (eO ci fs)) (hc : vwCl[ci]? = some r) (hk : jtyl[tk]? = some (.object r.1)) (hi : vp_in i N) (ht : pc + 1 = t) (K : J X v Q (ju w a (eR (xG X) tk N (va_up f i.toNatClampNeg (some b)))) k n t lv st) : J X v Q w k n pc lv (.ref b :: .int i :: .ref a :: st) := by
  obtain ⟨p, l, e, R, s, m, args, below, meth, c, G, A⟩ := X
  intro H locs ls hP hD hS hl
  subst ht
  obtain ⟨q, hq⟩ := jh_at hh
  obtain ⟨q2, hq2⟩ := jh_at hb
  exact va_astq C.1 C.2.1 C.2.2.2.2.2.1 hP hD hS q tk q2 ci hq (jty hk) hq2 hc hi d (fun H1 locs1 hP1 hD1 hS1 => K H1 locs1 ls (by rw [← jws_set hD hh hq]; exact hP1) (by rw [← jws_set hD hh hq]; exact hD1) hS1 hl)
theorem j_aastoreN {a N tk : Nat} {cn : String} {f : Nat → Option Nat} {i : Int32} (C : jC X own cc v ret d0 mc ms) (d : decode cc pc = .ok (.aastore, 1)) (hh : jh w a (eR (xG X) tk N f)) (hk : jtyl[tk]? = some (.object cn)) (hi : vp_in i N) (ht : pc + 1 = t) (K : J X v Q (ju w a (eR (xG X) tk N (va_up f i.toNatClampNeg none))) k n t lv st) : J X v Q w k n pc lv (.null :: .int i :: .ref a :: st) := by
  obtain ⟨p, l, e, R, s, m, args, below, meth, c, G, A⟩ := X
  intro H locs ls hP hD hS hl
  subst ht
  obtain ⟨q, hq⟩ := jh_at hh
  exact va_astqN C.1 C.2.1 C.2.2.2.2.2.1 hP hD hS q tk hq (jty hk) hi d (fun H1 locs1 hP1 hD1 hS1 => K H1 locs1 ls (by rw [← jws_set hD hh hq]; exact hP1) (by rw [← jws_set hD hh hq]; exact hD1) hS1 hl)
/-- an array's length, by the kind's number -/
theorem j_alen {a N tk : Nat} {ty : FieldType} {f : (Nat → Int32) ⊕ (Nat → Int64) ⊕ (Nat → UInt32) ⊕ (Nat → UInt64) ⊕ (Nat → Option Nat)} (C : jC X own cc v ret d0 mc ms) (d : decode cc pc = .ok (.arraylength, 1)) (hh : jh w a (.inl ((xG X).2.1 tk, N, f))) (hk : jtyl[tk]? = some ty) (ht : pc + 1 = t) (K : J X v Q w k n t lv (.int (nI N) :: st)) : J X v Q w k n pc lv (.ref a :: st) := by
  obtain ⟨p, l, e, R, s, m, args, below, meth, c, G, A⟩ := X
  intro H locs ls hP hD hS hl
  subst ht
  obtain ⟨q, hq⟩ := jh_at hh
  exact va_alen C.1 C.2.1 C.2.2.2.2.2.1 hP q tk hq (jty hk) rfl d (K H locs ls hP hD hS hl)
theorem j_zlen (C : jC X own cc v ret d0 mc ms) (d : decode cc pc = .ok (.arraylength, 1)) (ht : pc + 1 = t) (K : J X v Q w k n t lv (.int 0 :: st)) : J X v Q w k n pc lv (.ref (xG X).2.2 :: st) := by
  obtain ⟨p, l, e, R, s, m, args, below, meth, c, G, A⟩ := X
  intro H locs ls hP hD hS hl
  subst ht
  exact va_tlen C.1 C.2.1 C.2.2.2.2.2.2.2.2.1.2 hS rfl d (K H locs ls hP hD hS hl)
/-- the static NO_TEXT -/
theorem j_getz {idx : Nat} (C : jC X own cc v ret d0 mc ms) (d : decode cc pc = .ok (.getstatic idx, 3)) (f : Cond.fieldLink own idx "TruthScan" "NO_TEXT" "[B" ∈ jtbl) (ht : pc + 3 = t) (K : J X v Q w k n t lv (.ref (xG X).2.2 :: st)) : J X v Q w k n pc lv st := by
  obtain ⟨p, l, e, R, s, m, args, below, meth, c, G, A⟩ := X
  intro H locs ls hP hD hS hl
  subst ht
  exact va_gets C.1 C.2.1 C.2.2.2.2.2.2.2.2.1.1 hS C.2.2.2.1 (C.2.2.2.2.1 _ f) (fun _ z => z) d (K H locs ls hP hD hS hl)
def jNw (own : String) (idx ci : Nat) (fs : List Value) : Prop := ∃ (q : vw_C) (ty : Nat → FieldType), vwCl[ci]? = some q ∧ (∀ y ∈ u_ws q.1 q.2.1 q.2.2, y ∈ jtbl) ∧ (∀ j, j < q.2.2 → parseFieldDescriptor (q.2.1 j).2.2.1 = some (ty j)) ∧ Cond.classLink own idx q.1 ∈ jtbl ∧ Cond.instantiable q.1 q.2.2 ∈ jtbl ∧ Cond.initialized q.1 ∈ jtbl ∧ (∀ j, j < q.2.2 → defaultValue (ty j) = vp_V fs j) ∧ q.2.2 = fs.length
theorem j_new {idx ci : Nat} {fs : List Value} (C : jC X own cc v ret d0 mc ms) (f : jNw own idx ci fs) (d : decode cc pc = .ok (.new idx, 3)) (hk : k + 1 ≤ mc) (hn : n + fs.length ≤ ms) (ht : pc + 3 = t) (K : ∀ a, a ∉ w.1 → J X v Q (jn w a (eO ci fs)) (k + 1) (n + fs.length) t lv (.ref a :: st)) : J X v Q w k n pc lv st := by
  obtain ⟨p, l, e, R, s, m, args, below, meth, c, G, A⟩ := X
  intro H locs ls hP hD hS hl
  subst ht
  obtain ⟨⟨c0, T, N⟩, ty, f1, f2, f3, f4, f5, f6, f7, f8⟩ := f
  simp only at f8
  subst f8
  have hR := C.2.2.2.2.2.2.2.2.2.2.2
  exact va_new C.1 C.2.1 C.2.2.2.2.1 f2 ty f3 C.2.2.2.1 (C.2.2.2.2.1 _ f4) (C.2.2.2.2.1 _ f5) (C.2.2.2.2.1 _ f6) C.2.2.2.2.2.1 hP hD hS C.2.2.2.2.2.2.1 f1 f7 (Nat.le_trans hk hR.2.2.1) (Nat.le_trans hn hR.2.2.2) d (fun a H1 hP1 hD1 hS1 => by
    have ha := jws_fresh hD1
    rw [jws_new ha] at hP1 hD1
    exact K a ha H1 locs ls hP1 hD1 hS1 hl)
theorem j_newI {i : Int32} {N : Nat} (C : jC X own cc v ret d0 mc ms) (d : decode cc pc = .ok (.newarray .int, 2)) (hw : Cond.arrayClass .int ∈ jtbl) (hi : i = nI N) (hN : N < 1000000) (hk : k + 1 ≤ mc) (hn : n + N ≤ ms) (ht : pc + 2 = t) (K : ∀ a, a ∉ w.1 → J X v Q (jn w a (eI (xG X) N (fun _ => 0))) (k + 1) (n + N) t lv (.ref a :: st)) : J X v Q w k n pc lv (.int i :: st) := by
  obtain ⟨p, l, e, R, s, m, args, below, meth, c, G, A⟩ := X
  intro H locs ls hP hD hS hl
  subst ht
  subst hi
  have hR := C.2.2.2.2.2.2.2.2.2.2.2
  have hKs := C.2.2.2.2.2.1
  exact va_newa (atype := .int) (ty := .int) C.1 C.2.1 (C.2.2.2.2.1 _ hw) rfl hKs hP hD hS C.2.2.2.2.2.2.1 (a0 := (N, .inl (fun _ => 0))) (fun cA => rfl) (nI_pos (by omega)) (nI_clamp (by omega)) (show N * 4 ≤ 536870912 by omega) (Nat.le_trans hk hR.2.2.1) (Nat.le_trans hn hR.2.2.2) d (fun a cA H1 hK1 hP1 hD1 hS1 => by
    have h1 := (hK1.2 (jtys G).length (cA, .int) (by simp)).2
    have h2 := (hKs.2 0 _ (jty rfl)).2
    have hc : cA = G.2.1 0 := Option.some.inj (h1.symm.trans h2)
    subst hc
    have ha := jws_fresh hD1
    rw [jws_new ha] at hP1 hD1
    exact K a ha H1 locs ls hP1 hD1 hS1 hl)
theorem j_newB {i : Int32} {N : Nat} (C : jC X own cc v ret d0 mc ms) (d : decode cc pc = .ok (.newarray .byte, 2)) (hw : Cond.arrayClass .byte ∈ jtbl) (hi : i = nI N) (hN : N < 1000000) (hk : k + 1 ≤ mc) (hn : n + N ≤ ms) (ht : pc + 2 = t) (K : ∀ a, a ∉ w.1 → J X v Q (jn w a (eB (xG X) N (fun _ => 0))) (k + 1) (n + N) t lv (.ref a :: st)) : J X v Q w k n pc lv (.int i :: st) := by
  obtain ⟨p, l, e, R, s, m, args, below, meth, c, G, A⟩ := X
  intro H locs ls hP hD hS hl
  subst ht
  subst hi
  have hR := C.2.2.2.2.2.2.2.2.2.2.2
  have hKs := C.2.2.2.2.2.1
  exact va_newa (atype := .byte) (ty := .byte) C.1 C.2.1 (C.2.2.2.2.1 _ hw) rfl hKs hP hD hS C.2.2.2.2.2.2.1 (a0 := (N, .inl (fun _ => 0))) (fun cA => rfl) (nI_pos (by omega)) (nI_clamp (by omega)) (show N * 1 ≤ 536870912 by omega) (Nat.le_trans hk hR.2.2.1) (Nat.le_trans hn hR.2.2.2) d (fun a cA H1 hK1 hP1 hD1 hS1 => by
    have h1 := (hK1.2 (jtys G).length (cA, .byte) (by simp)).2
    have h2 := (hKs.2 1 _ (jty rfl)).2
    have hc : cA = G.2.1 1 := Option.some.inj (h1.symm.trans h2)
    subst hc
    have ha := jws_fresh hD1
    rw [jws_new ha] at hP1 hD1
    exact K a ha H1 locs ls hP1 hD1 hS1 hl)
theorem j_newL {i : Int32} {N : Nat} (C : jC X own cc v ret d0 mc ms) (d : decode cc pc = .ok (.newarray .long, 2)) (hw : Cond.arrayClass .long ∈ jtbl) (hi : i = nI N) (hN : N < 1000000) (hk : k + 1 ≤ mc) (hn : n + N ≤ ms) (ht : pc + 2 = t) (K : ∀ a, a ∉ w.1 → J X v Q (jn w a (eL (xG X) N (fun _ => 0))) (k + 1) (n + N) t lv (.ref a :: st)) : J X v Q w k n pc lv (.int i :: st) := by
  obtain ⟨p, l, e, R, s, m, args, below, meth, c, G, A⟩ := X
  intro H locs ls hP hD hS hl
  subst ht
  subst hi
  have hR := C.2.2.2.2.2.2.2.2.2.2.2
  have hKs := C.2.2.2.2.2.1
  exact va_newa (atype := .long) (ty := .long) C.1 C.2.1 (C.2.2.2.2.1 _ hw) rfl hKs hP hD hS C.2.2.2.2.2.2.1 (a0 := (N, .inr <| .inl (fun _ => 0))) (fun cA => rfl) (nI_pos (by omega)) (nI_clamp (by omega)) (show N * 8 ≤ 536870912 by omega) (Nat.le_trans hk hR.2.2.1) (Nat.le_trans hn hR.2.2.2) d (fun a cA H1 hK1 hP1 hD1 hS1 => by
    have h1 := (hK1.2 (jtys G).length (cA, .long) (by simp)).2
    have h2 := (hKs.2 2 _ (jty rfl)).2
    have hc : cA = G.2.1 2 := Option.some.inj (h1.symm.trans h2)
    subst hc
    have ha := jws_fresh hD1
    rw [jws_new ha] at hP1 hD1
    exact K a ha H1 locs ls hP1 hD1 hS1 hl)
theorem j_newZ {i : Int32} {N : Nat} (C : jC X own cc v ret d0 mc ms) (d : decode cc pc = .ok (.newarray .boolean, 2)) (hw : Cond.arrayClass .boolean ∈ jtbl) (hi : i = nI N) (hN : N < 1000000) (hk : k + 1 ≤ mc) (hn : n + N ≤ ms) (ht : pc + 2 = t) (K : ∀ a, a ∉ w.1 → J X v Q (jn w a (eZ (xG X) N (fun _ => 0))) (k + 1) (n + N) t lv (.ref a :: st)) : J X v Q w k n pc lv (.int i :: st) := by
  obtain ⟨p, l, e, R, s, m, args, below, meth, c, G, A⟩ := X
  intro H locs ls hP hD hS hl
  subst ht
  subst hi
  have hR := C.2.2.2.2.2.2.2.2.2.2.2
  have hKs := C.2.2.2.2.2.1
  exact va_newa (atype := .boolean) (ty := .boolean) C.1 C.2.1 (C.2.2.2.2.1 _ hw) rfl hKs hP hD hS C.2.2.2.2.2.2.1 (a0 := (N, .inl (fun _ => 0))) (fun cA => rfl) (nI_pos (by omega)) (nI_clamp (by omega)) (show N * 1 ≤ 536870912 by omega) (Nat.le_trans hk hR.2.2.1) (Nat.le_trans hn hR.2.2.2) d (fun a cA H1 hK1 hP1 hD1 hS1 => by
    have h1 := (hK1.2 (jtys G).length (cA, .boolean) (by simp)).2
    have h2 := (hKs.2 3 _ (jty rfl)).2
    have hc : cA = G.2.1 3 := Option.some.inj (h1.symm.trans h2)
    subst hc
    have ha := jws_fresh hD1
    rw [jws_new ha] at hP1 hD1
    exact K a ha H1 locs ls hP1 hD1 hS1 hl)
theorem j_newR {i : Int32} {N tk idx : Nat} {cn : String} (C : jC X own cc v ret d0 mc ms) (d : decode cc pc = .ok (.anewarray idx, 3)) (hw : Cond.classLink own idx cn ∈ jtbl) (ho : cn ∈ jover) (hk2 : jtyl[tk]? = some (.object cn)) (hi : i = nI N) (hN : N < 1000000) (hk : k + 1 ≤ mc) (hn : n + N ≤ ms) (ht : pc + 3 = t) (K : ∀ a, a ∉ w.1 → J X v Q (jn w a (eR (xG X) tk N (fun _ => none))) (k + 1) (n + N) t lv (.ref a :: st)) : J X v Q w k n pc lv (.int i :: st) := by
  obtain ⟨p, l, e, R, s, m, args, below, meth, c, G, A⟩ := X
  intro H locs ls hP hD hS hl
  subst ht
  subst hi
  have hR := C.2.2.2.2.2.2.2.2.2.2.2
  have hKs := C.2.2.2.2.2.1
  exact va_newq C.1 C.2.1 C.2.2.2.1 (C.2.2.2.2.1 _ hw) (C.2.2.2.2.2.2.2.2.2.1.2 _ ho) hKs hP hD hS C.2.2.2.2.2.2.1 (nI_pos (by omega)) (nI_clamp (by omega)) (by omega) (Nat.le_trans hk hR.2.2.1) (Nat.le_trans hn hR.2.2.2) d (fun a cA H1 hK1 hP1 hD1 hS1 => by
    obtain ⟨kA, comp, -, -, -, h1⟩ := (hK1.2 (jtys G).length (cA, .object cn) (by simp)).2
    obtain ⟨kA2, comp2, -, -, -, h2⟩ := (hKs.2 tk _ (jty hk2)).2
    have hc : cA = G.2.1 tk := Option.some.inj (h1.symm.trans h2)
    subst hc
    have ha := jws_fresh hD1
    rw [jws_new ha] at hP1 hD1
    exact K a ha H1 locs ls hP1 hD1 hS1 hl)
theorem j_oinit {a idx : Nat} (C : jC X own cc v ret d0 mc ms) (d : decode cc pc = .ok (.invokespecial idx, 3)) (f : Cond.methodLink own idx objectInit ∈ jtbl) (f2 : Cond.instanceMethod objectInit ∈ jtbl) (f3 : Cond.code objectInit ⟨#[0xb1]⟩ 1 none ∈ jtbl) (hd : 1 ≤ d0) (hst : (st.map fun v => v.category).sum ≤ 8) (ht : pc + 3 = t) (K : J X v Q w k n t lv st) : J X v Q w k n pc lv (.ref a :: st) := by
  obtain ⟨p, l, e, R, s, m, args, below, meth, c, G, A⟩ := X
  intro H locs ls hP hD hS hl
  subst ht
  have hR := C.2.2.2.2.2.2.2.2.2.2.2
  refine W.objInit C.1 C.2.1 C.2.2.2.1 (C.2.2.2.2.1 _ f) (C.2.2.2.2.1 _ f2) (C.2.2.2.2.1 _ f3) rfl (by rw [C.2.2.1]; exact hl.1.1) rfl d (by omega) ?_ (K H locs ls hP hD hS hl)
  have h8 := lv_room (m := m) (pc := pc) (ls := ls) (rest := st) hst
  have h9 : (F0 m pc ls (Value.ref a :: st)).monitorRoom = (F0 m pc ls st).monitorRoom := rfl
  rw [h9]
  omega
theorem jZ_moved {z : Nat} {A B : Nat → Prop} {u U : State} {H H1 : Heap} (hvm : u.vm.Alike U.vm) (h : jZ z A u H) (hq : ∀ a : Nat, a < H.size → ¬ A a → H1[a]? = H[a]?) (hAB : ∀ q, B q → A q) : jZ z B U H1 :=
  ⟨((h.1.kept hq).moved hvm).narrow hAB, ((h.2.kept hq).moved hvm).narrow hAB⟩
def jPc (G : jG) (w : jw) (av : List Value) (sz : Nat) : Array Value → State → Prop := va_Pc av (fun U => U.heap.size = sz ∧ va_P G.1 vwCl (jws w) U.heap ∧ va_K G.1 vwCl (jtys G) U ∧ va_D (fun _ => True) (jws w) ∧ jZ G.2.2 (va_A (jws w) sz) U U.heap ∧ jN U)
def jQc (G : jG) (A : Nat → Prop) (post : Option Value → jw → Prop) : Array Value → State → Outcome → State → Prop := fun _ st oc t => (∃ (r : Option Value) (w' : jw), oc = .returned r ∧ post r w' ∧ va_P G.1 vwCl (jws w') t.heap ∧ va_D A (jws w')) ∧ va_F A st t
def jroom (d mc ms : Nat) : Room := { frames := d, cells := mc, slots := ms, locals := 40 * d }
def jQ : jX → (Option Value → jw → Prop) → Nat → Nat → State → Prop
  | (_, _, _, _, s, _, args, below, _, _, G, A), post, mc, ms => MQ below (jQc G A post) args s mc ms A
/-- a method's contract: from every world with Pre it returns, with Post -/
def MC (l : Launch) (y : MethodName) (cc : ByteArray) (mL : Nat) (ret : Option FieldType) (d mc ms : Nat) (Pre : jG → jw → List Value → Prop) (Post : jG → jw → List Value → Option Value → jw → Prop) : Prop :=
  ∀ (G : jG) (w : jw) (av : List Value) (sz : Nat), Pre G w av → Met l y (Cond.code y cc mL ret :: jtbl) (jroom d mc ms) (jPc G w av sz) (jQc G (va_A (jws w) sz) (Post G w av)) mc ms (va_A (jws w) sz)
theorem jPc_blind {G : jG} {av : List Value} {sz : Nat} : FrameBlind (jPc G w av sz) := by
  intro a U g mk q
  obtain ⟨q0, q1, qP, qK, qD, qZ, qN⟩ := q
  exact ⟨q0, q1, qP, va_K.moved (u := U) (U := U.calling g mk a) (Vm.Alike.refl U.vm) qK, qD, ⟨va_Z.moved (u := U) (U := U.calling g mk a) (Vm.Alike.refl U.vm) qZ.1, va_T.moved (u := U) (U := U.calling g mk a) (Vm.Alike.refl U.vm) qZ.2⟩, ⟨fun y hy => va_Nw.same (jnest_tab y hy) (u := U) (U := U.calling g mk a) rfl (qN.1 y hy), fun y hy => va_AO.moved (u := U) (U := U.calling g mk a) (Vm.Alike.refl U.vm) (qN.2 y hy)⟩⟩
theorem MC.of {l : Launch} {y : MethodName} {mL : Nat} {d : Nat} {Pre : jG → jw → List Value → Prop} {Post : jG → jw → List Value → Option Value → jw → Prop} (zL : Nat) (hy : plainName y.cls = true)
    (body : ∀ (X : jX) (w : jw) (av : List Value), X.2.1 = l → jC X y.cls cc (mL, zL) ret d mc ms → jname X = y.name → Pre (xG X) w av → ∃ lv0, lv_args 0 av = lv0 ∧ (lg_sl av).length ≤ mL ∧ jcb zL lv0 = true ∧ J X (mL, zL) (jQ X (Post (xG X) w av) mc ms) w 0 0 0 lv0 []) : MC l y cc mL ret d mc ms Pre Post := by
  intro G w av sz hpre
  refine Met.ofW (cc := cc) (maxL := mL) (ret := ret) hy rfl ?_
  intro p e s m args below meth c s₁ B hml hv
  obtain ⟨rfl, hsz, hP, hK, hD0, hZ, hN⟩ := hv
  subst hsz
  have hts : ∀ y' ∈ jtbl, y'.before av.toArray s = true := fun y' h => atoms_spec (ws := Cond.code y cc mL ret :: jtbl) B.pre y' (List.mem_cons_of_mem _ h)
  have hown : s.vm.findClass y.cls = some m.cls := findClass_of_methodNamed B.named
  obtain ⟨lv0, e0, h1, h2, h3⟩ := body (p, l, e, jroom d mc ms, s, m, av.toArray, below, meth, c, G, va_A (jws w) s.heap.size) w av rfl ⟨B.exec, B.bytes, hml, hown, hts, hK, fun q h => Or.inr h, B.notSynchronized, hZ, hN, B.returns, Nat.le_refl _, Nat.le_refl _, Nat.le_refl _, Nat.le_refl _⟩ (name_of_methodNamed B.named B.method).1 hpre
  rw [lg_entry_eq]
  subst e0
  exact h3 s.heap [] _ hP hD0.self va_S.rf ⟨lv_entry av h1, jcb_ok h2⟩
theorem j_iret {x : Int32} {ty : FieldType} {post : Option Value → jw → Prop} (C : jC X own cc v (some ty) d0 mc ms) (d : decode cc pc = .ok (.ireturn, 1)) (hn : narrow ty (.int x) = .int x) (hp : post (some (.int x)) w) (hk : k ≤ mc) (hm : n ≤ ms) : J X v (jQ X post mc ms) w k n pc lv [.int x] := by
  obtain ⟨p, l, e, R, s, m, args, below, meth, c, G, A⟩ := X
  intro H locs ls hP hD hS hl
  exact W.widen hk hm (W.zret (ty := ty) C.1 C.2.1 C.2.2.2.2.2.2.2.2.2.2.1 hn (fun t ht hW => ⟨⟨_, w, rfl, hp, by rw [ht]; exact hP, hD⟩, hS.F ht⟩) hS.2.2 d (hlocks := C.2.2.2.2.2.2.2.1))
theorem j_vret {post : Option Value → jw → Prop} (C : jC X own cc v none d0 mc ms) (d : decode cc pc = .ok (.return_, 1)) (hp : post none w) (hk : k ≤ mc) (hm : n ≤ ms) : J X v (jQ X post mc ms) w k n pc lv [] := by
  obtain ⟨p, l, e, R, s, m, args, below, meth, c, G, A⟩ := X
  intro H locs ls hP hD hS hl
  exact W.widen hk hm (W.vret C.1 C.2.1 C.2.2.2.2.2.2.2.2.2.2.1 (fun t ht hW => ⟨⟨_, w, rfl, hp, by rw [ht]; exact hP, hD⟩, hS.F ht⟩) hS.2.2 d (hlocks := C.2.2.2.2.2.2.2.1))
theorem j_aret {x : Value} {ty : FieldType} {post : Option Value → jw → Prop} (C : jC X own cc v (some ty) d0 mc ms) (d : decode cc pc = .ok (.areturn, 1)) (hty : (∃ n, ty = .object n) ∨ ∃ t, ty = .array t) (hx : jrv x) (hp : post (some x) w) (hk : k ≤ mc) (hm : n ≤ ms) : J X v (jQ X post mc ms) w k n pc lv [x] := by
  obtain ⟨p, l, e, R, s, m, args, below, meth, c, G, A⟩ := X
  intro H locs ls hP hD hS hl
  exact W.widen hk hm (W.aret C.1 C.2.1 C.2.2.2.2.2.2.2.2.2.2.1 hty hx (fun t ht hW => ⟨⟨_, w, rfl, hp, by rw [ht]; exact hP, hD⟩, hS.F ht⟩) hS.2.2 d (hlocks := C.2.2.2.2.2.2.2.1))
/-- facts of a call that the tables give -/
def jB (y : MethodName) (bytes : ByteArray) (mL : Nat) (rt : Option FieldType) (na : Nat) : Prop := Cond.code y bytes mL rt ∈ jtbl ∧ Cond.initialized y.cls ∈ jtbl ∧ (y.cls ≠ "java/lang/invoke/MethodHandle" ∧ y.cls ≠ "java/lang/invoke/VarHandle" ∧ (parseMethodDescriptor y.desc).map (fun d => d.parameters.length) = some na) ∧ mL ≤ 21
def jBV (y : MethodName) : Prop := Cond.instanceMethod y ∈ jtbl ∧ Cond.selects y.cls y y ∈ jtbl
theorem j_good {y : MethodName} {bytes : ByteArray} {mL : Nat} {rt : Option FieldType} (h : Cond.code y bytes mL rt ∈ jtbl) : GoodIn jtbl (Cond.code y bytes mL rt :: jtbl) := by
  intro y' hy
  rcases List.mem_cons.mp hy with rfl | hy
  · exact ⟨h, good_of_word (jtbl_good _ h)⟩
  · exact ⟨hy, good_of_word (jtbl_good _ hy)⟩
theorem j_in {A : Nat → Prop} {s : State} {H : Heap} {locs : List Loc} (hD : va_D A (jws w)) (hS : va_S A s.heap H locs) (hA : ∀ q, s.heap.size ≤ q → A q) : ∀ q, va_A (jws w) H.size q → A q := by
  intro q h
  rcases h with ⟨i, e, h⟩ | h
  · exact hD.2 i (q, e) h
  · exact hA q (Nat.le_trans hS.1 h)
theorem j_back {p : Program} {l : Launch} {e : Env} {R : Room} {s : State} {m : MethodId} {args : Array Value} {below : List Frame} {meth : Method} {c : Code} {H : Heap} {locs : List Loc} {cells slots mc' ms' : Nat} {ls : Array Slot} {st0 rest : List Value} {G : jG} {A0 A1 : Nat → Prop} {post : Option Value → jw → Prop} {a : Array Value}
    (hr : va_Run p l e R s m args below meth c H locs cells slots mc' ms' (F0 m pc ls st0) rest (jQc G A1 post a) A1) (hS : va_S A0 s.heap H locs) (hA : ∀ q, A1 q → A0 q)
    (kk : ∀ (r : Option Value) (w' : jw) (H1 : Heap) (locs1 : List Loc), post r w' → va_P G.1 vwCl (jws w') H1 → va_D A1 (jws w') → va_S A0 s.heap H1 locs1 → W p l e R s m args below meth c H1 locs1 (cells + mc') (slots + ms') Q (F0 m (pc + 3) ls (jst r rest))) : W p l e R s m args below meth c H locs cells slots Q (F0 m pc ls st0) := by
  intro T hT X
  obtain ⟨v, st₀, t, T', L, h0, X', hL, e1, e2, ⟨⟨r, w', hv, hp, hP', hD'⟩, hz, hk⟩, st⟩ := hr T hT X
  cases hv
  rw [h0] at hz hk
  obtain ⟨t2, a1, b1⟩ := kk v w' T'.heap (locs ++ L) hp (by rw [e1]; exact hP') hD'
    ⟨Nat.le_trans hS.1 (by rw [e1]; exact hz), fun q h1 h2 => by rw [e1, hk q (Nat.lt_of_lt_of_le h1 hS.1) (fun z => h2 (hA q z))]; exact hS.2.1 q h1 h2, fun q hq => by
      rcases List.mem_append.mp hq with h | h
      · exact hS.2.2 q h
      · exact hA _ (hL q h)⟩ T' rfl X'
  refine ⟨t2, st t2 ?_, b1⟩
  cases v <;> exact a1
theorem j_pre {G : jG} {A : Nat → Prop} {s : State} {H : Heap} {locs : List Loc} {av : List Value} (hP : va_P G.1 vwCl (jws w) H) (hD : va_D A (jws w)) (hS : va_S A s.heap H locs) (hK : va_K G.1 vwCl (jtys G) s) (hA : ∀ q, s.heap.size ≤ q → A q) (hZ : jZ G.2.2 A s s.heap) (hN : jN s) : ∀ U : State, U.heap = H → s.WarmedH U.vm → jPc G w av H.size av.toArray U := by
  intro U hU hW
  refine ⟨rfl, by rw [hU], by rw [hU]; exact hP, va_K.moved hW.alike hK, hD.weaken (fun _ _ _ _ => trivial), ?_, jN_warm hW hN⟩
  rw [hU]
  exact jZ_moved hW.alike hZ hS.2.1 (j_in hD hS hA)
theorem j_callV {y : MethodName} {bytes : ByteArray} {mL d' mc' ms' idx : Nat} {rt : Option FieldType} {Pre : jG → jw → List Value → Prop} {Post : jG → jw → List Value → Option Value → jw → Prop} {As st0 : List Value} {b ci : Nat} {fs : List Value} {cq : vw_C} (C : jC X own cc v ret d0 mc ms) (M : MC X.2.1 y bytes mL rt d' mc' ms' Pre Post) (d : decode cc pc = .ok (.invokevirtual idx, 3)) (f : jB y bytes mL rt As.length) (f4 : Cond.methodLink own idx y ∈ jtbl) (fv : jBV y) (hb : jh w b (eO ci fs)) (hc : vwCl[ci]? = some cq) (hcq : y.cls = cq.1) (hst : st0 = As.reverse ++ .ref b :: st) (hsum : (st.map fun v => v.category).sum ≤ 8) (hd : d' + 1 ≤ d0) (hk : k + mc' ≤ mc) (hn : n + ms' ≤ ms) (hpre : Pre (xG X) w (.ref b :: As)) (ht : pc + 3 = t) (K : ∀ (r : Option Value) (w' : jw), Post (xG X) w (.ref b :: As) r w' → J X v Q w' (k + mc') (n + ms') t lv (jst r st)) : J X v Q w k n pc lv st0 := by
  obtain ⟨p, l, e, R, s, m, args, below, meth, c, G, A⟩ := X
  intro H locs ls hP hD hS hl
  subst ht
  subst hst
  have hR := C.2.2.2.2.2.2.2.2.2.2.2
  have hin := j_in hD hS C.2.2.2.2.2.2.1
  have hpc := j_pre (av := .ref b :: As) hP hD hS C.2.2.2.2.2.1 C.2.2.2.2.2.2.1 C.2.2.2.2.2.2.2.2.1 C.2.2.2.2.2.2.2.2.2.1
  have hroom : (jroom d' mc' ms').frames + 1 ≤ R.frames ∧ 8 + (mL + 11) + (jroom d' mc' ms').locals ≤ R.locals := by
    have h1 := f.2.2.2
    have h2 : (jroom d' mc' ms').frames = d' := rfl
    have h3 : (jroom d' mc' ms').locals = 40 * d' := rfl
    rw [h2, h3]
    omega
  obtain ⟨q, hq⟩ := jh_at hb
  have hrec := va_recv C.2.2.2.2.2.1 hP hc hq
  exact j_back (va_runV (b := b) (C := cq.1) (cc := cc) (Ts := jtbl) (own := own) (nL := v.1) (As := As) (rest := st) (n := As.length) ⟨C.1, C.2.1, C.2.2.1, C.2.2.2.1, C.2.2.2.2.1⟩ (M G w (.ref b :: As) H.size hpre) ⟨(callB_of As.length C.2.2.2.2.1 (j_good f.1) rfl rfl rfl (C.2.2.2.2.1 _ f.2.1) (C.2.2.2.2.1 _ f4) f.2.2.1 hroom), C.2.2.2.2.1 _ fv.1, C.2.2.2.2.1 _ (hcq ▸ fv.2)⟩ ⟨jPc_blind, hrec, hpc⟩ rfl rfl hl.1.1 rfl (lv_room hsum) d ⟨Nat.le_trans hk hR.2.2.1, Nat.le_trans hn hR.2.2.2⟩) hS hin (fun r w' H1 locs1 hp hP1 hD1 hS1 => K r w' hp H1 locs1 ls hP1 (hD1.weaken (fun _ q _ h => hin q.1 h)) hS1 hl)
theorem j_callS {y : MethodName} {bytes : ByteArray} {mL d' mc' ms' idx : Nat} {rt : Option FieldType} {Pre : jG → jw → List Value → Prop} {Post : jG → jw → List Value → Option Value → jw → Prop} {As st0 : List Value}  (C : jC X own cc v ret d0 mc ms) (M : MC X.2.1 y bytes mL rt d' mc' ms' Pre Post) (d : decode cc pc = .ok (.invokestatic idx, 3)) (f : jB y bytes mL rt As.length) (f4 : Cond.methodLink own idx y ∈ jtbl) (fs : Cond.static y ∈ jtbl) (hst : st0 = As.reverse ++ st) (hsum : (st.map fun v => v.category).sum ≤ 8) (hd : d' + 1 ≤ d0) (hk : k + mc' ≤ mc) (hn : n + ms' ≤ ms) (hpre : Pre (xG X) w (As)) (ht : pc + 3 = t) (K : ∀ (r : Option Value) (w' : jw), Post (xG X) w (As) r w' → J X v Q w' (k + mc') (n + ms') t lv (jst r st)) : J X v Q w k n pc lv st0 := by
  obtain ⟨p, l, e, R, s, m, args, below, meth, c, G, A⟩ := X
  intro H locs ls hP hD hS hl
  subst ht
  subst hst
  have hR := C.2.2.2.2.2.2.2.2.2.2.2
  have hin := j_in hD hS C.2.2.2.2.2.2.1
  have hpc := j_pre (av := As) hP hD hS C.2.2.2.2.2.1 C.2.2.2.2.2.2.1 C.2.2.2.2.2.2.2.2.1 C.2.2.2.2.2.2.2.2.2.1
  have hroom : (jroom d' mc' ms').frames + 1 ≤ R.frames ∧ 8 + (mL + 11) + (jroom d' mc' ms').locals ≤ R.locals := by
    have h1 := f.2.2.2
    have h2 : (jroom d' mc' ms').frames = d' := rfl
    have h3 : (jroom d' mc' ms').locals = 40 * d' := rfl
    rw [h2, h3]
    omega
  exact j_back (va_runS (cc := cc) (Ts := jtbl) (own := own) (nL := v.1) (As := As) (rest := st) (n := As.length) ⟨C.1, C.2.1, C.2.2.1, C.2.2.2.1, C.2.2.2.2.1⟩ (M G w (As) H.size hpre) ⟨(callB_of As.length C.2.2.2.2.1 (j_good f.1) rfl rfl rfl (C.2.2.2.2.1 _ f.2.1) (C.2.2.2.2.1 _ f4) f.2.2.1 hroom), C.2.2.2.2.1 _ fs⟩ ⟨jPc_blind, hpc⟩ rfl rfl hl.1.1 rfl (lv_room hsum) d ⟨Nat.le_trans hk hR.2.2.1, Nat.le_trans hn hR.2.2.2⟩) hS hin (fun r w' H1 locs1 hp hP1 hD1 hS1 => K r w' hp H1 locs1 ls hP1 (hD1.weaken (fun _ q _ h => hin q.1 h)) hS1 hl)
theorem j_callI {y : MethodName} {bytes : ByteArray} {mL d' mc' ms' idx : Nat} {Pre : jG → jw → List Value → Prop} {Post : jG → jw → List Value → Option Value → jw → Prop} {As st0 : List Value} {b : Nat} (C : jC X own cc v ret d0 mc ms) (M : MC X.2.1 y bytes mL none d' mc' ms' Pre Post) (d : decode cc pc = .ok (.invokespecial idx, 3)) (f : jB y bytes mL none As.length) (f4 : Cond.methodLink own idx y ∈ jtbl) (fi : Cond.instanceMethod y ∈ jtbl) (hy : y.name = "<init>") (hst : st0 = As.reverse ++ .ref b :: st) (hsum : (st.map fun v => v.category).sum ≤ 8) (hd : d' + 1 ≤ d0) (hk : k + mc' ≤ mc) (hn : n + ms' ≤ ms) (hpre : Pre (xG X) w (.ref b :: As)) (ht : pc + 3 = t) (K : ∀ (r : Option Value) (w' : jw), Post (xG X) w (.ref b :: As) r w' → J X v Q w' (k + mc') (n + ms') t lv (jst r st)) : J X v Q w k n pc lv st0 := by
  obtain ⟨p, l, e, R, s, m, args, below, meth, c, G, A⟩ := X
  intro H locs ls hP hD hS hl
  subst ht
  subst hst
  have hR := C.2.2.2.2.2.2.2.2.2.2.2
  have hin := j_in hD hS C.2.2.2.2.2.2.1
  have hpc := j_pre (av := .ref b :: As) hP hD hS C.2.2.2.2.2.1 C.2.2.2.2.2.2.1 C.2.2.2.2.2.2.2.2.1 C.2.2.2.2.2.2.2.2.2.1
  have hroom : (jroom d' mc' ms').frames + 1 ≤ R.frames ∧ 8 + (mL + 11) + (jroom d' mc' ms').locals ≤ R.locals := by
    have h1 := f.2.2.2
    have h2 : (jroom d' mc' ms').frames = d' := rfl
    have h3 : (jroom d' mc' ms').locals = 40 * d' := rfl
    rw [h2, h3]
    omega
  exact j_back (va_runI (b := b) (cc := cc) (Ts := jtbl) (own := own) (nL := v.1) (As := As) (rest := st) (n := As.length) ⟨C.1, C.2.1, C.2.2.1, C.2.2.2.1, C.2.2.2.2.1⟩ (M G w (.ref b :: As) H.size hpre) ⟨(callB_of As.length C.2.2.2.2.1 (j_good f.1) rfl rfl rfl (C.2.2.2.2.1 _ f.2.1) (C.2.2.2.2.1 _ f4) f.2.2.1 hroom), hy, C.2.2.2.2.1 _ fi⟩ ⟨jPc_blind, hpc⟩ rfl rfl hl.1.1 rfl (lv_room hsum) d ⟨Nat.le_trans hk hR.2.2.1, Nat.le_trans hn hR.2.2.2⟩) hS hin (fun r w' H1 locs1 hp hP1 hD1 hS1 => K r w' hp H1 locs1 ls hP1 (hD1.weaken (fun _ q _ h => hin q.1 h)) hS1 hl)
theorem j_callSN {y : MethodName} {bytes : ByteArray} {mL d' mc' ms' idx : Nat} {rt : Option FieldType} {Pre : jG → jw → List Value → Prop} {Post : jG → jw → List Value → Option Value → jw → Prop} {As st0 : List Value} {host : String} (C : jC X own cc v ret d0 mc ms) (M : MC X.2.1 y bytes mL rt d' mc' ms' Pre Post) (d : decode cc pc = .ok (.invokestatic idx, 3)) (f : jB y bytes mL rt As.length) (f4 : Cond.methodLinkNest own idx y host ∈ jnest) (fs : Cond.static y ∈ jtbl) (hst : st0 = As.reverse ++ st) (hsum : (st.map fun v => v.category).sum ≤ 8) (hd : d' + 1 ≤ d0) (hk : k + mc' ≤ mc) (hn : n + ms' ≤ ms) (hpre : Pre (xG X) w (As)) (ht : pc + 3 = t) (K : ∀ (r : Option Value) (w' : jw), Post (xG X) w (As) r w' → J X v Q w' (k + mc') (n + ms') t lv (jst r st)) : J X v Q w k n pc lv st0 := by
  obtain ⟨p, l, e, R, s, m, args, below, meth, c, G, A⟩ := X
  intro H locs ls hP hD hS hl
  subst ht
  subst hst
  have hR := C.2.2.2.2.2.2.2.2.2.2.2
  have hin := j_in hD hS C.2.2.2.2.2.2.1
  have hpc := j_pre (av := As) hP hD hS C.2.2.2.2.2.1 C.2.2.2.2.2.2.1 C.2.2.2.2.2.2.2.2.1 C.2.2.2.2.2.2.2.2.2.1
  have hroom : (jroom d' mc' ms').frames + 1 ≤ R.frames ∧ 8 + (mL + 11) + (jroom d' mc' ms').locals ≤ R.locals := by
    have h1 := f.2.2.2
    have h2 : (jroom d' mc' ms').frames = d' := rfl
    have h3 : (jroom d' mc' ms').locals = 40 * d' := rfl
    rw [h2, h3]
    omega
  exact j_back (va_runSN (host := host) (cc := cc) (Ts := jtbl) (own := own) (nL := v.1) (As := As) (rest := st) (n := As.length) ⟨C.1, C.2.1, C.2.2.1, C.2.2.2.1, C.2.2.2.2.1⟩ (M G w (As) H.size hpre) ⟨(va_cnB As.length C.2.2.2.2.1 (j_good f.1) rfl rfl rfl (C.2.2.2.2.2.2.2.2.2.1.1 _ f4) (C.2.2.2.2.1 _ f.2.1) f.2.2.1 hroom), C.2.2.2.2.1 _ fs, trivial⟩ ⟨jPc_blind, hpc⟩ rfl rfl hl.1.1 rfl (lv_room hsum) d ⟨Nat.le_trans hk hR.2.2.1, Nat.le_trans hn hR.2.2.2⟩) hS hin (fun r w' H1 locs1 hp hP1 hD1 hS1 => K r w' hp H1 locs1 ls hP1 (hD1.weaken (fun _ q _ h => hin q.1 h)) hS1 hl)
end JK
end
