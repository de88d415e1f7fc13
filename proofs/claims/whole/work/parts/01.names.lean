-- ===== PART A: goes FIRST, ahead of the names: the tables' words, and 'selects' of the private methods out of them =====
/-- a private method of a class that the tables say can be made, by its rows of tables_1 -/
def lw_okq (q : MethodName × Nat) : Prop := (q.1.cls ≠ "java/lang/invoke/MethodHandle" ∧ q.1.cls ≠ "java/lang/invoke/VarHandle") ∧ Cond.instantiable q.1.cls q.2 ∈ tables_1 ∧ Cond.privateMethod q.1 ∈ tables_1 ∧ Cond.instanceMethod q.1 ∈ tables_1
theorem lw_p0 : lw_okq (⟨"TruthScan", "putOnTape", "(I)V"⟩, 13) := ⟨⟨by decide +kernel, by decide +kernel⟩, List.mem_of_getElem? (i := 10) (by decide +kernel), List.mem_of_getElem? (i := 70) (by decide +kernel), List.mem_of_getElem? (i := 71) (by decide +kernel)⟩
theorem lw_p1 : lw_okq (⟨"TruthScan", "columnAt", "(I)LTruthScan$Column;"⟩, 13) := ⟨⟨by decide +kernel, by decide +kernel⟩, List.mem_of_getElem? (i := 10) (by decide +kernel), List.mem_of_getElem? (i := 133) (by decide +kernel), List.mem_of_getElem? (i := 134) (by decide +kernel)⟩
theorem lw_p2 : lw_okq (⟨"TruthScan", "isOnTape", "(I)Z"⟩, 13) := ⟨⟨by decide +kernel, by decide +kernel⟩, List.mem_of_getElem? (i := 10) (by decide +kernel), List.mem_of_getElem? (i := 171) (by decide +kernel), List.mem_of_getElem? (i := 172) (by decide +kernel)⟩
theorem lw_p3 : lw_okq (⟨"TruthScan", "keepLiteral", "(LTruthScan$Value;)I"⟩, 13) := ⟨⟨by decide +kernel, by decide +kernel⟩, List.mem_of_getElem? (i := 10) (by decide +kernel), List.mem_of_getElem? (i := 211) (by decide +kernel), List.mem_of_getElem? (i := 212) (by decide +kernel)⟩
theorem lw_p4 : lw_okq (⟨"TruthScan", "fits", "(ILTruthScan$Column;ILTruthScan$Column;II)Z"⟩, 13) := ⟨⟨by decide +kernel, by decide +kernel⟩, List.mem_of_getElem? (i := 10) (by decide +kernel), List.mem_of_getElem? (i := 223) (by decide +kernel), List.mem_of_getElem? (i := 224) (by decide +kernel)⟩
theorem lw_p5 : lw_okq (⟨"TruthScan", "areLiterals", "(III)Z"⟩, 13) := ⟨⟨by decide +kernel, by decide +kernel⟩, List.mem_of_getElem? (i := 10) (by decide +kernel), List.mem_of_getElem? (i := 227) (by decide +kernel), List.mem_of_getElem? (i := 228) (by decide +kernel)⟩
theorem lw_p6 : lw_okq (⟨"TruthScan", "isCondition", "()Z"⟩, 13) := ⟨⟨by decide +kernel, by decide +kernel⟩, List.mem_of_getElem? (i := 10) (by decide +kernel), List.mem_of_getElem? (i := 272) (by decide +kernel), List.mem_of_getElem? (i := 273) (by decide +kernel)⟩
theorem lw_p7 : lw_okq (⟨"TruthScan", "stepsHaveRows", "(I)Z"⟩, 13) := ⟨⟨by decide +kernel, by decide +kernel⟩, List.mem_of_getElem? (i := 10) (by decide +kernel), List.mem_of_getElem? (i := 280) (by decide +kernel), List.mem_of_getElem? (i := 281) (by decide +kernel)⟩
theorem lw_p8 : lw_okq (⟨"TruthScan", "outcome", "(I)I"⟩, 13) := ⟨⟨by decide +kernel, by decide +kernel⟩, List.mem_of_getElem? (i := 10) (by decide +kernel), List.mem_of_getElem? (i := 284) (by decide +kernel), List.mem_of_getElem? (i := 285) (by decide +kernel)⟩
theorem lw_p9 : lw_okq (⟨"TruthScan$Step", "canBeOutside", "()Z"⟩, 7) := ⟨⟨by decide +kernel, by decide +kernel⟩, List.mem_of_getElem? (i := 233) (by decide +kernel), List.mem_of_getElem? (i := 310) (by decide +kernel), List.mem_of_getElem? (i := 311) (by decide +kernel)⟩
theorem lw_p10 : lw_okq (⟨"TruthScan$Step", "isOutside", "(LTruthScan$Value;)Z"⟩, 7) := ⟨⟨by decide +kernel, by decide +kernel⟩, List.mem_of_getElem? (i := 233) (by decide +kernel), List.mem_of_getElem? (i := 318) (by decide +kernel), List.mem_of_getElem? (i := 319) (by decide +kernel)⟩
theorem lw_p11 : lw_okq (⟨"TruthScan$Step", "canBeInside", "()Z"⟩, 7) := ⟨⟨by decide +kernel, by decide +kernel⟩, List.mem_of_getElem? (i := 233) (by decide +kernel), List.mem_of_getElem? (i := 326) (by decide +kernel), List.mem_of_getElem? (i := 327) (by decide +kernel)⟩
theorem lw_p12 : lw_okq (⟨"TruthScan$Step", "canCompare", "(I)Z"⟩, 7) := ⟨⟨by decide +kernel, by decide +kernel⟩, List.mem_of_getElem? (i := 233) (by decide +kernel), List.mem_of_getElem? (i := 339) (by decide +kernel), List.mem_of_getElem? (i := 340) (by decide +kernel)⟩
theorem lw_p13 : lw_okq (⟨"TruthScan$Step", "valueOfOther", "(I)LTruthScan$Value;"⟩, 7) := ⟨⟨by decide +kernel, by decide +kernel⟩, List.mem_of_getElem? (i := 233) (by decide +kernel), List.mem_of_getElem? (i := 358) (by decide +kernel), List.mem_of_getElem? (i := 359) (by decide +kernel)⟩
theorem lw_p14 : lw_okq (⟨"TruthScanModel", "isColumn", "(I)Z"⟩, 28) := ⟨⟨by decide +kernel, by decide +kernel⟩, List.mem_of_getElem? (i := 402) (by decide +kernel), List.mem_of_getElem? (i := 508) (by decide +kernel), List.mem_of_getElem? (i := 509) (by decide +kernel)⟩
theorem lw_p15 : lw_okq (⟨"TruthScanModel", "fromTape", "(III)V"⟩, 28) := ⟨⟨by decide +kernel, by decide +kernel⟩, List.mem_of_getElem? (i := 402) (by decide +kernel), List.mem_of_getElem? (i := 519) (by decide +kernel), List.mem_of_getElem? (i := 520) (by decide +kernel)⟩
def lw_privs_1 : List (MethodName × Nat) := [(⟨"TruthScan", "putOnTape", "(I)V"⟩, 13), (⟨"TruthScan", "columnAt", "(I)LTruthScan$Column;"⟩, 13), (⟨"TruthScan", "isOnTape", "(I)Z"⟩, 13), (⟨"TruthScan", "keepLiteral", "(LTruthScan$Value;)I"⟩, 13), (⟨"TruthScan", "fits", "(ILTruthScan$Column;ILTruthScan$Column;II)Z"⟩, 13), (⟨"TruthScan", "areLiterals", "(III)Z"⟩, 13), (⟨"TruthScan", "isCondition", "()Z"⟩, 13), (⟨"TruthScan", "stepsHaveRows", "(I)Z"⟩, 13), (⟨"TruthScan", "outcome", "(I)I"⟩, 13), (⟨"TruthScan$Step", "canBeOutside", "()Z"⟩, 7), (⟨"TruthScan$Step", "isOutside", "(LTruthScan$Value;)Z"⟩, 7), (⟨"TruthScan$Step", "canBeInside", "()Z"⟩, 7), (⟨"TruthScan$Step", "canCompare", "(I)Z"⟩, 7), (⟨"TruthScan$Step", "valueOfOther", "(I)LTruthScan$Value;"⟩, 7), (⟨"TruthScanModel", "isColumn", "(I)Z"⟩, 28), (⟨"TruthScanModel", "fromTape", "(III)V"⟩, 28)]
theorem lw_r1 : ∀ q ∈ lw_privs_1, lw_okq q := List.forall_mem_cons.mpr ⟨lw_p0, List.forall_mem_cons.mpr ⟨lw_p1, List.forall_mem_cons.mpr ⟨lw_p2, List.forall_mem_cons.mpr ⟨lw_p3, List.forall_mem_cons.mpr ⟨lw_p4, List.forall_mem_cons.mpr ⟨lw_p5, List.forall_mem_cons.mpr ⟨lw_p6, List.forall_mem_cons.mpr ⟨lw_p7, List.forall_mem_cons.mpr ⟨lw_p8, List.forall_mem_cons.mpr ⟨lw_p9, List.forall_mem_cons.mpr ⟨lw_p10, List.forall_mem_cons.mpr ⟨lw_p11, List.forall_mem_cons.mpr ⟨lw_p12, List.forall_mem_cons.mpr ⟨lw_p13, List.forall_mem_cons.mpr ⟨lw_p14, List.forall_mem_cons.mpr ⟨lw_p15, fun _ h => absurd h List.not_mem_nil⟩⟩⟩⟩⟩⟩⟩⟩⟩⟩⟩⟩⟩⟩⟩⟩
theorem lw_p16 : lw_okq (⟨"TruthScanModel", "isTest", "(IIIII)Z"⟩, 28) := ⟨⟨by decide +kernel, by decide +kernel⟩, List.mem_of_getElem? (i := 402) (by decide +kernel), List.mem_of_getElem? (i := 544) (by decide +kernel), List.mem_of_getElem? (i := 545) (by decide +kernel)⟩
theorem lw_p17 : lw_okq (⟨"TruthScanModel", "areLiterals", "(III)Z"⟩, 28) := ⟨⟨by decide +kernel, by decide +kernel⟩, List.mem_of_getElem? (i := 402) (by decide +kernel), List.mem_of_getElem? (i := 548) (by decide +kernel), List.mem_of_getElem? (i := 549) (by decide +kernel)⟩
theorem lw_p18 : lw_okq (⟨"TruthScanModel", "isCondition", "()Z"⟩, 28) := ⟨⟨by decide +kernel, by decide +kernel⟩, List.mem_of_getElem? (i := 402) (by decide +kernel), List.mem_of_getElem? (i := 560) (by decide +kernel), List.mem_of_getElem? (i := 561) (by decide +kernel)⟩
theorem lw_p19 : lw_okq (⟨"TruthScanModel", "condition", "(I)I"⟩, 28) := ⟨⟨by decide +kernel, by decide +kernel⟩, List.mem_of_getElem? (i := 402) (by decide +kernel), List.mem_of_getElem? (i := 564) (by decide +kernel), List.mem_of_getElem? (i := 565) (by decide +kernel)⟩
theorem lw_p20 : lw_okq (⟨"TruthScanModel", "canOf", "(I)I"⟩, 28) := ⟨⟨by decide +kernel, by decide +kernel⟩, List.mem_of_getElem? (i := 402) (by decide +kernel), List.mem_of_getElem? (i := 568) (by decide +kernel), List.mem_of_getElem? (i := 569) (by decide +kernel)⟩
theorem lw_p21 : lw_okq (⟨"TruthScanModel", "mayMeet", "(III)Z"⟩, 28) := ⟨⟨by decide +kernel, by decide +kernel⟩, List.mem_of_getElem? (i := 402) (by decide +kernel), List.mem_of_getElem? (i := 572) (by decide +kernel), List.mem_of_getElem? (i := 573) (by decide +kernel)⟩
theorem lw_p22 : lw_okq (⟨"TruthScanModel", "compare", "(III)I"⟩, 28) := ⟨⟨by decide +kernel, by decide +kernel⟩, List.mem_of_getElem? (i := 402) (by decide +kernel), List.mem_of_getElem? (i := 576) (by decide +kernel), List.mem_of_getElem? (i := 577) (by decide +kernel)⟩
theorem lw_p23 : lw_okq (⟨"TruthScanModel", "may", "(III)Z"⟩, 28) := ⟨⟨by decide +kernel, by decide +kernel⟩, List.mem_of_getElem? (i := 402) (by decide +kernel), List.mem_of_getElem? (i := 583) (by decide +kernel), List.mem_of_getElem? (i := 584) (by decide +kernel)⟩
theorem lw_p24 : lw_okq (⟨"TruthScanModel", "mayBeNone", "(I)Z"⟩, 28) := ⟨⟨by decide +kernel, by decide +kernel⟩, List.mem_of_getElem? (i := 402) (by decide +kernel), List.mem_of_getElem? (i := 590) (by decide +kernel), List.mem_of_getElem? (i := 591) (by decide +kernel)⟩
theorem lw_p25 : lw_okq (⟨"TruthScanModel", "isIn", "(II)Z"⟩, 28) := ⟨⟨by decide +kernel, by decide +kernel⟩, List.mem_of_getElem? (i := 402) (by decide +kernel), List.mem_of_getElem? (i := 594) (by decide +kernel), List.mem_of_getElem? (i := 595) (by decide +kernel)⟩
theorem lw_p26 : lw_okq (⟨"TruthScanModel", "truthOf", "(II)I"⟩, 28) := ⟨⟨by decide +kernel, by decide +kernel⟩, List.mem_of_getElem? (i := 402) (by decide +kernel), List.mem_of_getElem? (i := 598) (by decide +kernel), List.mem_of_getElem? (i := 599) (by decide +kernel)⟩
theorem lw_p27 : lw_okq (⟨"TruthScanModel", "most", "(II)I"⟩, 28) := ⟨⟨by decide +kernel, by decide +kernel⟩, List.mem_of_getElem? (i := 402) (by decide +kernel), List.mem_of_getElem? (i := 621) (by decide +kernel), List.mem_of_getElem? (i := 622) (by decide +kernel)⟩
theorem lw_p28 : lw_okq (⟨"TruthScanModel", "copy", "(III)V"⟩, 28) := ⟨⟨by decide +kernel, by decide +kernel⟩, List.mem_of_getElem? (i := 402) (by decide +kernel), List.mem_of_getElem? (i := 626) (by decide +kernel), List.mem_of_getElem? (i := 627) (by decide +kernel)⟩
theorem lw_p29 : lw_okq (⟨"TruthScanModel", "isFirst", "(II)Z"⟩, 28) := ⟨⟨by decide +kernel, by decide +kernel⟩, List.mem_of_getElem? (i := 402) (by decide +kernel), List.mem_of_getElem? (i := 634) (by decide +kernel), List.mem_of_getElem? (i := 635) (by decide +kernel)⟩
def lw_privs_2 : List (MethodName × Nat) := [(⟨"TruthScanModel", "isTest", "(IIIII)Z"⟩, 28), (⟨"TruthScanModel", "areLiterals", "(III)Z"⟩, 28), (⟨"TruthScanModel", "isCondition", "()Z"⟩, 28), (⟨"TruthScanModel", "condition", "(I)I"⟩, 28), (⟨"TruthScanModel", "canOf", "(I)I"⟩, 28), (⟨"TruthScanModel", "mayMeet", "(III)Z"⟩, 28), (⟨"TruthScanModel", "compare", "(III)I"⟩, 28), (⟨"TruthScanModel", "may", "(III)Z"⟩, 28), (⟨"TruthScanModel", "mayBeNone", "(I)Z"⟩, 28), (⟨"TruthScanModel", "isIn", "(II)Z"⟩, 28), (⟨"TruthScanModel", "truthOf", "(II)I"⟩, 28), (⟨"TruthScanModel", "most", "(II)I"⟩, 28), (⟨"TruthScanModel", "copy", "(III)V"⟩, 28), (⟨"TruthScanModel", "isFirst", "(II)Z"⟩, 28)]
theorem lw_r2 : ∀ q ∈ lw_privs_2, lw_okq q := List.forall_mem_cons.mpr ⟨lw_p16, List.forall_mem_cons.mpr ⟨lw_p17, List.forall_mem_cons.mpr ⟨lw_p18, List.forall_mem_cons.mpr ⟨lw_p19, List.forall_mem_cons.mpr ⟨lw_p20, List.forall_mem_cons.mpr ⟨lw_p21, List.forall_mem_cons.mpr ⟨lw_p22, List.forall_mem_cons.mpr ⟨lw_p23, List.forall_mem_cons.mpr ⟨lw_p24, List.forall_mem_cons.mpr ⟨lw_p25, List.forall_mem_cons.mpr ⟨lw_p26, List.forall_mem_cons.mpr ⟨lw_p27, List.forall_mem_cons.mpr ⟨lw_p28, List.forall_mem_cons.mpr ⟨lw_p29, fun _ h => absurd h List.not_mem_nil⟩⟩⟩⟩⟩⟩⟩⟩⟩⟩⟩⟩⟩⟩
def lw_privs : List (MethodName × Nat) := lw_privs_1 ++ (lw_privs_2)
def lw_tbl : List Cond := k2_sels lw_privs ++ tables_1
theorem lw_privs_ok : ∀ q ∈ lw_privs, lw_okq q := by
  show ∀ q ∈ lw_privs_1 ++ (lw_privs_2), lw_okq q
  exact List.forall_mem_append.mpr ⟨lw_r1, lw_r2⟩
def RT : String := "TruthScan"
def FT : u_T := fun k => match k with
  | 0 => ("TruthScan", "columns", "[LTruthScan$Column;", true)
  | 1 => ("TruthScan", "columnCount", "I", false)
  | 2 => ("TruthScan", "tape", "[B", true)
  | 3 => ("TruthScan", "tapeLength", "I", false)
  | 4 => ("TruthScan", "literals", "[LTruthScan$Value;", true)
  | 5 => ("TruthScan", "literalCount", "I", false)
  | 6 => ("TruthScan", "steps", "[LTruthScan$Step;", true)
  | 7 => ("TruthScan", "stepCount", "I", false)
  | 8 => ("TruthScan", "waiting", "[I", true)
  | 9 => ("TruthScan", "rowTruths", "[I", true)
  | 10 => ("TruthScan", "scannedRows", "I", false)
  | 11 => ("TruthScan", "trueRows", "[I", true)
  | _ => ("TruthScan", "trueCount", "I", false)
def tT : Nat → FieldType := fun k => match k with
  | 0 => .array (.object "TruthScan$Column")
  | 1 => .int
  | 2 => .array .byte
  | 3 => .int
  | 4 => .array (.object "TruthScan$Value")
  | 5 => .int
  | 6 => .array (.object "TruthScan$Step")
  | 7 => .int
  | 8 => .array .int
  | 9 => .array .int
  | 10 => .int
  | 11 => .array .int
  | _ => .int
def RC : String := "TruthScan$Column"
def FC : u_T := fun k => match k with
  | 0 => ("TruthScan$Column", "type", "I", true)
  | 1 => ("TruthScan$Column", "rows", "[LTruthScan$Value;", true)
  | 2 => ("TruthScan$Column", "rowCount", "I", false)
  | 3 => ("TruthScan$Column", "textBytes", "I", false)
  | 4 => ("TruthScan$Column", "isKnown", "Z", false)
  | 5 => ("TruthScan$Column", "knownRows", "I", false)
  | 6 => ("TruthScan$Column", "knownMissing", "I", false)
  | 7 => ("TruthScan$Column", "least", "LTruthScan$Value;", false)
  | 8 => ("TruthScan$Column", "greatest", "LTruthScan$Value;", false)
  | 9 => ("TruthScan$Column", "entries", "[LTruthScan$Value;", false)
  | 10 => ("TruthScan$Column", "entryCount", "I", false)
  | _ => ("TruthScan$Column", "spareEntries", "[LTruthScan$Value;", false)
def tC : Nat → FieldType := fun k => match k with
  | 0 => .int
  | 1 => .array (.object "TruthScan$Value")
  | 2 => .int
  | 3 => .int
  | 4 => .boolean
  | 5 => .int
  | 6 => .int
  | 7 => .object "TruthScan$Value"
  | 8 => .object "TruthScan$Value"
  | 9 => .array (.object "TruthScan$Value")
  | 10 => .int
  | _ => .array (.object "TruthScan$Value")
def RS : String := "TruthScan$Step"
def FS : u_T := fun k => match k with
  | 0 => ("TruthScan$Step", "kind", "I", true)
  | 1 => ("TruthScan$Step", "column", "LTruthScan$Column;", true)
  | 2 => ("TruthScan$Step", "operator", "I", true)
  | 3 => ("TruthScan$Step", "other", "LTruthScan$Column;", true)
  | 4 => ("TruthScan$Step", "literals", "[LTruthScan$Value;", true)
  | 5 => ("TruthScan$Step", "firstLiteral", "I", true)
  | _ => ("TruthScan$Step", "literalCount", "I", true)
def tS : Nat → FieldType := fun k => match k with
  | 0 => .int
  | 1 => .object "TruthScan$Column"
  | 2 => .int
  | 3 => .object "TruthScan$Column"
  | 4 => .array (.object "TruthScan$Value")
  | 5 => .int
  | _ => .int
def RV : String := "TruthScan$Value"
def FV : u_T := fun k => match k with
  | 0 => ("TruthScan$Value", "type", "I", true)
  | 1 => ("TruthScan$Value", "number", "J", true)
  | _ => ("TruthScan$Value", "text", "[B", true)
def tV : Nat → FieldType := fun k => match k with
  | 0 => .int
  | 1 => .long
  | _ => .array .byte
def RM : String := "TruthScanModel"
def FM : u_T := fun k => match k with
  | 0 => ("TruthScanModel", "code", "I", false)
  | 1 => ("TruthScanModel", "tape", "[I", true)
  | 2 => ("TruthScanModel", "taped", "I", false)
  | 3 => ("TruthScanModel", "number", "[J", true)
  | 4 => ("TruthScanModel", "from", "[I", true)
  | 5 => ("TruthScanModel", "size", "[I", true)
  | 6 => ("TruthScanModel", "bytes", "[I", true)
  | 7 => ("TruthScanModel", "type", "[I", true)
  | 8 => ("TruthScanModel", "count", "[I", true)
  | 9 => ("TruthScanModel", "used", "[I", true)
  | 10 => ("TruthScanModel", "rows", "[I", true)
  | 11 => ("TruthScanModel", "missing", "[I", true)
  | 12 => ("TruthScanModel", "words", "[I", true)
  | 13 => ("TruthScanModel", "isKnown", "[Z", true)
  | 14 => ("TruthScanModel", "hasMost", "[Z", true)
  | 15 => ("TruthScanModel", "has", "[Z", true)
  | 16 => ("TruthScanModel", "columns", "I", false)
  | 17 => ("TruthScanModel", "literals", "I", false)
  | 18 => ("TruthScanModel", "steps", "I", false)
  | 19 => ("TruthScanModel", "literalType", "[I", true)
  | 20 => ("TruthScanModel", "kind", "[I", true)
  | 21 => ("TruthScanModel", "first", "[I", true)
  | 22 => ("TruthScanModel", "operator", "[I", true)
  | 23 => ("TruthScanModel", "other", "[I", true)
  | 24 => ("TruthScanModel", "many", "[I", true)
  | 25 => ("TruthScanModel", "truths", "[I", true)
  | 26 => ("TruthScanModel", "pile", "[I", true)
  | _ => ("TruthScanModel", "looked", "I", false)
def tM : Nat → FieldType := fun k => match k with
  | 0 => .int
  | 1 => .array .int
  | 2 => .int
  | 3 => .array .long
  | 4 => .array .int
  | 5 => .array .int
  | 6 => .array .int
  | 7 => .array .int
  | 8 => .array .int
  | 9 => .array .int
  | 10 => .array .int
  | 11 => .array .int
  | 12 => .array .int
  | 13 => .array .boolean
  | 14 => .array .boolean
  | 15 => .array .boolean
  | 16 => .int
  | 17 => .int
  | 18 => .int
  | 19 => .array .int
  | 20 => .array .int
  | 21 => .array .int
  | 22 => .array .int
  | 23 => .array .int
  | 24 => .array .int
  | 25 => .array .int
  | 26 => .array .int
  | _ => .int
def RL : String := "TruthScanLaw"
def RA : String := "java/util/Arrays"
abbrev vwCl : List vw_C := [(RT, FT, 13), (RC, FC, 12), (RS, FS, 7), (RV, FV, 3), (RM, FM, 28)]
abbrev cT : Nat := 0
abbrev cC : Nat := 1
abbrev cS : Nat := 2
abbrev cV : Nat := 3
abbrev cM : Nat := 4
theorem nm_T : ∀ a, a < 13 → ∀ b, b < 13 → a ≠ b → (FT a).2.1 ≠ (FT b).2.1 := by decide +kernel
theorem ty_T : ∀ k, k < 13 → parseFieldDescriptor (FT k).2.2.1 = some (tT k) := by decide +kernel
theorem nm_C : ∀ a, a < 12 → ∀ b, b < 12 → a ≠ b → (FC a).2.1 ≠ (FC b).2.1 := by decide +kernel
theorem ty_C : ∀ k, k < 12 → parseFieldDescriptor (FC k).2.2.1 = some (tC k) := by decide +kernel
theorem nm_S : ∀ a, a < 7 → ∀ b, b < 7 → a ≠ b → (FS a).2.1 ≠ (FS b).2.1 := by decide +kernel
theorem ty_S : ∀ k, k < 7 → parseFieldDescriptor (FS k).2.2.1 = some (tS k) := by decide +kernel
theorem nm_V : ∀ a, a < 3 → ∀ b, b < 3 → a ≠ b → (FV a).2.1 ≠ (FV b).2.1 := by decide +kernel
theorem ty_V : ∀ k, k < 3 → parseFieldDescriptor (FV k).2.2.1 = some (tV k) := by decide +kernel
theorem nm_M : ∀ a, a < 28 → ∀ b, b < 28 → a ≠ b → (FM a).2.1 ≠ (FM b).2.1 := by decide +kernel
theorem ty_M : ∀ k, k < 28 → parseFieldDescriptor (FM k).2.2.1 = some (tM k) := by decide +kernel
abbrev b_T_init : ByteArray := prog_1_method_1_code
def y_T_init : MethodName := ⟨RT, "<init>", "()V"⟩
abbrev b_T_feed : ByteArray := prog_1_method_2_code
def y_T_feed : MethodName := ⟨RT, "feed", "(IIIII)Z"⟩
abbrev b_T_putOnTape : ByteArray := prog_1_method_19_code
def y_T_putOnTape : MethodName := ⟨RT, "putOnTape", "(I)V"⟩
abbrev b_T_column : ByteArray := prog_1_method_3_code
def y_T_column : MethodName := ⟨RT, "column", "(I)I"⟩
abbrev b_T_add : ByteArray := prog_1_method_4_code
def y_T_add : MethodName := ⟨RT, "add", "(IJI)Z"⟩
abbrev b_T_columnAt : ByteArray := prog_1_method_21_code
def y_T_columnAt : MethodName := ⟨RT, "columnAt", "(I)LTruthScan$Column;"⟩
abbrev b_T_isNumberOf : ByteArray := prog_1_method_23_code
def y_T_isNumberOf : MethodName := ⟨RT, "isNumberOf", "(IJ)Z"⟩
abbrev b_T_addText : ByteArray := prog_1_method_5_code
def y_T_addText : MethodName := ⟨RT, "addText", "(II)Z"⟩
abbrev b_T_isOnTape : ByteArray := prog_1_method_20_code
def y_T_isOnTape : MethodName := ⟨RT, "isOnTape", "(I)Z"⟩
abbrev b_T_miss : ByteArray := prog_1_method_6_code
def y_T_miss : MethodName := ⟨RT, "miss", "(II)Z"⟩
abbrev b_T_clear : ByteArray := prog_1_method_7_code
def y_T_clear : MethodName := ⟨RT, "clear", "(I)Z"⟩
abbrev b_T_literal : ByteArray := prog_1_method_8_code
def y_T_literal : MethodName := ⟨RT, "literal", "(IJ)I"⟩
abbrev b_T_keepLiteral : ByteArray := prog_1_method_22_code
def y_T_keepLiteral : MethodName := ⟨RT, "keepLiteral", "(LTruthScan$Value;)I"⟩
abbrev b_T_literalText : ByteArray := prog_1_method_9_code
def y_T_literalText : MethodName := ⟨RT, "literalText", "(I)I"⟩
abbrev b_T_step : ByteArray := prog_1_method_10_code
def y_T_step : MethodName := ⟨RT, "step", "(IIIII)I"⟩
abbrev b_T_fits : ByteArray := prog_1_method_24_code
def y_T_fits : MethodName := ⟨RT, "fits", "(ILTruthScan$Column;ILTruthScan$Column;II)Z"⟩
abbrev b_T_areLiterals : ByteArray := prog_1_method_26_code
def y_T_areLiterals : MethodName := ⟨RT, "areLiterals", "(III)Z"⟩
abbrev b_T_isOperator : ByteArray := prog_1_method_25_code
def y_T_isOperator : MethodName := ⟨RT, "isOperator", "(I)Z"⟩
abbrev b_T_forget : ByteArray := prog_1_method_11_code
def y_T_forget : MethodName := ⟨RT, "forget", "()V"⟩
abbrev b_T_scan : ByteArray := prog_1_method_12_code
def y_T_scan : MethodName := ⟨RT, "scan", "(I)I"⟩
abbrev b_T_isCondition : ByteArray := prog_1_method_27_code
def y_T_isCondition : MethodName := ⟨RT, "isCondition", "()Z"⟩
abbrev b_T_stepsHaveRows : ByteArray := prog_1_method_28_code
def y_T_stepsHaveRows : MethodName := ⟨RT, "stepsHaveRows", "(I)Z"⟩
abbrev b_T_outcome : ByteArray := prog_1_method_29_code
def y_T_outcome : MethodName := ⟨RT, "outcome", "(I)I"⟩
abbrev b_T_truthSet : ByteArray := prog_1_method_30_code
def y_T_truthSet : MethodName := ⟨RT, "truthSet", "(ZZZ)I"⟩
abbrev b_T_not : ByteArray := prog_1_method_32_code
def y_T_not : MethodName := ⟨RT, "not", "(I)I"⟩
abbrev b_T_has : ByteArray := prog_1_method_31_code
def y_T_has : MethodName := ⟨RT, "has", "(II)Z"⟩
abbrev b_T_isAmong : ByteArray := prog_1_method_35_code
def y_T_isAmong : MethodName := ⟨RT, "isAmong", "(LTruthScan$Value;[LTruthScan$Value;II)Z"⟩
abbrev b_T_contrary : ByteArray := prog_1_method_37_code
def y_T_contrary : MethodName := ⟨RT, "contrary", "(I)I"⟩
abbrev b_T_canHold : ByteArray := prog_1_method_38_code
def y_T_canHold : MethodName := ⟨RT, "canHold", "(ILTruthScan$Value;LTruthScan$Value;LTruthScan$Value;LTruthScan$Value;)Z"⟩
abbrev b_T_holds : ByteArray := prog_1_method_36_code
def y_T_holds : MethodName := ⟨RT, "holds", "(II)Z"⟩
abbrev b_T_and : ByteArray := prog_1_method_33_code
def y_T_and : MethodName := ⟨RT, "and", "(II)I"⟩
abbrev b_T_or : ByteArray := prog_1_method_34_code
def y_T_or : MethodName := ⟨RT, "or", "(II)I"⟩
abbrev b_T_truth : ByteArray := prog_1_method_13_code
def y_T_truth : MethodName := ⟨RT, "truth", "(I)I"⟩
abbrev b_T_chosen : ByteArray := prog_1_method_14_code
def y_T_chosen : MethodName := ⟨RT, "chosen", "(I)I"⟩
abbrev b_T_known : ByteArray := prog_1_method_15_code
def y_T_known : MethodName := ⟨RT, "known", "(III)Z"⟩
abbrev b_T_dictionary : ByteArray := prog_1_method_16_code
def y_T_dictionary : MethodName := ⟨RT, "dictionary", "(I)Z"⟩
abbrev b_T_unknown : ByteArray := prog_1_method_17_code
def y_T_unknown : MethodName := ⟨RT, "unknown", "(I)Z"⟩
abbrev b_T_can : ByteArray := prog_1_method_18_code
def y_T_can : MethodName := ⟨RT, "can", "()I"⟩
abbrev b_C_init : ByteArray := prog_2_method_1_code
def y_C_init : MethodName := ⟨RC, "<init>", "(I)V"⟩
abbrev b_C_hasRoomFor : ByteArray := prog_2_method_2_code
def y_C_hasRoomFor : MethodName := ⟨RC, "hasRoomFor", "(I)Z"⟩
abbrev b_C_append : ByteArray := prog_2_method_4_code
def y_C_append : MethodName := ⟨RC, "append", "(LTruthScan$Value;I)V"⟩
abbrev b_C_hasRoomForBytes : ByteArray := prog_2_method_3_code
def y_C_hasRoomForBytes : MethodName := ⟨RC, "hasRoomForBytes", "(I)Z"⟩
abbrev b_C_removeRows : ByteArray := prog_2_method_5_code
def y_C_removeRows : MethodName := ⟨RC, "removeRows", "()V"⟩
abbrev b_C_mayHaveValues : ByteArray := prog_2_method_10_code
def y_C_mayHaveValues : MethodName := ⟨RC, "mayHaveValues", "()Z"⟩
abbrev b_C_mayMiss : ByteArray := prog_2_method_9_code
def y_C_mayMiss : MethodName := ⟨RC, "mayMiss", "()Z"⟩
abbrev b_C_mayHold : ByteArray := prog_2_method_11_code
def y_C_mayHold : MethodName := ⟨RC, "mayHold", "(LTruthScan$Value;)Z"⟩
abbrev b_C_valueAt : ByteArray := prog_2_method_6_code
def y_C_valueAt : MethodName := ⟨RC, "valueAt", "(I)LTruthScan$Value;"⟩
abbrev b_C_learn : ByteArray := prog_2_method_7_code
def y_C_learn : MethodName := ⟨RC, "learn", "(II)Z"⟩
abbrev b_C_learnDictionary : ByteArray := prog_2_method_8_code
def y_C_learnDictionary : MethodName := ⟨RC, "learnDictionary", "()Z"⟩
abbrev b_S_init : ByteArray := prog_3_method_1_code
def y_S_init : MethodName := ⟨RS, "<init>", "(ILTruthScan$Column;ILTruthScan$Column;[LTruthScan$Value;II)V"⟩
abbrev b_S_takes : ByteArray := prog_3_method_2_code
def y_S_takes : MethodName := ⟨RS, "takes", "()I"⟩
abbrev b_S_canBe : ByteArray := prog_3_method_5_code
def y_S_canBe : MethodName := ⟨RS, "canBe", "()I"⟩
abbrev b_S_canBeOutside : ByteArray := prog_3_method_7_code
def y_S_canBeOutside : MethodName := ⟨RS, "canBeOutside", "()Z"⟩
abbrev b_S_isOutside : ByteArray := prog_3_method_8_code
def y_S_isOutside : MethodName := ⟨RS, "isOutside", "(LTruthScan$Value;)Z"⟩
abbrev b_S_canBeInside : ByteArray := prog_3_method_6_code
def y_S_canBeInside : MethodName := ⟨RS, "canBeInside", "()Z"⟩
abbrev b_S_canCompare : ByteArray := prog_3_method_9_code
def y_S_canCompare : MethodName := ⟨RS, "canCompare", "(I)Z"⟩
abbrev b_S_atRow : ByteArray := prog_3_method_3_code
def y_S_atRow : MethodName := ⟨RS, "atRow", "(I)I"⟩
abbrev b_S_valueOfOther : ByteArray := prog_3_method_4_code
def y_S_valueOfOther : MethodName := ⟨RS, "valueOfOther", "(I)LTruthScan$Value;"⟩
abbrev b_V_init : ByteArray := prog_4_method_1_code
def y_V_init : MethodName := ⟨RV, "<init>", "(IJ[B)V"⟩
abbrev b_V_order : ByteArray := prog_4_method_2_code
def y_V_order : MethodName := ⟨RV, "order", "(LTruthScan$Value;)I"⟩
abbrev b_M_init : ByteArray := prog_6_method_1_code
def y_M_init : MethodName := ⟨RM, "<init>", "()V"⟩
abbrev b_M_feed : ByteArray := prog_6_method_3_code
def y_M_feed : MethodName := ⟨RM, "feed", "(IIIII)Z"⟩
abbrev b_M_column : ByteArray := prog_6_method_9_code
def y_M_column : MethodName := ⟨RM, "column", "(I)I"⟩
abbrev b_M_add : ByteArray := prog_6_method_10_code
def y_M_add : MethodName := ⟨RM, "add", "(IJI)Z"⟩
abbrev b_M_isColumn : ByteArray := prog_6_method_7_code
def y_M_isColumn : MethodName := ⟨RM, "isColumn", "(I)Z"⟩
abbrev b_M_isValue : ByteArray := prog_6_method_8_code
def y_M_isValue : MethodName := ⟨RM, "isValue", "(IJ)Z"⟩
abbrev b_M_addText : ByteArray := prog_6_method_11_code
def y_M_addText : MethodName := ⟨RM, "addText", "(II)Z"⟩
abbrev b_M_fromTape : ByteArray := prog_6_method_6_code
def y_M_fromTape : MethodName := ⟨RM, "fromTape", "(III)V"⟩
abbrev b_M_miss : ByteArray := prog_6_method_12_code
def y_M_miss : MethodName := ⟨RM, "miss", "(II)Z"⟩
abbrev b_M_clear : ByteArray := prog_6_method_13_code
def y_M_clear : MethodName := ⟨RM, "clear", "(I)Z"⟩
abbrev b_M_literal : ByteArray := prog_6_method_14_code
def y_M_literal : MethodName := ⟨RM, "literal", "(IJ)I"⟩
abbrev b_M_literalText : ByteArray := prog_6_method_15_code
def y_M_literalText : MethodName := ⟨RM, "literalText", "(I)I"⟩
abbrev b_M_step : ByteArray := prog_6_method_18_code
def y_M_step : MethodName := ⟨RM, "step", "(IIIII)I"⟩
abbrev b_M_isTest : ByteArray := prog_6_method_17_code
def y_M_isTest : MethodName := ⟨RM, "isTest", "(IIIII)Z"⟩
abbrev b_M_areLiterals : ByteArray := prog_6_method_16_code
def y_M_areLiterals : MethodName := ⟨RM, "areLiterals", "(III)Z"⟩
abbrev b_M_forget : ByteArray := prog_6_method_19_code
def y_M_forget : MethodName := ⟨RM, "forget", "()V"⟩
abbrev b_M_scan : ByteArray := prog_6_method_26_code
def y_M_scan : MethodName := ⟨RM, "scan", "(I)I"⟩
abbrev b_M_isCondition : ByteArray := prog_6_method_20_code
def y_M_isCondition : MethodName := ⟨RM, "isCondition", "()Z"⟩
abbrev b_M_condition : ByteArray := prog_6_method_25_code
def y_M_condition : MethodName := ⟨RM, "condition", "(I)I"⟩
abbrev b_M_canOf : ByteArray := prog_6_method_39_code
def y_M_canOf : MethodName := ⟨RM, "canOf", "(I)I"⟩
abbrev b_M_mayMeet : ByteArray := prog_6_method_35_code
def y_M_mayMeet : MethodName := ⟨RM, "mayMeet", "(III)Z"⟩
abbrev b_M_compare : ByteArray := prog_6_method_4_code
def y_M_compare : MethodName := ⟨RM, "compare", "(III)I"⟩
abbrev b_M_holds : ByteArray := prog_6_method_21_code
def y_M_holds : MethodName := ⟨RM, "holds", "(II)Z"⟩
abbrev b_M_may : ByteArray := prog_6_method_34_code
def y_M_may : MethodName := ⟨RM, "may", "(III)Z"⟩
abbrev b_M_contrary : ByteArray := prog_6_method_38_code
def y_M_contrary : MethodName := ⟨RM, "contrary", "(I)I"⟩
abbrev b_M_mayBeNone : ByteArray := prog_6_method_37_code
def y_M_mayBeNone : MethodName := ⟨RM, "mayBeNone", "(I)Z"⟩
abbrev b_M_isIn : ByteArray := prog_6_method_36_code
def y_M_isIn : MethodName := ⟨RM, "isIn", "(II)Z"⟩
abbrev b_M_truthOf : ByteArray := prog_6_method_22_code
def y_M_truthOf : MethodName := ⟨RM, "truthOf", "(II)I"⟩
abbrev b_M_turned : ByteArray := prog_6_method_23_code
def y_M_turned : MethodName := ⟨RM, "turned", "(I)I"⟩
abbrev b_M_joined : ByteArray := prog_6_method_24_code
def y_M_joined : MethodName := ⟨RM, "joined", "(II)I"⟩
abbrev b_M_truth : ByteArray := prog_6_method_27_code
def y_M_truth : MethodName := ⟨RM, "truth", "(I)I"⟩
abbrev b_M_chosen : ByteArray := prog_6_method_28_code
def y_M_chosen : MethodName := ⟨RM, "chosen", "(I)I"⟩
abbrev b_M_known : ByteArray := prog_6_method_30_code
def y_M_known : MethodName := ⟨RM, "known", "(III)Z"⟩
abbrev b_M_most : ByteArray := prog_6_method_29_code
def y_M_most : MethodName := ⟨RM, "most", "(II)I"⟩
abbrev b_M_copy : ByteArray := prog_6_method_5_code
def y_M_copy : MethodName := ⟨RM, "copy", "(III)V"⟩
abbrev b_M_dictionary : ByteArray := prog_6_method_32_code
def y_M_dictionary : MethodName := ⟨RM, "dictionary", "(I)Z"⟩
abbrev b_M_isFirst : ByteArray := prog_6_method_31_code
def y_M_isFirst : MethodName := ⟨RM, "isFirst", "(II)Z"⟩
abbrev b_M_unknown : ByteArray := prog_6_method_33_code
def y_M_unknown : MethodName := ⟨RM, "unknown", "(I)Z"⟩
abbrev b_M_can : ByteArray := prog_6_method_40_code
def y_M_can : MethodName := ⟨RM, "can", "()I"⟩
abbrev b_A_copyOf : ByteArray := prog_10_method_121_code
def y_A_copyOf : MethodName := ⟨RA, "copyOf", "([BI)[B"⟩
abbrev b_L_law : ByteArray := code
def jtbl : List Cond := lw_tbl.filter goodWord
theorem jtbl_good : ∀ w ∈ jtbl, goodWord w = true := fun w h => (List.mem_filter.mp h).2
def jnest : List Cond := [.methodLinkNest "TruthScan$Step" 62 y_T_truthSet "TruthScan", .methodLinkNest "TruthScan$Step" 73 y_T_not "TruthScan", .methodLinkNest "TruthScan$Step" 41 y_T_isAmong "TruthScan", .methodLinkNest "TruthScan$Column" 61 y_T_isAmong "TruthScan", .methodLinkNest "TruthScan$Step" 83 y_T_contrary "TruthScan", .methodLinkNest "TruthScan$Step" 110 y_T_canHold "TruthScan", .methodLinkNest "TruthScan$Step" 54 y_T_holds "TruthScan"]
def jover : List String := [RC, RV, RS]
theorem jnest_kind : ∀ w ∈ jnest, ∃ (a : String) (i : Nat) (x : MethodName) (b : String), w = .methodLinkNest a i x b := by
  intro w hw
  simp only [jnest, List.mem_cons, List.not_mem_nil, or_false] at hw
  rcases hw with rfl | rfl | rfl | rfl | rfl | rfl | rfl <;> exact ⟨_, _, _, _, rfl⟩
theorem jnest_tab : ∀ w ∈ jnest, w.onTables = true := by decide +kernel
def jtyl : List FieldType := [.int, .byte, .long, .boolean, .object RC, .object RV, .object RS]
