-- ===== PART A: goes FIRST, ahead of the names: the tables' words, and 'selects' of the private methods out of them =====
/-- a private method of a class that the tables say can be made, by its rows of tables_1 -/
def lw_okq (q : MethodName × Nat) : Prop := (q.1.cls ≠ "java/lang/invoke/MethodHandle" ∧ q.1.cls ≠ "java/lang/invoke/VarHandle") ∧ Cond.instantiable q.1.cls q.2 ∈ tables_1 ∧ Cond.privateMethod q.1 ∈ tables_1 ∧ Cond.instanceMethod q.1 ∈ tables_1
theorem lw_p0 : lw_okq (⟨"WeightedTrellis", "startAnew", "(II)V"⟩, 13) := ⟨⟨by decide +kernel, by decide +kernel⟩, List.mem_of_getElem? (i := 7) (by decide +kernel), List.mem_of_getElem? (i := 15) (by decide +kernel), List.mem_of_getElem? (i := 16) (by decide +kernel)⟩
theorem lw_p1 : lw_okq (⟨"WeightedTrellis", "reckon", "()V"⟩, 13) := ⟨⟨by decide +kernel, by decide +kernel⟩, List.mem_of_getElem? (i := 7) (by decide +kernel), List.mem_of_getElem? (i := 22) (by decide +kernel), List.mem_of_getElem? (i := 23) (by decide +kernel)⟩
theorem lw_p2 : lw_okq (⟨"WeightedTrellis", "sumBefore", "()V"⟩, 13) := ⟨⟨by decide +kernel, by decide +kernel⟩, List.mem_of_getElem? (i := 7) (by decide +kernel), List.mem_of_getElem? (i := 26) (by decide +kernel), List.mem_of_getElem? (i := 27) (by decide +kernel)⟩
theorem lw_p3 : lw_okq (⟨"WeightedTrellis", "entry", "(III)J"⟩, 13) := ⟨⟨by decide +kernel, by decide +kernel⟩, List.mem_of_getElem? (i := 7) (by decide +kernel), List.mem_of_getElem? (i := 33) (by decide +kernel), List.mem_of_getElem? (i := 34) (by decide +kernel)⟩
theorem lw_p4 : lw_okq (⟨"WeightedTrellis", "sumInto", "(II)J"⟩, 13) := ⟨⟨by decide +kernel, by decide +kernel⟩, List.mem_of_getElem? (i := 7) (by decide +kernel), List.mem_of_getElem? (i := 40) (by decide +kernel), List.mem_of_getElem? (i := 41) (by decide +kernel)⟩
theorem lw_p5 : lw_okq (⟨"WeightedTrellis", "sumBehind", "()V"⟩, 13) := ⟨⟨by decide +kernel, by decide +kernel⟩, List.mem_of_getElem? (i := 7) (by decide +kernel), List.mem_of_getElem? (i := 44) (by decide +kernel), List.mem_of_getElem? (i := 45) (by decide +kernel)⟩
theorem lw_p6 : lw_okq (⟨"WeightedTrellis", "sumOutOf", "(II)J"⟩, 13) := ⟨⟨by decide +kernel, by decide +kernel⟩, List.mem_of_getElem? (i := 7) (by decide +kernel), List.mem_of_getElem? (i := 48) (by decide +kernel), List.mem_of_getElem? (i := 49) (by decide +kernel)⟩
theorem lw_p7 : lw_okq (⟨"WeightedTrellis", "rankFrom", "(IIJ)V"⟩, 13) := ⟨⟨by decide +kernel, by decide +kernel⟩, List.mem_of_getElem? (i := 7) (by decide +kernel), List.mem_of_getElem? (i := 52) (by decide +kernel), List.mem_of_getElem? (i := 53) (by decide +kernel)⟩
theorem lw_p8 : lw_okq (⟨"WeightedTrellis", "rankWay", "(IJ)V"⟩, 13) := ⟨⟨by decide +kernel, by decide +kernel⟩, List.mem_of_getElem? (i := 7) (by decide +kernel), List.mem_of_getElem? (i := 56) (by decide +kernel), List.mem_of_getElem? (i := 57) (by decide +kernel)⟩
theorem lw_p9 : lw_okq (⟨"WeightedTrellis", "hasWeight", "(III)Z"⟩, 13) := ⟨⟨by decide +kernel, by decide +kernel⟩, List.mem_of_getElem? (i := 7) (by decide +kernel), List.mem_of_getElem? (i := 113) (by decide +kernel), List.mem_of_getElem? (i := 114) (by decide +kernel)⟩
theorem lw_p10 : lw_okq (⟨"WeightedTrellis", "rowsOf", "(I)I"⟩, 13) := ⟨⟨by decide +kernel, by decide +kernel⟩, List.mem_of_getElem? (i := 7) (by decide +kernel), List.mem_of_getElem? (i := 117) (by decide +kernel), List.mem_of_getElem? (i := 118) (by decide +kernel)⟩
theorem lw_p11 : lw_okq (⟨"WeightedTrellis", "columnsOf", "(I)I"⟩, 13) := ⟨⟨by decide +kernel, by decide +kernel⟩, List.mem_of_getElem? (i := 7) (by decide +kernel), List.mem_of_getElem? (i := 121) (by decide +kernel), List.mem_of_getElem? (i := 122) (by decide +kernel)⟩
theorem lw_p12 : lw_okq (⟨"WeightedTrellis", "hasPlace", "(I)Z"⟩, 13) := ⟨⟨by decide +kernel, by decide +kernel⟩, List.mem_of_getElem? (i := 7) (by decide +kernel), List.mem_of_getElem? (i := 145) (by decide +kernel), List.mem_of_getElem? (i := 146) (by decide +kernel)⟩
theorem lw_p13 : lw_okq (⟨"WeightedTrellis", "hasState", "(I)Z"⟩, 13) := ⟨⟨by decide +kernel, by decide +kernel⟩, List.mem_of_getElem? (i := 7) (by decide +kernel), List.mem_of_getElem? (i := 157) (by decide +kernel), List.mem_of_getElem? (i := 158) (by decide +kernel)⟩
theorem lw_p14 : lw_okq (⟨"WeightedTrellis", "hasRank", "(I)Z"⟩, 13) := ⟨⟨by decide +kernel, by decide +kernel⟩, List.mem_of_getElem? (i := 7) (by decide +kernel), List.mem_of_getElem? (i := 173) (by decide +kernel), List.mem_of_getElem? (i := 174) (by decide +kernel)⟩
theorem lw_p15 : lw_okq (⟨"WeightedTrellis", "unitsOf", "(III)J"⟩, 13) := ⟨⟨by decide +kernel, by decide +kernel⟩, List.mem_of_getElem? (i := 7) (by decide +kernel), List.mem_of_getElem? (i := 185) (by decide +kernel), List.mem_of_getElem? (i := 186) (by decide +kernel)⟩
def lw_privs_1 : List (MethodName × Nat) := [(⟨"WeightedTrellis", "startAnew", "(II)V"⟩, 13), (⟨"WeightedTrellis", "reckon", "()V"⟩, 13), (⟨"WeightedTrellis", "sumBefore", "()V"⟩, 13), (⟨"WeightedTrellis", "entry", "(III)J"⟩, 13), (⟨"WeightedTrellis", "sumInto", "(II)J"⟩, 13), (⟨"WeightedTrellis", "sumBehind", "()V"⟩, 13), (⟨"WeightedTrellis", "sumOutOf", "(II)J"⟩, 13), (⟨"WeightedTrellis", "rankFrom", "(IIJ)V"⟩, 13), (⟨"WeightedTrellis", "rankWay", "(IJ)V"⟩, 13), (⟨"WeightedTrellis", "hasWeight", "(III)Z"⟩, 13), (⟨"WeightedTrellis", "rowsOf", "(I)I"⟩, 13), (⟨"WeightedTrellis", "columnsOf", "(I)I"⟩, 13), (⟨"WeightedTrellis", "hasPlace", "(I)Z"⟩, 13), (⟨"WeightedTrellis", "hasState", "(I)Z"⟩, 13), (⟨"WeightedTrellis", "hasRank", "(I)Z"⟩, 13), (⟨"WeightedTrellis", "unitsOf", "(III)J"⟩, 13)]
theorem lw_r1 : ∀ q ∈ lw_privs_1, lw_okq q := List.forall_mem_cons.mpr ⟨lw_p0, List.forall_mem_cons.mpr ⟨lw_p1, List.forall_mem_cons.mpr ⟨lw_p2, List.forall_mem_cons.mpr ⟨lw_p3, List.forall_mem_cons.mpr ⟨lw_p4, List.forall_mem_cons.mpr ⟨lw_p5, List.forall_mem_cons.mpr ⟨lw_p6, List.forall_mem_cons.mpr ⟨lw_p7, List.forall_mem_cons.mpr ⟨lw_p8, List.forall_mem_cons.mpr ⟨lw_p9, List.forall_mem_cons.mpr ⟨lw_p10, List.forall_mem_cons.mpr ⟨lw_p11, List.forall_mem_cons.mpr ⟨lw_p12, List.forall_mem_cons.mpr ⟨lw_p13, List.forall_mem_cons.mpr ⟨lw_p14, List.forall_mem_cons.mpr ⟨lw_p15, fun _ h => absurd h List.not_mem_nil⟩⟩⟩⟩⟩⟩⟩⟩⟩⟩⟩⟩⟩⟩⟩⟩
theorem lw_p16 : lw_okq (⟨"WeightedTrellis", "unitsThrough", "(II)J"⟩, 13) := ⟨⟨by decide +kernel, by decide +kernel⟩, List.mem_of_getElem? (i := 7) (by decide +kernel), List.mem_of_getElem? (i := 189) (by decide +kernel), List.mem_of_getElem? (i := 190) (by decide +kernel)⟩
theorem lw_p17 : lw_okq (⟨"WeightedTrellis", "unitsOfStep", "(II)J"⟩, 13) := ⟨⟨by decide +kernel, by decide +kernel⟩, List.mem_of_getElem? (i := 7) (by decide +kernel), List.mem_of_getElem? (i := 193) (by decide +kernel), List.mem_of_getElem? (i := 194) (by decide +kernel)⟩
theorem lw_p18 : lw_okq (⟨"WeightedTrellis", "unitsOfSymbol", "(II)J"⟩, 13) := ⟨⟨by decide +kernel, by decide +kernel⟩, List.mem_of_getElem? (i := 7) (by decide +kernel), List.mem_of_getElem? (i := 197) (by decide +kernel), List.mem_of_getElem? (i := 198) (by decide +kernel)⟩
theorem lw_p19 : lw_okq (⟨"WeightedTrellis", "unitsOfRow", "(II)J"⟩, 13) := ⟨⟨by decide +kernel, by decide +kernel⟩, List.mem_of_getElem? (i := 7) (by decide +kernel), List.mem_of_getElem? (i := 212) (by decide +kernel), List.mem_of_getElem? (i := 213) (by decide +kernel)⟩
theorem lw_p20 : lw_okq (⟨"WeightedTrellis", "learnedPortion", "(IIIJ)J"⟩, 13) := ⟨⟨by decide +kernel, by decide +kernel⟩, List.mem_of_getElem? (i := 7) (by decide +kernel), List.mem_of_getElem? (i := 216) (by decide +kernel), List.mem_of_getElem? (i := 217) (by decide +kernel)⟩
theorem lw_p21 : lw_okq (⟨"WeightedTrellis", "learnedWhole", "(IIJ)J"⟩, 13) := ⟨⟨by decide +kernel, by decide +kernel⟩, List.mem_of_getElem? (i := 7) (by decide +kernel), List.mem_of_getElem? (i := 220) (by decide +kernel), List.mem_of_getElem? (i := 221) (by decide +kernel)⟩
theorem lw_p22 : lw_okq (⟨"WeightedTrellis", "weightOfRow", "(II)J"⟩, 13) := ⟨⟨by decide +kernel, by decide +kernel⟩, List.mem_of_getElem? (i := 7) (by decide +kernel), List.mem_of_getElem? (i := 224) (by decide +kernel), List.mem_of_getElem? (i := 225) (by decide +kernel)⟩
theorem lw_p23 : lw_okq (⟨"WeightedTrellis", "learnRow", "(II)I"⟩, 13) := ⟨⟨by decide +kernel, by decide +kernel⟩, List.mem_of_getElem? (i := 7) (by decide +kernel), List.mem_of_getElem? (i := 232) (by decide +kernel), List.mem_of_getElem? (i := 233) (by decide +kernel)⟩
theorem lw_p24 : lw_okq (⟨"WeightedTrellisModel", "clear", "()V"⟩, 13) := ⟨⟨by decide +kernel, by decide +kernel⟩, List.mem_of_getElem? (i := 252) (by decide +kernel), List.mem_of_getElem? (i := 258) (by decide +kernel), List.mem_of_getElem? (i := 259) (by decide +kernel)⟩
theorem lw_p25 : lw_okq (⟨"WeightedTrellisModel", "slot", "(III)I"⟩, 13) := ⟨⟨by decide +kernel, by decide +kernel⟩, List.mem_of_getElem? (i := 252) (by decide +kernel), List.mem_of_getElem? (i := 310) (by decide +kernel), List.mem_of_getElem? (i := 311) (by decide +kernel)⟩
theorem lw_p26 : lw_okq (⟨"WeightedTrellisModel", "state", "(I)Z"⟩, 13) := ⟨⟨by decide +kernel, by decide +kernel⟩, List.mem_of_getElem? (i := 252) (by decide +kernel), List.mem_of_getElem? (i := 314) (by decide +kernel), List.mem_of_getElem? (i := 315) (by decide +kernel)⟩
theorem lw_p27 : lw_okq (⟨"WeightedTrellisModel", "isSymbol", "(I)Z"⟩, 13) := ⟨⟨by decide +kernel, by decide +kernel⟩, List.mem_of_getElem? (i := 252) (by decide +kernel), List.mem_of_getElem? (i := 318) (by decide +kernel), List.mem_of_getElem? (i := 319) (by decide +kernel)⟩
theorem lw_p28 : lw_okq (⟨"WeightedTrellisModel", "power", "(I)I"⟩, 13) := ⟨⟨by decide +kernel, by decide +kernel⟩, List.mem_of_getElem? (i := 252) (by decide +kernel), List.mem_of_getElem? (i := 346) (by decide +kernel), List.mem_of_getElem? (i := 347) (by decide +kernel)⟩
theorem lw_p29 : lw_okq (⟨"WeightedTrellisModel", "weightOf", "(I)J"⟩, 13) := ⟨⟨by decide +kernel, by decide +kernel⟩, List.mem_of_getElem? (i := 252) (by decide +kernel), List.mem_of_getElem? (i := 350) (by decide +kernel), List.mem_of_getElem? (i := 351) (by decide +kernel)⟩
theorem lw_p30 : lw_okq (⟨"WeightedTrellisModel", "spell", "(III)V"⟩, 13) := ⟨⟨by decide +kernel, by decide +kernel⟩, List.mem_of_getElem? (i := 252) (by decide +kernel), List.mem_of_getElem? (i := 354) (by decide +kernel), List.mem_of_getElem? (i := 355) (by decide +kernel)⟩
theorem lw_p31 : lw_okq (⟨"WeightedTrellisModel", "product", "(II)J"⟩, 13) := ⟨⟨by decide +kernel, by decide +kernel⟩, List.mem_of_getElem? (i := 252) (by decide +kernel), List.mem_of_getElem? (i := 358) (by decide +kernel), List.mem_of_getElem? (i := 359) (by decide +kernel)⟩
def lw_privs_2 : List (MethodName × Nat) := [(⟨"WeightedTrellis", "unitsThrough", "(II)J"⟩, 13), (⟨"WeightedTrellis", "unitsOfStep", "(II)J"⟩, 13), (⟨"WeightedTrellis", "unitsOfSymbol", "(II)J"⟩, 13), (⟨"WeightedTrellis", "unitsOfRow", "(II)J"⟩, 13), (⟨"WeightedTrellis", "learnedPortion", "(IIIJ)J"⟩, 13), (⟨"WeightedTrellis", "learnedWhole", "(IIJ)J"⟩, 13), (⟨"WeightedTrellis", "weightOfRow", "(II)J"⟩, 13), (⟨"WeightedTrellis", "learnRow", "(II)I"⟩, 13), (⟨"WeightedTrellisModel", "clear", "()V"⟩, 13), (⟨"WeightedTrellisModel", "slot", "(III)I"⟩, 13), (⟨"WeightedTrellisModel", "state", "(I)Z"⟩, 13), (⟨"WeightedTrellisModel", "isSymbol", "(I)Z"⟩, 13), (⟨"WeightedTrellisModel", "power", "(I)I"⟩, 13), (⟨"WeightedTrellisModel", "weightOf", "(I)J"⟩, 13), (⟨"WeightedTrellisModel", "spell", "(III)V"⟩, 13), (⟨"WeightedTrellisModel", "product", "(II)J"⟩, 13)]
theorem lw_r2 : ∀ q ∈ lw_privs_2, lw_okq q := List.forall_mem_cons.mpr ⟨lw_p16, List.forall_mem_cons.mpr ⟨lw_p17, List.forall_mem_cons.mpr ⟨lw_p18, List.forall_mem_cons.mpr ⟨lw_p19, List.forall_mem_cons.mpr ⟨lw_p20, List.forall_mem_cons.mpr ⟨lw_p21, List.forall_mem_cons.mpr ⟨lw_p22, List.forall_mem_cons.mpr ⟨lw_p23, List.forall_mem_cons.mpr ⟨lw_p24, List.forall_mem_cons.mpr ⟨lw_p25, List.forall_mem_cons.mpr ⟨lw_p26, List.forall_mem_cons.mpr ⟨lw_p27, List.forall_mem_cons.mpr ⟨lw_p28, List.forall_mem_cons.mpr ⟨lw_p29, List.forall_mem_cons.mpr ⟨lw_p30, List.forall_mem_cons.mpr ⟨lw_p31, fun _ h => absurd h List.not_mem_nil⟩⟩⟩⟩⟩⟩⟩⟩⟩⟩⟩⟩⟩⟩⟩⟩
theorem lw_p32 : lw_okq (⟨"WeightedTrellisModel", "rank", "(I)I"⟩, 13) := ⟨⟨by decide +kernel, by decide +kernel⟩, List.mem_of_getElem? (i := 252) (by decide +kernel), List.mem_of_getElem? (i := 378) (by decide +kernel), List.mem_of_getElem? (i := 379) (by decide +kernel)⟩
theorem lw_p33 : lw_okq (⟨"WeightedTrellisModel", "sum", "(III)J"⟩, 13) := ⟨⟨by decide +kernel, by decide +kernel⟩, List.mem_of_getElem? (i := 252) (by decide +kernel), List.mem_of_getElem? (i := 391) (by decide +kernel), List.mem_of_getElem? (i := 392) (by decide +kernel)⟩
theorem lw_p34 : lw_okq (⟨"WeightedTrellisModel", "times", "(III)I"⟩, 13) := ⟨⟨by decide +kernel, by decide +kernel⟩, List.mem_of_getElem? (i := 252) (by decide +kernel), List.mem_of_getElem? (i := 395) (by decide +kernel), List.mem_of_getElem? (i := 396) (by decide +kernel)⟩
theorem lw_p35 : lw_okq (⟨"WeightedTrellisModel", "fraction", "(JJ)V"⟩, 13) := ⟨⟨by decide +kernel, by decide +kernel⟩, List.mem_of_getElem? (i := 252) (by decide +kernel), List.mem_of_getElem? (i := 399) (by decide +kernel), List.mem_of_getElem? (i := 400) (by decide +kernel)⟩
theorem lw_p36 : lw_okq (⟨"WeightedTrellisModel", "part", "(I)J"⟩, 13) := ⟨⟨by decide +kernel, by decide +kernel⟩, List.mem_of_getElem? (i := 252) (by decide +kernel), List.mem_of_getElem? (i := 403) (by decide +kernel), List.mem_of_getElem? (i := 404) (by decide +kernel)⟩
theorem lw_p37 : lw_okq (⟨"WeightedTrellisModel", "learnOne", "(III)V"⟩, 13) := ⟨⟨by decide +kernel, by decide +kernel⟩, List.mem_of_getElem? (i := 252) (by decide +kernel), List.mem_of_getElem? (i := 411) (by decide +kernel), List.mem_of_getElem? (i := 412) (by decide +kernel)⟩
theorem lw_p38 : lw_okq (⟨"WeightedTrellisModel", "columns", "(I)I"⟩, 13) := ⟨⟨by decide +kernel, by decide +kernel⟩, List.mem_of_getElem? (i := 252) (by decide +kernel), List.mem_of_getElem? (i := 415) (by decide +kernel), List.mem_of_getElem? (i := 416) (by decide +kernel)⟩
def lw_privs_3 : List (MethodName × Nat) := [(⟨"WeightedTrellisModel", "rank", "(I)I"⟩, 13), (⟨"WeightedTrellisModel", "sum", "(III)J"⟩, 13), (⟨"WeightedTrellisModel", "times", "(III)I"⟩, 13), (⟨"WeightedTrellisModel", "fraction", "(JJ)V"⟩, 13), (⟨"WeightedTrellisModel", "part", "(I)J"⟩, 13), (⟨"WeightedTrellisModel", "learnOne", "(III)V"⟩, 13), (⟨"WeightedTrellisModel", "columns", "(I)I"⟩, 13)]
theorem lw_r3 : ∀ q ∈ lw_privs_3, lw_okq q := List.forall_mem_cons.mpr ⟨lw_p32, List.forall_mem_cons.mpr ⟨lw_p33, List.forall_mem_cons.mpr ⟨lw_p34, List.forall_mem_cons.mpr ⟨lw_p35, List.forall_mem_cons.mpr ⟨lw_p36, List.forall_mem_cons.mpr ⟨lw_p37, List.forall_mem_cons.mpr ⟨lw_p38, fun _ h => absurd h List.not_mem_nil⟩⟩⟩⟩⟩⟩⟩
def lw_privs : List (MethodName × Nat) := lw_privs_1 ++ (lw_privs_2 ++ (lw_privs_3))
def lw_tbl : List Cond := k2_sels lw_privs ++ tables_1
theorem lw_privs_ok : ∀ q ∈ lw_privs, lw_okq q := by
  show ∀ q ∈ lw_privs_1 ++ (lw_privs_2 ++ (lw_privs_3)), lw_okq q
  exact List.forall_mem_append.mpr ⟨lw_r1, List.forall_mem_append.mpr ⟨lw_r2, lw_r3⟩⟩

def RX0 : String := "WeightedTrellis"
def TX0 : u_T := fun k => match k with
  | 0 => ("WeightedTrellis", "stateCount", "I", false)
  | 1 => ("WeightedTrellis", "symbolCount", "I", false)
  | 2 => ("WeightedTrellis", "weights", "[I", true)
  | 3 => ("WeightedTrellis", "learnedWeights", "[I", true)
  | 4 => ("WeightedTrellis", "seenCount", "I", false)
  | 5 => ("WeightedTrellis", "seenSymbols", "[I", true)
  | 6 => ("WeightedTrellis", "sumsBefore", "[J", true)
  | 7 => ("WeightedTrellis", "sumsBehind", "[J", true)
  | 8 => ("WeightedTrellis", "wayCount", "I", false)
  | 9 => ("WeightedTrellis", "rankedWeights", "[J", true)
  | 10 => ("WeightedTrellis", "rankedWays", "[I", true)
  | 11 => ("WeightedTrellis", "drawnCount", "I", false)
  | _ => ("WeightedTrellis", "drawnStates", "[I", true)
def tyX0 : Nat → FieldType := fun k => match k with
  | 0 => .int
  | 1 => .int
  | 2 => .array .int
  | 3 => .array .int
  | 4 => .int
  | 5 => .array .int
  | 6 => .array .long
  | 7 => .array .long
  | 8 => .int
  | 9 => .array .long
  | 10 => .array .int
  | 11 => .int
  | _ => .array .int

theorem nmX0 : ∀ a, a < 13 → ∀ b, b < 13 → a ≠ b → (TX0 a).2.1 ≠ (TX0 b).2.1 := by decide +kernel
theorem tyX0_ok : ∀ k, k < 13 → parseFieldDescriptor (TX0 k).2.2.1 = some (tyX0 k) := by decide +kernel
def RX1 : String := "WeightedTrellisModel"
def TX1 : u_T := fun k => match k with
  | 0 => ("WeightedTrellisModel", "states", "I", false)
  | 1 => ("WeightedTrellisModel", "symbols", "I", false)
  | 2 => ("WeightedTrellisModel", "weights", "[I", false)
  | 3 => ("WeightedTrellisModel", "n", "I", false)
  | 4 => ("WeightedTrellisModel", "row", "[I", false)
  | 5 => ("WeightedTrellisModel", "way", "[I", false)
  | 6 => ("WeightedTrellisModel", "isDrawn", "Z", false)
  | 7 => ("WeightedTrellisModel", "drawnSize", "I", false)
  | 8 => ("WeightedTrellisModel", "chosen", "[I", false)
  | 9 => ("WeightedTrellisModel", "all", "[J", false)
  | 10 => ("WeightedTrellisModel", "fresh", "[I", false)
  | 11 => ("WeightedTrellisModel", "top", "J", false)
  | _ => ("WeightedTrellisModel", "bottom", "J", false)
def tyX1 : Nat → FieldType := fun k => match k with
  | 0 => .int
  | 1 => .int
  | 2 => .array .int
  | 3 => .int
  | 4 => .array .int
  | 5 => .array .int
  | 6 => .boolean
  | 7 => .int
  | 8 => .array .int
  | 9 => .array .long
  | 10 => .array .int
  | 11 => .long
  | _ => .long
theorem nmX1 : ∀ a, a < 13 → ∀ b, b < 13 → a ≠ b → (TX1 a).2.1 ≠ (TX1 b).2.1 := by decide +kernel
theorem tyX1_ok : ∀ k, k < 13 → parseFieldDescriptor (TX1 k).2.2.1 = some (tyX1 k) := by decide +kernel
def RJ7 : String := "java/util/Arrays"
def RL : String := "WeightedTrellisLaw"
abbrev vwCl : List vw_C := [(RX0, TX0, 13), (RX1, TX1, 13)]
abbrev cL_law : ByteArray := code
abbrev cX0_init : ByteArray := prog_1_method_1_code
def yX0_init : MethodName := ⟨RX0, "<init>", "()V"⟩
abbrev cX0_startAnew : ByteArray := prog_1_method_20_code
def yX0_startAnew : MethodName := ⟨RX0, "startAnew", "(II)V"⟩
abbrev cJ7_fill : ByteArray := prog_6_method_103_code
def yJ7_fill : MethodName := ⟨RJ7, "fill", "([II)V"⟩
abbrev cX0_reckon : ByteArray := prog_1_method_30_code
def yX0_reckon : MethodName := ⟨RX0, "reckon", "()V"⟩
abbrev cX0_sumBefore : ByteArray := prog_1_method_31_code
def yX0_sumBefore : MethodName := ⟨RX0, "sumBefore", "()V"⟩
abbrev cX0_cell : ByteArray := prog_1_method_28_code
def yX0_cell : MethodName := ⟨RX0, "cell", "(II)I"⟩
abbrev cX0_entry : ByteArray := prog_1_method_29_code
def yX0_entry : MethodName := ⟨RX0, "entry", "(III)J"⟩
abbrev cX0_slot : ByteArray := prog_1_method_27_code
def yX0_slot : MethodName := ⟨RX0, "slot", "(III)I"⟩
abbrev cX0_sumInto : ByteArray := prog_1_method_32_code
def yX0_sumInto : MethodName := ⟨RX0, "sumInto", "(II)J"⟩
abbrev cX0_sumBehind : ByteArray := prog_1_method_33_code
def yX0_sumBehind : MethodName := ⟨RX0, "sumBehind", "()V"⟩
abbrev cX0_sumOutOf : ByteArray := prog_1_method_34_code
def yX0_sumOutOf : MethodName := ⟨RX0, "sumOutOf", "(II)J"⟩
abbrev cX0_rankFrom : ByteArray := prog_1_method_35_code
def yX0_rankFrom : MethodName := ⟨RX0, "rankFrom", "(IIJ)V"⟩
abbrev cX0_rankWay : ByteArray := prog_1_method_36_code
def yX0_rankWay : MethodName := ⟨RX0, "rankWay", "(IJ)V"⟩
abbrev cX0_size : ByteArray := prog_1_method_2_code
def yX0_size : MethodName := ⟨RX0, "size", "(II)Z"⟩
abbrev cX0_weigh : ByteArray := prog_1_method_3_code
def yX0_weigh : MethodName := ⟨RX0, "weigh", "(IIII)Z"⟩
abbrev cX0_hasWeight : ByteArray := prog_1_method_23_code
def yX0_hasWeight : MethodName := ⟨RX0, "hasWeight", "(III)Z"⟩
abbrev cX0_rowsOf : ByteArray := prog_1_method_21_code
def yX0_rowsOf : MethodName := ⟨RX0, "rowsOf", "(I)I"⟩
abbrev cX0_columnsOf : ByteArray := prog_1_method_22_code
def yX0_columnsOf : MethodName := ⟨RX0, "columnsOf", "(I)I"⟩
abbrev cX0_weight : ByteArray := prog_1_method_4_code
def yX0_weight : MethodName := ⟨RX0, "weight", "(III)I"⟩
abbrev cX0_see : ByteArray := prog_1_method_5_code
def yX0_see : MethodName := ⟨RX0, "see", "(I)I"⟩
abbrev cX0_forget : ByteArray := prog_1_method_6_code
def yX0_forget : MethodName := ⟨RX0, "forget", "(I)I"⟩
abbrev cX0_seen : ByteArray := prog_1_method_7_code
def yX0_seen : MethodName := ⟨RX0, "seen", "()I"⟩
abbrev cX0_symbol : ByteArray := prog_1_method_8_code
def yX0_symbol : MethodName := ⟨RX0, "symbol", "(I)I"⟩
abbrev cX0_hasPlace : ByteArray := prog_1_method_24_code
def yX0_hasPlace : MethodName := ⟨RX0, "hasPlace", "(I)Z"⟩
abbrev cX0_total : ByteArray := prog_1_method_9_code
def yX0_total : MethodName := ⟨RX0, "total", "()J"⟩
abbrev cX0_before : ByteArray := prog_1_method_10_code
def yX0_before : MethodName := ⟨RX0, "before", "(II)J"⟩
abbrev cX0_hasState : ByteArray := prog_1_method_25_code
def yX0_hasState : MethodName := ⟨RX0, "hasState", "(I)Z"⟩
abbrev cX0_behind : ByteArray := prog_1_method_11_code
def yX0_behind : MethodName := ⟨RX0, "behind", "(II)J"⟩
abbrev cX0_ways : ByteArray := prog_1_method_12_code
def yX0_ways : MethodName := ⟨RX0, "ways", "()I"⟩
abbrev cX0_ranked : ByteArray := prog_1_method_13_code
def yX0_ranked : MethodName := ⟨RX0, "ranked", "(I)J"⟩
abbrev cX0_hasRank : ByteArray := prog_1_method_26_code
def yX0_hasRank : MethodName := ⟨RX0, "hasRank", "(I)Z"⟩
abbrev cX0_stateOf : ByteArray := prog_1_method_14_code
def yX0_stateOf : MethodName := ⟨RX0, "stateOf", "(II)I"⟩
abbrev cX0_share : ByteArray := prog_1_method_15_code
def yX0_share : MethodName := ⟨RX0, "share", "(IIII)J"⟩
abbrev cX0_unitsOf : ByteArray := prog_1_method_37_code
def yX0_unitsOf : MethodName := ⟨RX0, "unitsOf", "(III)J"⟩
abbrev cX0_unitsThrough : ByteArray := prog_1_method_38_code
def yX0_unitsThrough : MethodName := ⟨RX0, "unitsThrough", "(II)J"⟩
abbrev cX0_unitsOfStep : ByteArray := prog_1_method_39_code
def yX0_unitsOfStep : MethodName := ⟨RX0, "unitsOfStep", "(II)J"⟩
abbrev cX0_unitsOfSymbol : ByteArray := prog_1_method_40_code
def yX0_unitsOfSymbol : MethodName := ⟨RX0, "unitsOfSymbol", "(II)J"⟩
abbrev cX0_partOf : ByteArray := prog_1_method_47_code
def yX0_partOf : MethodName := ⟨RX0, "partOf", "(JJI)J"⟩
abbrev cX0_commonDivisor : ByteArray := prog_1_method_48_code
def yX0_commonDivisor : MethodName := ⟨RX0, "commonDivisor", "(JJ)J"⟩
abbrev cX0_learned : ByteArray := prog_1_method_16_code
def yX0_learned : MethodName := ⟨RX0, "learned", "(IIII)J"⟩
abbrev cX0_unitsOfRow : ByteArray := prog_1_method_41_code
def yX0_unitsOfRow : MethodName := ⟨RX0, "unitsOfRow", "(II)J"⟩
abbrev cX0_learnedPortion : ByteArray := prog_1_method_43_code
def yX0_learnedPortion : MethodName := ⟨RX0, "learnedPortion", "(IIIJ)J"⟩
abbrev cX0_learnedWhole : ByteArray := prog_1_method_44_code
def yX0_learnedWhole : MethodName := ⟨RX0, "learnedWhole", "(IIJ)J"⟩
abbrev cX0_weightOfRow : ByteArray := prog_1_method_42_code
def yX0_weightOfRow : MethodName := ⟨RX0, "weightOfRow", "(II)J"⟩
abbrev cX0_learn : ByteArray := prog_1_method_17_code
def yX0_learn : MethodName := ⟨RX0, "learn", "()I"⟩
abbrev cX0_learnRow : ByteArray := prog_1_method_45_code
def yX0_learnRow : MethodName := ⟨RX0, "learnRow", "(II)I"⟩
abbrev cX0_nearest : ByteArray := prog_1_method_46_code
def yX0_nearest : MethodName := ⟨RX0, "nearest", "(JJ)I"⟩
abbrev cX0_draw : ByteArray := prog_1_method_18_code
def yX0_draw : MethodName := ⟨RX0, "draw", "(J)Z"⟩
abbrev cX0_drawn : ByteArray := prog_1_method_19_code
def yX0_drawn : MethodName := ⟨RX0, "drawn", "(I)I"⟩
abbrev cX1_init : ByteArray := prog_3_method_1_code
def yX1_init : MethodName := ⟨RX1, "<init>", "()V"⟩
abbrev cX1_clear : ByteArray := prog_3_method_2_code
def yX1_clear : MethodName := ⟨RX1, "clear", "()V"⟩
abbrev cX1_size : ByteArray := prog_3_method_3_code
def yX1_size : MethodName := ⟨RX1, "size", "(II)Z"⟩
abbrev cX1_weigh : ByteArray := prog_3_method_7_code
def yX1_weigh : MethodName := ⟨RX1, "weigh", "(IIII)Z"⟩
abbrev cX1_slot : ByteArray := prog_3_method_6_code
def yX1_slot : MethodName := ⟨RX1, "slot", "(III)I"⟩
abbrev cX1_state : ByteArray := prog_3_method_4_code
def yX1_state : MethodName := ⟨RX1, "state", "(I)Z"⟩
abbrev cX1_isSymbol : ByteArray := prog_3_method_5_code
def yX1_isSymbol : MethodName := ⟨RX1, "isSymbol", "(I)Z"⟩
abbrev cX1_weight : ByteArray := prog_3_method_8_code
def yX1_weight : MethodName := ⟨RX1, "weight", "(III)I"⟩
abbrev cX1_see : ByteArray := prog_3_method_9_code
def yX1_see : MethodName := ⟨RX1, "see", "(I)I"⟩
abbrev cX1_forget : ByteArray := prog_3_method_10_code
def yX1_forget : MethodName := ⟨RX1, "forget", "(I)I"⟩
abbrev cX1_seen : ByteArray := prog_3_method_11_code
def yX1_seen : MethodName := ⟨RX1, "seen", "()I"⟩
abbrev cX1_symbol : ByteArray := prog_3_method_12_code
def yX1_symbol : MethodName := ⟨RX1, "symbol", "(I)I"⟩
abbrev cX1_total : ByteArray := prog_3_method_17_code
def yX1_total : MethodName := ⟨RX1, "total", "()J"⟩
abbrev cX1_power : ByteArray := prog_3_method_13_code
def yX1_power : MethodName := ⟨RX1, "power", "(I)I"⟩
abbrev cX1_weightOf : ByteArray := prog_3_method_16_code
def yX1_weightOf : MethodName := ⟨RX1, "weightOf", "(I)J"⟩
abbrev cX1_spell : ByteArray := prog_3_method_14_code
def yX1_spell : MethodName := ⟨RX1, "spell", "(III)V"⟩
abbrev cX1_product : ByteArray := prog_3_method_15_code
def yX1_product : MethodName := ⟨RX1, "product", "(II)J"⟩
abbrev cX1_before : ByteArray := prog_3_method_18_code
def yX1_before : MethodName := ⟨RX1, "before", "(II)J"⟩
abbrev cX1_behind : ByteArray := prog_3_method_19_code
def yX1_behind : MethodName := ⟨RX1, "behind", "(II)J"⟩
abbrev cX1_ways : ByteArray := prog_3_method_20_code
def yX1_ways : MethodName := ⟨RX1, "ways", "()I"⟩
abbrev cX1_ranked : ByteArray := prog_3_method_22_code
def yX1_ranked : MethodName := ⟨RX1, "ranked", "(I)J"⟩
abbrev cX1_rank : ByteArray := prog_3_method_21_code
def yX1_rank : MethodName := ⟨RX1, "rank", "(I)I"⟩
abbrev cX1_stateOf : ByteArray := prog_3_method_23_code
def yX1_stateOf : MethodName := ⟨RX1, "stateOf", "(II)I"⟩
abbrev cX1_share : ByteArray := prog_3_method_28_code
def yX1_share : MethodName := ⟨RX1, "share", "(IIII)J"⟩
abbrev cX1_sum : ByteArray := prog_3_method_27_code
def yX1_sum : MethodName := ⟨RX1, "sum", "(III)J"⟩
abbrev cX1_times : ByteArray := prog_3_method_26_code
def yX1_times : MethodName := ⟨RX1, "times", "(III)I"⟩
abbrev cX1_fraction : ByteArray := prog_3_method_24_code
def yX1_fraction : MethodName := ⟨RX1, "fraction", "(JJ)V"⟩
abbrev cX1_part : ByteArray := prog_3_method_25_code
def yX1_part : MethodName := ⟨RX1, "part", "(I)J"⟩
abbrev cX1_learned : ByteArray := prog_3_method_31_code
def yX1_learned : MethodName := ⟨RX1, "learned", "(IIII)J"⟩
abbrev cX1_learnOne : ByteArray := prog_3_method_30_code
def yX1_learnOne : MethodName := ⟨RX1, "learnOne", "(III)V"⟩
abbrev cX1_columns : ByteArray := prog_3_method_29_code
def yX1_columns : MethodName := ⟨RX1, "columns", "(I)I"⟩
abbrev cX1_learn : ByteArray := prog_3_method_32_code
def yX1_learn : MethodName := ⟨RX1, "learn", "()I"⟩
abbrev cX1_draw : ByteArray := prog_3_method_33_code
def yX1_draw : MethodName := ⟨RX1, "draw", "(J)Z"⟩
abbrev cX1_drawn : ByteArray := prog_3_method_34_code
def yX1_drawn : MethodName := ⟨RX1, "drawn", "(I)I"⟩
