section
-- ===== PART A: goes FIRST, ahead of the names: the tables' words, and 'selects' of the private methods out of them =====
/-- a private method of a class that the tables say can be made, by its rows of tables_1 -/
def lw_okq (q : MethodName × Nat) : Prop := (q.1.cls ≠ "java/lang/invoke/MethodHandle" ∧ q.1.cls ≠ "java/lang/invoke/VarHandle") ∧ Cond.instantiable q.1.cls q.2 ∈ tables_1 ∧ Cond.privateMethod q.1 ∈ tables_1 ∧ Cond.instanceMethod q.1 ∈ tables_1
theorem lw_p0 : lw_okq (⟨"WeightedTrellis", "startAnew", "(II)V"⟩, 13) := ⟨⟨by decide +kernel, by decide +kernel⟩, List.mem_of_getElem? (i := 7) (by decide +kernel), List.mem_of_getElem? (i := 15) (by decide +kernel), List.mem_of_getElem? (i := 16) (by decide +kernel)⟩
theorem lw_p1 : lw_okq (⟨"WeightedTrellis", "reckon", "()V"⟩, 13) := ⟨⟨by decide +kernel, by decide +kernel⟩, List.mem_of_getElem? (i := 7) (by decide +kernel), List.mem_of_getElem? (i := 22) (by decide +kernel), List.mem_of_getElem? (i := 23) (by decide +kernel)⟩
theorem lw_p2 : lw_okq (⟨"WeightedTrellis", "sumBefore", "()V"⟩, 13) := ⟨⟨by decide +kernel, by decide +kernel⟩, List.mem_of_getElem? (i := 7) (by decide +kernel), List.mem_of_getElem? (i := 26) (by decide +kernel), List.mem_of_getElem? (i := 27) (by decide +kernel)⟩
theorem lw_p3 : lw_okq (⟨"WeightedTrellis", "entry", "(III)J"⟩, 13) := ⟨⟨by decide +kernel, by decide +kernel⟩, List.mem_of_getElem? (i := 7) (by decide +kernel), List.mem_of_getElem? (i := 33) (by decide +kernel), List.mem_of_getElem? (i := 34) (by decide +kernel)⟩
theorem lw_p4 : lw_okq (⟨"WeightedTrellis", "sumInto", "(II)J"⟩, 13) := ⟨⟨by decide +kernel, by decide +kernel⟩, List.mem_of_getElem? (i := 7) (by decide +kernel), List.mem_of_getElem? (i := 40) (by decide +kernel), List.mem_of_getElem? (i := 41) (by decide +kernel)⟩
theorem lw_p5 : lw_okq (⟨"WeightedTrellis", "sumBehind", "()V"⟩, 13) := ⟨⟨by decide +kernel, by decide +kernel⟩, List.mem_of_getElem? (i := 7) (by decide +kernel), List.mem_of_getElem? (i := 44) (by decide +kernel), List.mem_of_getElem? (i := 45) (by decide +kernel)⟩
theorem lw_p6 : lw_okq (⟨"WeightedTrellis", "sumOutOf", "(II)J"⟩, 13) := ⟨⟨by decide +kernel, by decide +kernel⟩, List.mem_of_getElem? (i := 7) (by decide +kernel), List.mem_of_getElem? (i := 48) (by decide +kernel), List.mem_of_getElem? (i := 49) (by decide +kernel)⟩
theorem lw_p7 : lw_okq (⟨"WeightedTrellis", "rankFrom", "(IIJ)V"⟩, 13) := ⟨⟨by decide +kernel, by decide +kernel⟩, List.mem_of_getElem? (i := 7) (by decide +kernel), List.mem_of_getElem? (i := 52) (by decide +kernel), List.mem_of_getElem? (i := 53) (by decide +kernel)⟩
theorem lw_p8 : lw_okq (⟨"WeightedTrellis", "rankWay", "(IJ)V"⟩, 13) := ⟨⟨by decide +kernel, by decide +kernel⟩, List.mem_of_getElem? (i := 7) (by decide +kernel), List.mem_of_getElem? (i := 56) (by decide +kernel), List.mem_of_getElem? (i := 57) (by decide +kernel)⟩
theorem lw_p9 : lw_okq (⟨"WeightedTrellis", "hasWeight", "(III)Z"⟩, 13) := ⟨⟨by decide +kernel, by decide +kernel⟩, List.mem_of_getElem? (i := 7) (by decide +kernel), List.mem_of_getElem? (i := 113) (by decide +kernel), List.mem_of_getElem? (i := 114) (by decide +kernel)⟩
theorem lw_p10 : lw_okq (⟨"WeightedTrellis", "rowsOf", "(I)I"⟩, 13) := ⟨⟨by decide +kernel, by decide +kernel⟩, List.mem_of_getElem? (i := 7) (by decide +kernel), List.mem_of_getElem? (i := 117) (by decide +kernel), List.mem_of_getElem? (i := 118) (by decide +kernel)⟩
theorem lw_p11 : lw_okq (⟨"WeightedTrellis", "columnsOf", "(I)I"⟩, 13) := ⟨⟨by decide +kernel, by decide +kernel⟩, List.mem_of_getElem? (i := 7) (by decide +kernel), List.mem_of_getElem? (i := 121) (by decide +kernel), List.mem_of_getElem? (i := 122) (by decide +kernel)⟩
theorem lw_p12 : lw_okq (⟨"WeightedTrellis", "hasPlace", "(I)Z"⟩, 13) := ⟨⟨by decide +kernel, by decide +kernel⟩, List.mem_of_getElem? (i := 7) (by decide +kernel), List.mem_of_getElem? (i := 145) (by decide +kernel), List.mem_of_getElem? (i := 146) (by decide +kernel)⟩
theorem lw_p13 : lw_okq (⟨"WeightedTrellis", "hasState", "(I)Z"⟩, 13) := ⟨⟨by decide +kernel, by decide +kernel⟩, List.mem_of_getElem? (i := 7) (by decide +kernel), List.mem_of_getElem? (i := 157) (by decide +kernel), List.mem_of_getElem? (i := 158) (by decide +kernel)⟩
theorem lw_p14 : lw_okq (⟨"WeightedTrellis", "hasRank", "(I)Z"⟩, 13) := ⟨⟨by decide +kernel, by decide +kernel⟩, List.mem_of_getElem? (i := 7) (by decide +kernel), List.mem_of_getElem? (i := 173) (by decide +kernel), List.mem_of_getElem? (i := 174) (by decide +kernel)⟩
theorem lw_p15 : lw_okq (⟨"WeightedTrellis", "unitsOf", "(III)J"⟩, 13) := ⟨⟨by decide +kernel, by decide +kernel⟩, List.mem_of_getElem? (i := 7) (by decide +kernel), List.mem_of_getElem? (i := 185) (by decide +kernel), List.mem_of_getElem? (i := 186) (by decide +kernel)⟩
def lw_privs_1 : List (MethodName × Nat) := [(⟨"WeightedTrellis", "startAnew", "(II)V"⟩, 13), (⟨"WeightedTrellis", "reckon", "()V"⟩, 13), (⟨"WeightedTrellis", "sumBefore", "()V"⟩, 13), (⟨"WeightedTrellis", "entry", "(III)J"⟩, 13), (⟨"WeightedTrellis", "sumInto", "(II)J"⟩, 13), (⟨"WeightedTrellis", "sumBehind", "()V"⟩, 13), (⟨"WeightedTrellis", "sumOutOf", "(II)J"⟩, 13), (⟨"WeightedTrellis", "rankFrom", "(IIJ)V"⟩, 13), (⟨"WeightedTrellis", "rankWay", "(IJ)V"⟩, 13), (⟨"WeightedTrellis", "hasWeight", "(III)Z"⟩, 13), (⟨"WeightedTrellis", "rowsOf", "(I)I"⟩, 13), (⟨"WeightedTrellis", "columnsOf", "(I)I"⟩, 13), (⟨"WeightedTrellis", "hasPlace", "(I)Z"⟩, 13), (⟨"WeightedTrellis", "hasState", "(I)Z"⟩, 13), (⟨"WeightedTrellis", "hasRank", "(I)Z"⟩, 13), (⟨"WeightedTrellis", "unitsOf", "(III)J"⟩, 13)]
theorem lw_r1 : ∀ q ∈ lw_privs_1, lw_okq q := List.forall_mem_cons.mpr ⟨lw_p0, List.forall_mem_cons.mpr ⟨lw_p1, List.forall_mem_cons.mpr ⟨lw_p2, List.forall_mem_cons.mpr ⟨lw_p3, List.forall_mem_cons.mpr ⟨lw_p4, List.forall_mem_cons.mpr ⟨lw_p5, List.forall_mem_cons.mpr ⟨lw_p6, List.forall_mem_cons.mpr ⟨lw_p7, List.forall_mem_cons.mpr ⟨lw_p8, List.forall_mem_cons.mpr ⟨lw_p9, List.forall_mem_cons.mpr ⟨lw_p10, List.forall_mem_cons.mpr ⟨lw_p11, List.forall_mem_cons.mpr ⟨lw_p12, List.forall_mem_cons.mpr ⟨lw_p13, List.forall_mem_cons.mpr ⟨lw_p14, List.forall_mem_cons.mpr ⟨lw_p15, fun _ h => absurd h List.not_mem_nil⟩⟩⟩⟩⟩⟩⟩⟩⟩⟩⟩⟩⟩⟩⟩⟩
theorem lw_p16 : lw_okq (⟨"WeightedTrellis", "unitsThrough", "(II)J"⟩, 13) := ⟨⟨by decide +kernel, by decide +kernel⟩, List.mem_of_getElem? (i := 7) (by decide +kernel), List.mem_of_getElem? (i := 189) (by decide +kernel), List.mem_of_getElem? (i := 190) (by decide +kernel)⟩
theorem lw_p17 : lw_okq (⟨"WeightedTrellis", "unitsOfStep", "(II)J"⟩, 13) := ⟨⟨by decide +kernel, by decide +kernel⟩, List.mem_of_getElem? (i := 7) (by decide +kernel), List.mem_of_getElem? (i := 193) (by decide +kernel), List.mem_of_getElem? (i := 194) (by decide +kernel)⟩
theorem lw_p18 : lw_okq (⟨"WeightedTrellis", "unitsOfSymbol", "(II)J"⟩, 13) := ⟨⟨by decide +kernel, by decide +kernel⟩, List.mem_of_getElem? (i := 7) (by decide +kernel), List.mem_of_getElem? (i := 197) (by decide +kernel), List.mem_of_getElem? (i := 198) (by decide +kernel)⟩
theorem lw_p19 : lw_okq (⟨"WeightedTrellis", "unitsOfRow", "(II)J"⟩, 13) := ⟨⟨by decide +kernel, by decide +kernel⟩, List.mem_of_getElem? (i := 7) (by decide +kernel), List.mem_of_getElem? (i := 212) (by decide +kernel), List.mem_of_getElem? (i := 213) (by decide +kernel)⟩
theorem lw_p20 : lw_okq (⟨"WeightedTrellis", "learnedPortion", "(IIIJ)J"⟩, 13) := ⟨⟨by decide +kernel, by decide +kernel⟩, List.mem_of_getElem? (i := 7) (by decide +kernel), List.mem_of_getElem? (i := 216) (by decide +kernel), List.mem_of_getElem? (i := 217) (by decide +kernel)⟩
theorem lw_p21 : lw_okq (⟨"WeightedTrellis", "learnedWhole", "(IIJ)J"⟩, 13) := ⟨⟨by decide +kernel, by decide +kernel⟩, List.mem_of_getElem? (i := 7) (by decide +kernel), List.mem_of_getElem? (i := 220) (by decide +kernel), List.mem_of_getElem? (i := 221) (by decide +kernel)⟩
theorem lw_p22 : lw_okq (⟨"WeightedTrellis", "weightOfRow", "(II)J"⟩, 13) := ⟨⟨by decide +kernel, by decide +kernel⟩, List.mem_of_getElem? (i := 7) (by decide +kernel), List.mem_of_getElem? (i := 224) (by decide +kernel), List.mem_of_getElem? (i := 225) (by decide +kernel)⟩
theorem lw_p23 : lw_okq (⟨"WeightedTrellis", "learnRow", "(II)I"⟩, 13) := ⟨⟨by decide +kernel, by decide +kernel⟩, List.mem_of_getElem? (i := 7) (by decide +kernel), List.mem_of_getElem? (i := 232) (by decide +kernel), List.mem_of_getElem? (i := 233) (by decide +kernel)⟩
theorem lw_p24 : lw_okq (⟨"WeightedTrellisModel", "clear", "()V"⟩, 13) := ⟨⟨by decide +kernel, by decide +kernel⟩, List.mem_of_getElem? (i := 252) (by decide +kernel), List.mem_of_getElem? (i := 258) (by decide +kernel), List.mem_of_getElem? (i := 259) (by decide +kernel)⟩
theorem lw_p25 : lw_okq (⟨"WeightedTrellisModel", "slot", "(III)I"⟩, 13) := ⟨⟨by decide +kernel, by decide +kernel⟩, List.mem_of_getElem? (i := 252) (by decide +kernel), List.mem_of_getElem? (i := 310) (by decide +kernel), List.mem_of_getElem? (i := 311) (by decide +kernel)⟩
theorem lw_p26 : lw_okq (⟨"WeightedTrellisModel", "state", "(I)Z"⟩, 13) := ⟨⟨by decide +kernel, by decide +kernel⟩, List.mem_of_getElem? (i := 252) (by decide +kernel), List.mem_of_getElem? (i := 314) (by decide +kernel), List.mem_of_getElem? (i := 315) (by decide +kernel)⟩
theorem lw_p27 : lw_okq (⟨"WeightedTrellisModel", "isSymbol", "(I)Z"⟩, 13) := ⟨⟨by decide +kernel, by decide +kernel⟩, List.mem_of_getElem? (i := 252) (by decide +kernel), List.mem_of_getElem? (i := 318) (by decide +kernel), List.mem_of_getElem? (i := 319) (by decide +kernel)⟩
theorem lw_p28 : lw_okq (⟨"WeightedTrellisModel", "power", "(I)I"⟩, 13) := ⟨⟨by decide +kernel, by decide +kernel⟩, List.mem_of_getElem? (i := 252) (by decide +kernel), List.mem_of_getElem? (i := 346) (by decide +kernel), List.mem_of_getElem? (i := 347) (by decide +kernel)⟩
theorem lw_p29 : lw_okq (⟨"WeightedTrellisModel", "weightOf", "(I)J"⟩, 13) := ⟨⟨by decide +kernel, by decide +kernel⟩, List.mem_of_getElem? (i := 252) (by decide +kernel), List.mem_of_getElem? (i := 350) (by decide +kernel), List.mem_of_getElem? (i := 351) (by decide +kernel)⟩
theorem lw_p30 : lw_okq (⟨"WeightedTrellisModel", "spell", "(III)V"⟩, 13) := ⟨⟨by decide +kernel, by decide +kernel⟩, List.mem_of_getElem? (i := 252) (by decide +kernel), List.mem_of_getElem? (i := 354) (by decide +kernel), List.mem_of_getElem? (i := 355) (by decide +kernel)⟩
theorem lw_p31 : lw_okq (⟨"WeightedTrellisModel", "product", "(II)J"⟩, 13) := ⟨⟨by decide +kernel, by decide +kernel⟩, List.mem_of_getElem? (i := 252) (by decide +kernel), List.mem_of_getElem? (i := 358) (by decide +kernel), List.mem_of_getElem? (i := 359) (by decide +kernel)⟩
def lw_privs_2 : List (MethodName × Nat) := [(⟨"WeightedTrellis", "unitsThrough", "(II)J"⟩, 13), (⟨"WeightedTrellis", "unitsOfStep", "(II)J"⟩, 13), (⟨"WeightedTrellis", "unitsOfSymbol", "(II)J"⟩, 13), (⟨"WeightedTrellis", "unitsOfRow", "(II)J"⟩, 13), (⟨"WeightedTrellis", "learnedPortion", "(IIIJ)J"⟩, 13), (⟨"WeightedTrellis", "learnedWhole", "(IIJ)J"⟩, 13), (⟨"WeightedTrellis", "weightOfRow", "(II)J"⟩, 13), (⟨"WeightedTrellis", "learnRow", "(II)I"⟩, 13), (⟨"WeightedTrellisModel", "clear", "()V"⟩, 13), (⟨"WeightedTrellisModel", "slot", "(III)I"⟩, 13), (⟨"WeightedTrellisModel", "state", "(I)Z"⟩, 13), (⟨"WeightedTrellisModel", "isSymbol", "(I)Z"⟩, 13), (⟨"WeightedTrellisModel", "power", "(I)I"⟩, 13), (⟨"WeightedTrellisModel", "weightOf", "(I)J"⟩, 13), (⟨"WeightedTrellisModel", "spell", "(III)V"⟩, 13), (⟨"WeightedTrellisModel", "product", "(II)J"⟩, 13)]
theorem lw_r2 : ∀ q ∈ lw_privs_2, lw_okq q := List.forall_mem_cons.mpr ⟨lw_p16, List.forall_mem_cons.mpr ⟨lw_p17, List.forall_mem_cons.mpr ⟨lw_p18, List.forall_mem_cons.mpr ⟨lw_p19, List.forall_mem_cons.mpr ⟨lw_p20, List.forall_mem_cons.mpr ⟨lw_p21, List.forall_mem_cons.mpr ⟨lw_p22, List.forall_mem_cons.mpr ⟨lw_p23, List.forall_mem_cons.mpr ⟨lw_p24, List.forall_mem_cons.mpr ⟨lw_p25, List.forall_mem_cons.mpr ⟨lw_p26, List.forall_mem_cons.mpr ⟨lw_p27, List.forall_mem_cons.mpr ⟨lw_p28, List.forall_mem_cons.mpr ⟨lw_p29, List.forall_mem_cons.mpr ⟨lw_p30, List.forall_mem_cons.mpr ⟨lw_p31, fun _ h => absurd h List.not_mem_nil⟩⟩⟩⟩⟩⟩⟩⟩⟩⟩⟩⟩⟩⟩⟩⟩
theorem lw_p32 : lw_okq (⟨"WeightedTrellisModel", "rank", "(I)I"⟩, 13) := ⟨⟨by decide +kernel, by decide +kernel⟩, List.mem_of_getElem? (i := 252) (by decide +kernel), List.mem_of_getElem? (i := 378) (by decide +kernel), List.mem_of_getElem? (i := 379) (by decide +kernel)⟩
theorem lw_p33 : lw_okq (⟨"WeightedTrellisModel", "sum", "(III)J"⟩, 13) := ⟨⟨by decide +kernel, by decide +kernel⟩, List.mem_of_getElem? (i := 252) (by decide +kernel), List.mem_of_getElem? (i := 391) (by decide +kernel), List.mem_of_getElem? (i := 392) (by decide +kernel)⟩
theorem lw_p34 : lw_okq (⟨"WeightedTrellisModel", "times", "(III)I"⟩, 13) := ⟨⟨by decide +kernel, by decide +kernel⟩, List.mem_of_getElem? (i := 252) (by decide +kernel), List.mem_of_getElem? (i := 395) (by decide +kernel), List.mem_of_getElem? (i := 396) (by decide +kernel)⟩
theorem lw_p35 : lw_okq (⟨"WeightedTrellisModel", "fraction", "(JJ)V"⟩, 13) := ⟨⟨by decide +kernel, by decide +kernel⟩, List.mem_of_getElem? (i := 252) (by decide +kernel), List.mem_of_getElem? (i := 399) (by decide +kernel), List.mem_of_getElem? (i := 400) (by decide +kernel)⟩
theorem lw_p36 : lw_okq (⟨"WeightedTrellisModel", "part", "(I)J"⟩, 13) := ⟨⟨by decide +kernel, by decide +kernel⟩, List.mem_of_getElem? (i := 252) (by decide +kernel), List.mem_of_getElem? (i := 403) (by decide +kernel), List.mem_of_getElem? (i := 404) (by decide +kernel)⟩
theorem lw_p37 : lw_okq (⟨"WeightedTrellisModel", "learnOne", "(III)V"⟩, 13) := ⟨⟨by decide +kernel, by decide +kernel⟩, List.mem_of_getElem? (i := 252) (by decide +kernel), List.mem_of_getElem? (i := 411) (by decide +kernel), List.mem_of_getElem? (i := 412) (by decide +kernel)⟩
theorem lw_p38 : lw_okq (⟨"WeightedTrellisModel", "columns", "(I)I"⟩, 13) := ⟨⟨by decide +kernel, by decide +kernel⟩, List.mem_of_getElem? (i := 252) (by decide +kernel), List.mem_of_getElem? (i := 415) (by decide +kernel), List.mem_of_getElem? (i := 416) (by decide +kernel)⟩
def lw_privs_3 : List (MethodName × Nat) := [(⟨"WeightedTrellisModel", "rank", "(I)I"⟩, 13), (⟨"WeightedTrellisModel", "sum", "(III)J"⟩, 13), (⟨"WeightedTrellisModel", "times", "(III)I"⟩, 13), (⟨"WeightedTrellisModel", "fraction", "(JJ)V"⟩, 13), (⟨"WeightedTrellisModel", "part", "(I)J"⟩, 13), (⟨"WeightedTrellisModel", "learnOne", "(III)V"⟩, 13), (⟨"WeightedTrellisModel", "columns", "(I)I"⟩, 13)]
theorem lw_r3 : ∀ q ∈ lw_privs_3, lw_okq q := List.forall_mem_cons.mpr ⟨lw_p32, List.forall_mem_cons.mpr ⟨lw_p33, List.forall_mem_cons.mpr ⟨lw_p34, List.forall_mem_cons.mpr ⟨lw_p35, List.forall_mem_cons.mpr ⟨lw_p36, List.forall_mem_cons.mpr ⟨lw_p37, List.forall_mem_cons.mpr ⟨lw_p38, fun _ h => absurd h List.not_mem_nil⟩⟩⟩⟩⟩⟩⟩
def lw_privs : List (MethodName × Nat) := lw_privs_1 ++ (lw_privs_2 ++ (lw_privs_3))
def lw_tbl : List Cond := k2_sels lw_privs ++ tables_1
theorem lw_privs_ok : ∀ q ∈ lw_privs, lw_okq q := by
  show ∀ q ∈ lw_privs_1 ++ (lw_privs_2 ++ (lw_privs_3)), lw_okq q
  exact List.forall_mem_append.mpr ⟨lw_r1, List.forall_mem_append.mpr ⟨lw_r2, lw_r3⟩⟩

def RX0 : String := "WeightedTrellis"
def TX0 : u_T := fun k => match k with
  | 0 => ("WeightedTrellis", "stateCount", "I", false)
  | 1 => ("WeightedTrellis", "symbolCount", "I", false)
  | 2 => ("WeightedTrellis", "weights", "[I", true)
  | 3 => ("WeightedTrellis", "learnedWeights", "[I", true)
  | 4 => ("WeightedTrellis", "seenCount", "I", false)
  | 5 => ("WeightedTrellis", "seenSymbols", "[I", true)
  | 6 => ("WeightedTrellis", "sumsBefore", "[J", true)
  | 7 => ("WeightedTrellis", "sumsBehind", "[J", true)
  | 8 => ("WeightedTrellis", "wayCount", "I", false)
  | 9 => ("WeightedTrellis", "rankedWeights", "[J", true)
  | 10 => ("WeightedTrellis", "rankedWays", "[I", true)
  | 11 => ("WeightedTrellis", "drawnCount", "I", false)
  | _ => ("WeightedTrellis", "drawnStates", "[I", true)
def tyX0 : Nat → FieldType := fun k => match k with
  | 0 => .int
  | 1 => .int
  | 2 => .array .int
  | 3 => .array .int
  | 4 => .int
  | 5 => .array .int
  | 6 => .array .long
  | 7 => .array .long
  | 8 => .int
  | 9 => .array .long
  | 10 => .array .int
  | 11 => .int
  | _ => .array .int

theorem nmX0 : ∀ a, a < 13 → ∀ b, b < 13 → a ≠ b → (TX0 a).2.1 ≠ (TX0 b).2.1 := by decide +kernel
theorem tyX0_ok : ∀ k, k < 13 → parseFieldDescriptor (TX0 k).2.2.1 = some (tyX0 k) := by decide +kernel
def RX1 : String := "WeightedTrellisModel"
def TX1 : u_T := fun k => match k with
  | 0 => ("WeightedTrellisModel", "states", "I", false)
  | 1 => ("WeightedTrellisModel", "symbols", "I", false)
  | 2 => ("WeightedTrellisModel", "weights", "[I", false)
  | 3 => ("WeightedTrellisModel", "n", "I", false)
  | 4 => ("WeightedTrellisModel", "row", "[I", false)
  | 5 => ("WeightedTrellisModel", "way", "[I", false)
  | 6 => ("WeightedTrellisModel", "isDrawn", "Z", false)
  | 7 => ("WeightedTrellisModel", "drawnSize", "I", false)
  | 8 => ("WeightedTrellisModel", "chosen", "[I", false)
  | 9 => ("WeightedTrellisModel", "all", "[J", false)
  | 10 => ("WeightedTrellisModel", "fresh", "[I", false)
  | 11 => ("WeightedTrellisModel", "top", "J", false)
  | _ => ("WeightedTrellisModel", "bottom", "J", false)
def tyX1 : Nat → FieldType := fun k => match k with
  | 0 => .int
  | 1 => .int
  | 2 => .array .int
  | 3 => .int
  | 4 => .array .int
  | 5 => .array .int
  | 6 => .boolean
  | 7 => .int
  | 8 => .array .int
  | 9 => .array .long
  | 10 => .array .int
  | 11 => .long
  | _ => .long
theorem nmX1 : ∀ a, a < 13 → ∀ b, b < 13 → a ≠ b → (TX1 a).2.1 ≠ (TX1 b).2.1 := by decide +kernel
theorem tyX1_ok : ∀ k, k < 13 → parseFieldDescriptor (TX1 k).2.2.1 = some (tyX1 k) := by decide +kernel
def RJ7 : String := "java/util/Arrays"
def RL : String := "WeightedTrellisLaw"
abbrev vwCl : List vw_C := [(RX0, TX0, 13), (RX1, TX1, 13)]
abbrev cL_law : ByteArray := code
abbrev cX0_init : ByteArray := prog_1_method_1_code
def yX0_init : MethodName := ⟨RX0, "<init>", "()V"⟩
abbrev cX0_startAnew : ByteArray := prog_1_method_20_code
def yX0_startAnew : MethodName := ⟨RX0, "startAnew", "(II)V"⟩
abbrev cJ7_fill : ByteArray := prog_6_method_103_code
def yJ7_fill : MethodName := ⟨RJ7, "fill", "([II)V"⟩
abbrev cX0_reckon : ByteArray := prog_1_method_30_code
def yX0_reckon : MethodName := ⟨RX0, "reckon", "()V"⟩
abbrev cX0_sumBefore : ByteArray := prog_1_method_31_code
def yX0_sumBefore : MethodName := ⟨RX0, "sumBefore", "()V"⟩
abbrev cX0_cell : ByteArray := prog_1_method_28_code
def yX0_cell : MethodName := ⟨RX0, "cell", "(II)I"⟩
abbrev cX0_entry : ByteArray := prog_1_method_29_code
def yX0_entry : MethodName := ⟨RX0, "entry", "(III)J"⟩
abbrev cX0_slot : ByteArray := prog_1_method_27_code
def yX0_slot : MethodName := ⟨RX0, "slot", "(III)I"⟩
abbrev cX0_sumInto : ByteArray := prog_1_method_32_code
def yX0_sumInto : MethodName := ⟨RX0, "sumInto", "(II)J"⟩
abbrev cX0_sumBehind : ByteArray := prog_1_method_33_code
def yX0_sumBehind : MethodName := ⟨RX0, "sumBehind", "()V"⟩
abbrev cX0_sumOutOf : ByteArray := prog_1_method_34_code
def yX0_sumOutOf : MethodName := ⟨RX0, "sumOutOf", "(II)J"⟩
abbrev cX0_rankFrom : ByteArray := prog_1_method_35_code
def yX0_rankFrom : MethodName := ⟨RX0, "rankFrom", "(IIJ)V"⟩
abbrev cX0_rankWay : ByteArray := prog_1_method_36_code
def yX0_rankWay : MethodName := ⟨RX0, "rankWay", "(IJ)V"⟩
abbrev cX0_size : ByteArray := prog_1_method_2_code
def yX0_size : MethodName := ⟨RX0, "size", "(II)Z"⟩
abbrev cX0_weigh : ByteArray := prog_1_method_3_code
def yX0_weigh : MethodName := ⟨RX0, "weigh", "(IIII)Z"⟩
abbrev cX0_hasWeight : ByteArray := prog_1_method_23_code
def yX0_hasWeight : MethodName := ⟨RX0, "hasWeight", "(III)Z"⟩
abbrev cX0_rowsOf : ByteArray := prog_1_method_21_code
def yX0_rowsOf : MethodName := ⟨RX0, "rowsOf", "(I)I"⟩
abbrev cX0_columnsOf : ByteArray := prog_1_method_22_code
def yX0_columnsOf : MethodName := ⟨RX0, "columnsOf", "(I)I"⟩
abbrev cX0_weight : ByteArray := prog_1_method_4_code
def yX0_weight : MethodName := ⟨RX0, "weight", "(III)I"⟩
abbrev cX0_see : ByteArray := prog_1_method_5_code
def yX0_see : MethodName := ⟨RX0, "see", "(I)I"⟩
abbrev cX0_forget : ByteArray := prog_1_method_6_code
def yX0_forget : MethodName := ⟨RX0, "forget", "(I)I"⟩
abbrev cX0_seen : ByteArray := prog_1_method_7_code
def yX0_seen : MethodName := ⟨RX0, "seen", "()I"⟩
abbrev cX0_symbol : ByteArray := prog_1_method_8_code
def yX0_symbol : MethodName := ⟨RX0, "symbol", "(I)I"⟩
abbrev cX0_hasPlace : ByteArray := prog_1_method_24_code
def yX0_hasPlace : MethodName := ⟨RX0, "hasPlace", "(I)Z"⟩
abbrev cX0_total : ByteArray := prog_1_method_9_code
def yX0_total : MethodName := ⟨RX0, "total", "()J"⟩
abbrev cX0_before : ByteArray := prog_1_method_10_code
def yX0_before : MethodName := ⟨RX0, "before", "(II)J"⟩
abbrev cX0_hasState : ByteArray := prog_1_method_25_code
def yX0_hasState : MethodName := ⟨RX0, "hasState", "(I)Z"⟩
abbrev cX0_behind : ByteArray := prog_1_method_11_code
def yX0_behind : MethodName := ⟨RX0, "behind", "(II)J"⟩
abbrev cX0_ways : ByteArray := prog_1_method_12_code
def yX0_ways : MethodName := ⟨RX0, "ways", "()I"⟩
abbrev cX0_ranked : ByteArray := prog_1_method_13_code
def yX0_ranked : MethodName := ⟨RX0, "ranked", "(I)J"⟩
abbrev cX0_hasRank : ByteArray := prog_1_method_26_code
def yX0_hasRank : MethodName := ⟨RX0, "hasRank", "(I)Z"⟩
abbrev cX0_stateOf : ByteArray := prog_1_method_14_code
def yX0_stateOf : MethodName := ⟨RX0, "stateOf", "(II)I"⟩
abbrev cX0_share : ByteArray := prog_1_method_15_code
def yX0_share : MethodName := ⟨RX0, "share", "(IIII)J"⟩
abbrev cX0_unitsOf : ByteArray := prog_1_method_37_code
def yX0_unitsOf : MethodName := ⟨RX0, "unitsOf", "(III)J"⟩
abbrev cX0_unitsThrough : ByteArray := prog_1_method_38_code
def yX0_unitsThrough : MethodName := ⟨RX0, "unitsThrough", "(II)J"⟩
abbrev cX0_unitsOfStep : ByteArray := prog_1_method_39_code
def yX0_unitsOfStep : MethodName := ⟨RX0, "unitsOfStep", "(II)J"⟩
abbrev cX0_unitsOfSymbol : ByteArray := prog_1_method_40_code
def yX0_unitsOfSymbol : MethodName := ⟨RX0, "unitsOfSymbol", "(II)J"⟩
abbrev cX0_partOf : ByteArray := prog_1_method_47_code
def yX0_partOf : MethodName := ⟨RX0, "partOf", "(JJI)J"⟩
abbrev cX0_commonDivisor : ByteArray := prog_1_method_48_code
def yX0_commonDivisor : MethodName := ⟨RX0, "commonDivisor", "(JJ)J"⟩
abbrev cX0_learned : ByteArray := prog_1_method_16_code
def yX0_learned : MethodName := ⟨RX0, "learned", "(IIII)J"⟩
abbrev cX0_unitsOfRow : ByteArray := prog_1_method_41_code
def yX0_unitsOfRow : MethodName := ⟨RX0, "unitsOfRow", "(II)J"⟩
abbrev cX0_learnedPortion : ByteArray := prog_1_method_43_code
def yX0_learnedPortion : MethodName := ⟨RX0, "learnedPortion", "(IIIJ)J"⟩
abbrev cX0_learnedWhole : ByteArray := prog_1_method_44_code
def yX0_learnedWhole : MethodName := ⟨RX0, "learnedWhole", "(IIJ)J"⟩
abbrev cX0_weightOfRow : ByteArray := prog_1_method_42_code
def yX0_weightOfRow : MethodName := ⟨RX0, "weightOfRow", "(II)J"⟩
abbrev cX0_learn : ByteArray := prog_1_method_17_code
def yX0_learn : MethodName := ⟨RX0, "learn", "()I"⟩
abbrev cX0_learnRow : ByteArray := prog_1_method_45_code
def yX0_learnRow : MethodName := ⟨RX0, "learnRow", "(II)I"⟩
abbrev cX0_nearest : ByteArray := prog_1_method_46_code
def yX0_nearest : MethodName := ⟨RX0, "nearest", "(JJ)I"⟩
abbrev cX0_draw : ByteArray := prog_1_method_18_code
def yX0_draw : MethodName := ⟨RX0, "draw", "(J)Z"⟩
abbrev cX0_drawn : ByteArray := prog_1_method_19_code
def yX0_drawn : MethodName := ⟨RX0, "drawn", "(I)I"⟩
abbrev cX1_init : ByteArray := prog_3_method_1_code
def yX1_init : MethodName := ⟨RX1, "<init>", "()V"⟩
abbrev cX1_clear : ByteArray := prog_3_method_2_code
def yX1_clear : MethodName := ⟨RX1, "clear", "()V"⟩
abbrev cX1_size : ByteArray := prog_3_method_3_code
def yX1_size : MethodName := ⟨RX1, "size", "(II)Z"⟩
abbrev cX1_weigh : ByteArray := prog_3_method_7_code
def yX1_weigh : MethodName := ⟨RX1, "weigh", "(IIII)Z"⟩
abbrev cX1_slot : ByteArray := prog_3_method_6_code
def yX1_slot : MethodName := ⟨RX1, "slot", "(III)I"⟩
abbrev cX1_state : ByteArray := prog_3_method_4_code
def yX1_state : MethodName := ⟨RX1, "state", "(I)Z"⟩
abbrev cX1_isSymbol : ByteArray := prog_3_method_5_code
def yX1_isSymbol : MethodName := ⟨RX1, "isSymbol", "(I)Z"⟩
abbrev cX1_weight : ByteArray := prog_3_method_8_code
def yX1_weight : MethodName := ⟨RX1, "weight", "(III)I"⟩
abbrev cX1_see : ByteArray := prog_3_method_9_code
def yX1_see : MethodName := ⟨RX1, "see", "(I)I"⟩
abbrev cX1_forget : ByteArray := prog_3_method_10_code
def yX1_forget : MethodName := ⟨RX1, "forget", "(I)I"⟩
abbrev cX1_seen : ByteArray := prog_3_method_11_code
def yX1_seen : MethodName := ⟨RX1, "seen", "()I"⟩
abbrev cX1_symbol : ByteArray := prog_3_method_12_code
def yX1_symbol : MethodName := ⟨RX1, "symbol", "(I)I"⟩
abbrev cX1_total : ByteArray := prog_3_method_17_code
def yX1_total : MethodName := ⟨RX1, "total", "()J"⟩
abbrev cX1_power : ByteArray := prog_3_method_13_code
def yX1_power : MethodName := ⟨RX1, "power", "(I)I"⟩
abbrev cX1_weightOf : ByteArray := prog_3_method_16_code
def yX1_weightOf : MethodName := ⟨RX1, "weightOf", "(I)J"⟩
abbrev cX1_spell : ByteArray := prog_3_method_14_code
def yX1_spell : MethodName := ⟨RX1, "spell", "(III)V"⟩
abbrev cX1_product : ByteArray := prog_3_method_15_code
def yX1_product : MethodName := ⟨RX1, "product", "(II)J"⟩
abbrev cX1_before : ByteArray := prog_3_method_18_code
def yX1_before : MethodName := ⟨RX1, "before", "(II)J"⟩
abbrev cX1_behind : ByteArray := prog_3_method_19_code
def yX1_behind : MethodName := ⟨RX1, "behind", "(II)J"⟩
abbrev cX1_ways : ByteArray := prog_3_method_20_code
def yX1_ways : MethodName := ⟨RX1, "ways", "()I"⟩
abbrev cX1_ranked : ByteArray := prog_3_method_22_code
def yX1_ranked : MethodName := ⟨RX1, "ranked", "(I)J"⟩
abbrev cX1_rank : ByteArray := prog_3_method_21_code
def yX1_rank : MethodName := ⟨RX1, "rank", "(I)I"⟩
abbrev cX1_stateOf : ByteArray := prog_3_method_23_code
def yX1_stateOf : MethodName := ⟨RX1, "stateOf", "(II)I"⟩
abbrev cX1_share : ByteArray := prog_3_method_28_code
def yX1_share : MethodName := ⟨RX1, "share", "(IIII)J"⟩
abbrev cX1_sum : ByteArray := prog_3_method_27_code
def yX1_sum : MethodName := ⟨RX1, "sum", "(III)J"⟩
abbrev cX1_times : ByteArray := prog_3_method_26_code
def yX1_times : MethodName := ⟨RX1, "times", "(III)I"⟩
abbrev cX1_fraction : ByteArray := prog_3_method_24_code
def yX1_fraction : MethodName := ⟨RX1, "fraction", "(JJ)V"⟩
abbrev cX1_part : ByteArray := prog_3_method_25_code
def yX1_part : MethodName := ⟨RX1, "part", "(I)J"⟩
abbrev cX1_learned : ByteArray := prog_3_method_31_code
def yX1_learned : MethodName := ⟨RX1, "learned", "(IIII)J"⟩
abbrev cX1_learnOne : ByteArray := prog_3_method_30_code
def yX1_learnOne : MethodName := ⟨RX1, "learnOne", "(III)V"⟩
abbrev cX1_columns : ByteArray := prog_3_method_29_code
def yX1_columns : MethodName := ⟨RX1, "columns", "(I)I"⟩
abbrev cX1_learn : ByteArray := prog_3_method_32_code
def yX1_learn : MethodName := ⟨RX1, "learn", "()I"⟩
abbrev cX1_draw : ByteArray := prog_3_method_33_code
def yX1_draw : MethodName := ⟨RX1, "draw", "(J)Z"⟩
abbrev cX1_drawn : ByteArray := prog_3_method_34_code
def yX1_drawn : MethodName := ⟨RX1, "drawn", "(I)I"⟩
end
section
/-! sums of naturals below a bound -/
def ms_sum (f : Nat → Nat) : Nat → Nat
  | 0 => 0
  | n + 1 => ms_sum f n + f n
theorem ms_sum_succ (f : Nat → Nat) (n : Nat) : ms_sum f (n + 1) = ms_sum f n + f n := rfl
theorem ms_sum_congr {f g : Nat → Nat} : ∀ {n : Nat}, (∀ k, k < n → f k = g k) → ms_sum f n = ms_sum g n
  | 0, _ => rfl
  | n + 1, h => by
    rw [ms_sum_succ, ms_sum_succ, ms_sum_congr (fun k hk => h k (Nat.lt_succ_of_lt hk)), h n (Nat.lt_succ_self n)]
theorem ms_sum_zero : ∀ n : Nat, ms_sum (fun _ => 0) n = 0
  | 0 => rfl
  | n + 1 => by rw [ms_sum_succ, ms_sum_zero n]
theorem ms_sum_add (f g : Nat → Nat) : ∀ n : Nat, ms_sum (fun k => f k + g k) n = ms_sum f n + ms_sum g n
  | 0 => rfl
  | n + 1 => by rw [ms_sum_succ, ms_sum_succ, ms_sum_succ, ms_sum_add f g n]; omega
theorem ms_sum_mull (c : Nat) (f : Nat → Nat) : ∀ n : Nat, ms_sum (fun k => c * f k) n = c * ms_sum f n
  | 0 => rfl
  | n + 1 => by rw [ms_sum_succ, ms_sum_succ, ms_sum_mull c f n, Nat.mul_add]
theorem ms_sum_mulr (c : Nat) (f : Nat → Nat) : ∀ n : Nat, ms_sum (fun k => f k * c) n = ms_sum f n * c
  | 0 => (Nat.zero_mul c).symm
  | n + 1 => by rw [ms_sum_succ, ms_sum_succ, ms_sum_mulr c f n, Nat.add_mul]
theorem ms_sum_split (f : Nat → Nat) (a : Nat) : ∀ b : Nat, ms_sum f (a + b) = ms_sum f a + ms_sum (fun k => f (a + k)) b
  | 0 => rfl
  | b + 1 => by
    rw [← Nat.add_assoc, ms_sum_succ, ms_sum_succ, ms_sum_split f a b]; omega
theorem ms_sum_block (f : Nat → Nat) (b : Nat) : ∀ a : Nat, ms_sum f (a * b) = ms_sum (fun i => ms_sum (fun j => f (i * b + j)) b) a
  | 0 => by rw [Nat.zero_mul]; rfl
  | a + 1 => by rw [Nat.succ_mul, ms_sum_split, ms_sum_block f b a, ms_sum_succ]
theorem ms_sum_swap (f : Nat → Nat → Nat) (m : Nat) : ∀ n : Nat, ms_sum (fun i => ms_sum (f i) m) n = ms_sum (fun j => ms_sum (fun i => f i j) n) m
  | 0 => (ms_sum_zero m).symm
  | n + 1 => by
    rw [ms_sum_succ, ms_sum_swap f m n, ← ms_sum_add]
    exact ms_sum_congr (fun k _ => rfl)
theorem ms_sum_eq0 {f : Nat → Nat} : ∀ {n : Nat}, (∀ k, k < n → f k = 0) → ms_sum f n = 0
  | 0, _ => rfl
  | n + 1, h => by rw [ms_sum_succ, ms_sum_eq0 (fun k hk => h k (Nat.lt_succ_of_lt hk)), h n (Nat.lt_succ_self n)]
theorem ms_sum_one {f : Nat → Nat} {a : Nat} : ∀ {n : Nat}, a < n → (∀ k, k < n → k ≠ a → f k = 0) → ms_sum f n = f a
  | 0, h, _ => absurd h (Nat.not_lt_zero a)
  | n + 1, h, hz => by
    rw [ms_sum_succ]
    by_cases e : a = n
    · subst e
      rw [ms_sum_eq0 (fun k hk => hz k (Nat.lt_succ_of_lt hk) (Nat.ne_of_lt hk)), Nat.zero_add]
    · have hl : a < n := by omega
      rw [ms_sum_one hl (fun k hk => hz k (Nat.lt_succ_of_lt hk)), hz n (Nat.lt_succ_self n) (fun q => e q.symm), Nat.add_zero]
theorem ms_sum_le {f : Nat → Nat} {c : Nat} : ∀ {n : Nat}, (∀ k, k < n → f k ≤ c) → ms_sum f n ≤ n * c
  | 0, _ => Nat.zero_le _
  | n + 1, h => by
    rw [ms_sum_succ, Nat.succ_mul]
    exact Nat.add_le_add (ms_sum_le (fun k hk => h k (Nat.lt_succ_of_lt hk))) (h n (Nat.lt_succ_self n))
theorem ms_sum_mono {f g : Nat → Nat} : ∀ {n : Nat}, (∀ k, k < n → f k ≤ g k) → ms_sum f n ≤ ms_sum g n
  | 0, _ => Nat.zero_le _
  | n + 1, h => by
    rw [ms_sum_succ, ms_sum_succ]
    exact Nat.add_le_add (ms_sum_mono (fun k hk => h k (Nat.lt_succ_of_lt hk))) (h n (Nat.lt_succ_self n))
theorem ms_sum_len {f : Nat → Nat} {a b : Nat} (h : a ≤ b) : ms_sum f a ≤ ms_sum f b := by
  have e : b = a + (b - a) := by omega
  rw [e, ms_sum_split]
  exact Nat.le_add_right _ _
theorem ms_le_sum {f : Nat → Nat} {k n : Nat} (h : k < n) : f k ≤ ms_sum f n := by
  have h1 : ms_sum f (k + 1) ≤ ms_sum f n := ms_sum_len h
  rw [ms_sum_succ] at h1
  omega
theorem ms_of_sum0 {f : Nat → Nat} {n : Nat} (h : ms_sum f n = 0) {k : Nat} (hk : k < n) : f k = 0 := by
  have h1 := ms_le_sum (f := f) hk
  omega
/-! the product of a way's entries, from place a on, c of them -/
def ms_pr (e : Nat → Nat → Nat → Nat) (w : Nat → Nat) (a : Nat) : Nat → Nat
  | 0 => 1
  | c + 1 => ms_pr e w a c * e (a + c) (w (a + c - 1)) (w (a + c))
theorem ms_pr_succ (e : Nat → Nat → Nat → Nat) (w : Nat → Nat) (a c : Nat) : ms_pr e w a (c + 1) = ms_pr e w a c * e (a + c) (w (a + c - 1)) (w (a + c)) := rfl
theorem ms_pr_congr {e : Nat → Nat → Nat → Nat} {w v : Nat → Nat} {a : Nat} : ∀ {c : Nat}, (∀ q, q < a + c → a ≤ q + 1 → w q = v q) → ms_pr e w a c = ms_pr e v a c
  | 0, _ => rfl
  | c + 1, h => by
    rw [ms_pr_succ, ms_pr_succ, ms_pr_congr (fun q h1 h2 => h q (by omega) h2), h (a + c - 1) (by omega) (by omega), h (a + c) (by omega) (by omega)]
theorem ms_pr_e {e f : Nat → Nat → Nat → Nat} {w : Nat → Nat} {a : Nat} : ∀ {c : Nat}, (∀ q, a ≤ q → q < a + c → e q (w (q - 1)) (w q) = f q (w (q - 1)) (w q)) → ms_pr e w a c = ms_pr f w a c
  | 0, _ => rfl
  | c + 1, h => by
    rw [ms_pr_succ, ms_pr_succ, ms_pr_e (fun q h1 h2 => h q h1 (by omega)), h (a + c) (by omega) (by omega)]
theorem ms_pr_split (e : Nat → Nat → Nat → Nat) (w : Nat → Nat) (a c : Nat) : ∀ d : Nat, ms_pr e w a (c + d) = ms_pr e w a c * ms_pr e w (a + c) d
  | 0 => (Nat.mul_one _).symm
  | d + 1 => by
    rw [← Nat.add_assoc c d 1, ms_pr_succ, ms_pr_succ, ms_pr_split e w a c d, Nat.mul_assoc, Nat.add_assoc]
theorem ms_pr_one (e : Nat → Nat → Nat → Nat) (w : Nat → Nat) (a : Nat) : ms_pr e w a 1 = e a (w (a - 1)) (w a) := by
  rw [ms_pr_succ]
  show 1 * _ = _
  rw [Nat.one_mul, Nat.add_zero]
theorem ms_pr_head (e : Nat → Nat → Nat → Nat) (w : Nat → Nat) (a c : Nat) : ms_pr e w a (c + 1) = e a (w (a - 1)) (w a) * ms_pr e w (a + 1) c := by
  rw [Nat.add_comm c 1, ms_pr_split, ms_pr_one]
theorem ms_pr_le {e : Nat → Nat → Nat → Nat} {w : Nat → Nat} {a : Nat} {b : Nat} : ∀ {c : Nat}, (∀ q, a ≤ q → q < a + c → e q (w (q - 1)) (w q) ≤ b) → ms_pr e w a c ≤ b ^ c
  | 0, _ => Nat.le_refl _
  | c + 1, h => by
    rw [ms_pr_succ, Nat.pow_succ]
    exact Nat.mul_le_mul (ms_pr_le (fun q h1 h2 => h q h1 (by omega))) (h (a + c) (by omega) (by omega))
/-! digits -/
theorem ms_pos {S : Nat} (h : 0 < S) (r : Nat) : 0 < S ^ r := Nat.pow_pos h
theorem ms_top {S r t b : Nat} (hb : b < S ^ r) : (t * S ^ r + b) / S ^ r = t := by
  have h0 : 0 < S ^ r := by omega
  rw [Nat.add_comm, Nat.add_mul_div_right _ _ h0, Nat.div_eq_of_lt hb, Nat.zero_add]
theorem ms_low {S r t b j : Nat} (hS : 0 < S) (hj : j < r) : (t * S ^ r + b) / S ^ j % S = b / S ^ j % S := by
  have e : S ^ r = S ^ (r - j - 1) * S * S ^ j := by
    rw [← Nat.pow_succ, ← Nat.pow_add]
    congr 1
    omega
  rw [e, ← Nat.mul_assoc, Nat.add_comm, Nat.add_mul_div_right _ _ (ms_pos hS j), ← Nat.mul_assoc, Nat.add_mul_mod_self_right]
theorem ms_shift {S k t j : Nat} (ht : t < S) : (k * S + t) / S ^ (j + 1) = k / S ^ j := by
  have h0 : 0 < S := by omega
  rw [Nat.pow_succ, Nat.mul_comm (S ^ j) S, ← Nat.div_div_eq_div_mul, Nat.add_comm (k * S) t, Nat.add_mul_div_right _ _ h0, Nat.div_eq_of_lt ht, Nat.zero_add]
theorem ms_last {S k t : Nat} (ht : t < S) : (k * S + t) % S = t := by
  rw [Nat.add_comm, Nat.add_mul_mod_self_right, Nat.mod_eq_of_lt ht]
theorem ms_high {S r t b j : Nat} (hb : b < S ^ r) : (t * S ^ r + b) / S ^ (r + j) = t / S ^ j := by
  rw [Nat.pow_add, ← Nat.div_div_eq_div_mul, ms_top hb]
/-- the state at place p of the way of number k, of n places -/
def ms_dg (S n k p : Nat) : Nat := k / S ^ (n - 1 - p) % S
theorem ms_dg_lt {S n k p : Nat} (hS : 0 < S) : ms_dg S n k p < S := Nat.mod_lt _ hS
theorem ms_dg_snoc {S n k t q : Nat} (ht : t < S) (hq : q < n) : ms_dg S (n + 1) (k * S + t) q = ms_dg S n k q := by
  unfold ms_dg
  have e : n + 1 - 1 - q = (n - 1 - q) + 1 := by omega
  rw [e, ms_shift ht]
theorem ms_dg_last {S n k t : Nat} (ht : t < S) : ms_dg S (n + 1) (k * S + t) n = t := by
  unfold ms_dg
  have e : n + 1 - 1 - n = 0 := by omega
  rw [e, Nat.pow_zero, Nat.div_one, ms_last ht]
/-- two numbers of n digits with the same digits are the same -/
theorem ms_dg_inj {S : Nat} (hS : 0 < S) : ∀ {n k j : Nat}, k < S ^ n → j < S ^ n → (∀ q, q < n → ms_dg S n k q = ms_dg S n j q) → k = j
  | 0, k, j, hk, hj, _ => by
    rw [Nat.pow_zero] at hk hj
    omega
  | n + 1, k, j, hk, hj, h => by
    have ek : k = (k / S) * S + k % S := (Nat.div_add_mod' k S).symm
    have ej : j = (j / S) * S + j % S := (Nat.div_add_mod' j S).symm
    have mk : k % S < S := Nat.mod_lt _ hS
    have mj : j % S < S := Nat.mod_lt _ hS
    have dk : k / S < S ^ n := by
      rw [Nat.div_lt_iff_lt_mul hS, ← Nat.pow_succ]; exact hk
    have dj : j / S < S ^ n := by
      rw [Nat.div_lt_iff_lt_mul hS, ← Nat.pow_succ]; exact hj
    have h1 : k / S = j / S := ms_dg_inj hS dk dj (fun q hq => by
      have h2 := h q (Nat.lt_succ_of_lt hq)
      rw [ek, ej, ms_dg_snoc mk hq, ms_dg_snoc mj hq] at h2
      exact h2)
    have h3 := h n (Nat.lt_succ_self n)
    rw [ek, ej, ms_dg_last mk, ms_dg_last mj] at h3
    rw [ek, ej, h1, h3]
/-! forward and backward sums -/
def ms_bf (e : Nat → Nat → Nat → Nat) (S : Nat) : Nat → Nat → Nat
  | 0, s => e 0 0 s
  | p + 1, s => ms_sum (fun t => ms_bf e S p t * e (p + 1) t s) S
/-- r places are left behind; n in all -/
def ms_bh (e : Nat → Nat → Nat → Nat) (S n : Nat) : Nat → Nat → Nat
  | 0, _ => 1
  | r + 1, s => ms_sum (fun t => e (n - 1 - r) s t * ms_bh e S n r t) S
/-- the weight of the way of number k, of n places -/
def ms_wt (e : Nat → Nat → Nat → Nat) (S n k : Nat) : Nat := ms_pr e (ms_dg S n k) 0 n
/-- the way of number a up to place p - 1, then s -/
def ms_wa (S p a s : Nat) : Nat → Nat := fun q => if q < p then ms_dg S p a q else s
/-- s up to place p, behind it the way of number b of the places p + 1 .. n - 1 -/
def ms_wb (S n p s b : Nat) : Nat → Nat := fun q => if q ≤ p then s else b / S ^ (n - 1 - q) % S
def ms_af (e : Nat → Nat → Nat → Nat) (S p a s : Nat) : Nat := ms_pr e (ms_wa S p a s) 0 (p + 1)
def ms_bg (e : Nat → Nat → Nat → Nat) (S n p s b : Nat) : Nat := ms_pr e (ms_wb S n p s b) (p + 1) (n - 1 - p)
theorem ms_af_0 {e : Nat → Nat → Nat → Nat} (he : ∀ x y, e 0 x y = e 0 0 y) (S a s : Nat) : ms_af e S 0 a s = e 0 0 s := by
  unfold ms_af
  rw [ms_pr_one, he]
  simp [ms_wa]
theorem ms_af_succ (e : Nat → Nat → Nat → Nat) {S p a t s : Nat} (ht : t < S) : ms_af e S (p + 1) (a * S + t) s = ms_af e S p a t * e (p + 1) t s := by
  unfold ms_af
  rw [ms_pr_succ, Nat.zero_add]
  have h1 : ms_wa S (p + 1) (a * S + t) s (p + 1) = s := by simp [ms_wa]
  have h2 : ms_wa S (p + 1) (a * S + t) s (p + 1 - 1) = t := by
    simp only [ms_wa, Nat.add_sub_cancel]
    rw [if_pos (Nat.lt_succ_self p), ms_dg_last ht]
  rw [h1, h2]
  congr 1
  refine ms_pr_congr (fun q h3 _ => ?_)
  have h4 : q < p + 1 := by omega
  simp only [ms_wa]
  rw [if_pos h4]
  by_cases h5 : q < p
  · rw [if_pos h5, ms_dg_snoc ht h5]
  · have h6 : q = p := by omega
    rw [if_neg h5, h6, ms_dg_last ht]
theorem ms_bf_sum {e : Nat → Nat → Nat → Nat} (he : ∀ x y, e 0 x y = e 0 0 y) (S : Nat) : ∀ (p s : Nat), ms_sum (fun a => ms_af e S p a s) (S ^ p) = ms_bf e S p s
  | 0, s => by
    rw [Nat.pow_zero, ms_sum_succ]
    show 0 + _ = _
    rw [Nat.zero_add, ms_af_0 he]
    rfl
  | p + 1, s => by
    rw [Nat.pow_succ, ms_sum_block]
    have h1 : ms_sum (fun i => ms_sum (fun j => ms_af e S (p + 1) (i * S + j) s) S) (S ^ p) = ms_sum (fun i => ms_sum (fun j => ms_af e S p i j * e (p + 1) j s) S) (S ^ p) :=
      ms_sum_congr (fun i _ => ms_sum_congr (fun j hj => ms_af_succ e hj))
    rw [h1, ms_sum_swap (fun i j => ms_af e S p i j * e (p + 1) j s)]
    refine ms_sum_congr (fun t _ => ?_)
    rw [ms_sum_mulr, ms_bf_sum he S p t]
theorem ms_bg_0 (e : Nat → Nat → Nat → Nat) {S n p s b : Nat} (h : n - 1 - p = 0) : ms_bg e S n p s b = 1 := by
  unfold ms_bg
  rw [h]
  rfl
theorem ms_bg_succ (e : Nat → Nat → Nat → Nat) {S n p s t b r : Nat} (hr : n - 1 - p = r + 1) (ht : t < S) (hb : b < S ^ r) : ms_bg e S n p s (t * S ^ r + b) = e (p + 1) s t * ms_bg e S n (p + 1) t b := by
  have hS : 0 < S := by omega
  unfold ms_bg
  have hr2 : n - 1 - (p + 1) = r := by omega
  rw [hr, hr2, ms_pr_head]
  have h1 : ms_wb S n p s (t * S ^ r + b) (p + 1 - 1) = s := by simp [ms_wb]
  have h2 : ms_wb S n p s (t * S ^ r + b) (p + 1) = t := by
    simp only [ms_wb]
    rw [if_neg (by omega), hr2, ms_top hb, Nat.mod_eq_of_lt ht]
  rw [h1, h2]
  congr 1
  refine ms_pr_congr (fun q h3 h4 => ?_)
  simp only [ms_wb]
  by_cases h5 : q ≤ p + 1
  · have h6 : q = p + 1 := by omega
    subst h6
    rw [if_neg (by omega), if_pos (Nat.le_refl _), hr2, ms_top hb, Nat.mod_eq_of_lt ht]
  · rw [if_neg (by omega), if_neg h5, ms_low hS (by omega)]
theorem ms_bh_sum {e : Nat → Nat → Nat → Nat} {S n : Nat} : ∀ (r p s : Nat), n - 1 - p = r → (r = 0 ∨ p < n) → ms_sum (fun b => ms_bg e S n p s b) (S ^ r) = ms_bh e S n r s
  | 0, p, s, h, _ => by
    rw [Nat.pow_zero, ms_sum_succ]
    show 0 + _ = _
    rw [Nat.zero_add, ms_bg_0 e h]
    rfl
  | r + 1, p, s, h, _ => by
    rw [Nat.pow_succ, Nat.mul_comm, ms_sum_block]
    have hp : n - 1 - r = p + 1 := by omega
    show _ = ms_sum (fun t => e (n - 1 - r) s t * ms_bh e S n r t) S
    rw [hp]
    refine ms_sum_congr (fun t ht => ?_)
    rw [← ms_bh_sum r (p + 1) t (by omega) (by omega), ← ms_sum_mull]
    exact ms_sum_congr (fun b hb => ms_bg_succ e h ht hb)
/-- a way cut at a place -/
theorem ms_wt_cut (e : Nat → Nat → Nat → Nat) {S n p r a t b : Nat} (hn : n = p + 1 + r) (ht : t < S) (hb : b < S ^ r) : ms_wt e S n ((a * S + t) * S ^ r + b) = ms_af e S p a t * ms_bg e S n p t b := by
  have hS : 0 < S := by omega
  unfold ms_wt ms_af ms_bg
  have hr : n - 1 - p = r := by omega
  rw [hr]
  have hn' : n = (p + 1) + r := hn
  conv => lhs; rw [hn', ms_pr_split, Nat.zero_add]
  have dhi : ∀ q, q < p + 1 → ms_dg S (p + 1 + r) ((a * S + t) * S ^ r + b) q = ms_wa S p a t q := by
    intro q hq
    simp only [ms_wa]
    unfold ms_dg
    have e1 : p + 1 + r - 1 - q = r + (p - q) := by omega
    rw [e1, ms_high hb]
    by_cases h5 : q < p
    · have e2 : p - q = (p - 1 - q) + 1 := by omega
      rw [if_pos h5, e2, ms_shift ht]
    · have e2 : p - q = 0 := by omega
      rw [if_neg h5, e2, Nat.pow_zero, Nat.div_one, ms_last ht]
  have dlo : ∀ q, q < p + 1 + r → p ≤ q → ms_dg S (p + 1 + r) ((a * S + t) * S ^ r + b) q = ms_wb S (p + 1 + r) p t b q := by
    intro q hq hpq
    by_cases h5 : q = p
    · subst h5
      rw [dhi q (by omega)]
      simp [ms_wa, ms_wb]
    · simp only [ms_wb]
      rw [if_neg (by omega)]
      unfold ms_dg
      rw [ms_low hS (by omega)]
  rw [ms_pr_congr (w := ms_dg S (p + 1 + r) ((a * S + t) * S ^ r + b)) (v := ms_wa S p a t) (fun q h1 _ => dhi q (by omega)), ms_pr_congr (w := ms_dg S (p + 1 + r) ((a * S + t) * S ^ r + b)) (v := ms_wb S (p + 1 + r) p t b) (fun q h1 h2 => dlo q (by omega) (by omega)), ← hn]
/-- all ways through t at place p: any sum over all numbers, cut at the place -/
theorem ms_sum_cut (f : Nat → Nat) {S n p r : Nat} (hn : n = p + 1 + r) : ms_sum f (S ^ n) = ms_sum (fun a => ms_sum (fun t => ms_sum (fun b => f ((a * S + t) * S ^ r + b)) (S ^ r)) S) (S ^ p) := by
  have h1 : S ^ n = S ^ p * S * S ^ r := by rw [hn, Nat.pow_add, Nat.pow_succ]
  rw [h1, ms_sum_block f, ms_sum_block (fun i => ms_sum (fun j => f (i * S ^ r + j)) (S ^ r))]
theorem ms_cut_dg {S n p r a t b : Nat} (hn : n = p + 1 + r) (ht : t < S) (hb : b < S ^ r) : ms_dg S n ((a * S + t) * S ^ r + b) p = t := by
  unfold ms_dg
  have e1 : n - 1 - p = r := by omega
  rw [e1, ms_top hb, ms_last ht]
/-- the ways through s at place p -/
theorem ms_through {e : Nat → Nat → Nat → Nat} (he : ∀ x y, e 0 x y = e 0 0 y) {S n p s : Nat} (hp : p < n) (hs : s < S) : ms_sum (fun k => ms_wt e S n k * (if ms_dg S n k p = s then 1 else 0)) (S ^ n) = ms_bf e S p s * ms_bh e S n (n - 1 - p) s := by
  have hn : n = p + 1 + (n - 1 - p) := by omega
  rw [ms_sum_cut _ hn]
  have h1 : ∀ a, a < S ^ p → ms_sum (fun t => ms_sum (fun b => ms_wt e S n ((a * S + t) * S ^ (n - 1 - p) + b) * (if ms_dg S n ((a * S + t) * S ^ (n - 1 - p) + b) p = s then 1 else 0)) (S ^ (n - 1 - p))) S = ms_af e S p a s * ms_bh e S n (n - 1 - p) s := by
    intro a _
    rw [ms_sum_one hs (fun t ht hne => ms_sum_eq0 (fun b hb => by rw [ms_cut_dg hn ht hb, if_neg hne, Nat.mul_zero]))]
    rw [← ms_bh_sum (n - 1 - p) p s rfl (Or.inr hp), ← ms_sum_mull]
    exact ms_sum_congr (fun b hb => by rw [ms_cut_dg hn hs hb, if_pos rfl, Nat.mul_one, ms_wt_cut e hn hs hb])
  rw [ms_sum_congr h1, ms_sum_mulr, ms_bf_sum he]
/-- all ways -/
theorem ms_total {e : Nat → Nat → Nat → Nat} (he : ∀ x y, e 0 x y = e 0 0 y) {S n : Nat} (hn0 : 0 < n) : ms_sum (fun k => ms_wt e S n k) (S ^ n) = ms_sum (fun s => ms_bf e S (n - 1) s) S := by
  have hn : n = (n - 1) + 1 + 0 := by omega
  rw [ms_sum_cut _ hn, ms_sum_swap (fun a t => ms_sum (fun b => ms_wt e S n ((a * S + t) * S ^ 0 + b)) (S ^ 0))]
  refine ms_sum_congr (fun t ht => ?_)
  rw [← ms_bf_sum he]
  refine ms_sum_congr (fun a _ => ?_)
  rw [Nat.pow_zero, ms_sum_succ]
  show 0 + _ = _
  have h2 := ms_wt_cut e (a := a) hn ht (show (0 : Nat) < S ^ 0 by rw [Nat.pow_zero]; exact Nat.one_pos)
  rw [Nat.pow_zero] at h2
  rw [Nat.zero_add, h2, ms_bg_0 e (by omega), Nat.mul_one]
/-- the ways that step from s at place p to t -/
theorem ms_stepping {e : Nat → Nat → Nat → Nat} (he : ∀ x y, e 0 x y = e 0 0 y) {S n p s t : Nat} (hp : p + 1 < n) (hs : s < S) (ht : t < S) : ms_sum (fun k => ms_wt e S n k * (if ms_dg S n k p = s ∧ ms_dg S n k (p + 1) = t then 1 else 0)) (S ^ n) = ms_bf e S p s * e (p + 1) s t * ms_bh e S n (n - 1 - (p + 1)) t := by
  have hn : n = p + 1 + ((n - 1 - (p + 1)) + 1) := by omega
  generalize hr : n - 1 - (p + 1) = r at hn
  rw [ms_sum_cut _ hn]
  have dnext : ∀ a u v b, v < S → b < S ^ r → ms_dg S n ((a * S + u) * S ^ (r + 1) + (v * S ^ r + b)) (p + 1) = v := by
    intro a u v b hv hb
    unfold ms_dg
    rw [hr, ms_low (by omega) (Nat.lt_succ_self r), ms_top hb, Nat.mod_eq_of_lt hv]
  have hlt : ∀ v b, v < S → b < S ^ r → v * S ^ r + b < S ^ (r + 1) := by
    intro v b hv hb
    rw [Nat.pow_succ, Nat.mul_comm (S ^ r) S]
    have : (v + 1) * S ^ r ≤ S * S ^ r := Nat.mul_le_mul_right _ hv
    rw [Nat.succ_mul] at this
    omega
  have h1 : ∀ a, a < S ^ p → ms_sum (fun u => ms_sum (fun b => ms_wt e S n ((a * S + u) * S ^ (r + 1) + b) * (if ms_dg S n ((a * S + u) * S ^ (r + 1) + b) p = s ∧ ms_dg S n ((a * S + u) * S ^ (r + 1) + b) (p + 1) = t then 1 else 0)) (S ^ (r + 1))) S = ms_af e S p a s * (e (p + 1) s t * ms_bh e S n r t) := by
    intro a _
    rw [ms_sum_one hs (fun u hu hne => ms_sum_eq0 (fun b hb => by rw [ms_cut_dg hn hu hb, if_neg (fun q => hne q.1), Nat.mul_zero]))]
    have hpow : S ^ (r + 1) = S * S ^ r := by rw [Nat.pow_succ, Nat.mul_comm]
    conv => lhs; rw [hpow]
    rw [← hpow, hpow, ms_sum_block, ← hpow]
    rw [ms_sum_one ht (fun v hv hne => ms_sum_eq0 (fun b hb => by rw [dnext a s v b hv hb, if_neg (fun q => hne q.2), Nat.mul_zero]))]
    rw [← ms_bh_sum (e := e) (S := S) (n := n) r (p + 1) t hr (Or.inr (by omega)), ← ms_sum_mull, ← ms_sum_mull]
    refine ms_sum_congr (fun b hb => ?_)
    rw [ms_cut_dg hn hs (hlt t b ht hb), dnext a s t b ht hb, if_pos ⟨rfl, rfl⟩, Nat.mul_one, ms_wt_cut e hn hs (hlt t b ht hb), ms_bg_succ e (by omega) ht hb]
  rw [ms_sum_congr h1, ms_sum_mulr, ms_bf_sum he, Nat.mul_assoc]
/-- what depends on entries in range alone -/
theorem ms_bf_congr {e f : Nat → Nat → Nat → Nat} {S n : Nat} (hS : 0 < S) (h : ∀ p s t, p < n → s < S → t < S → e p s t = f p s t) : ∀ {p s : Nat}, p < n → s < S → ms_bf e S p s = ms_bf f S p s
  | 0, s, hp, hs => h 0 0 s hp hS hs
  | p + 1, s, hp, hs => ms_sum_congr (fun t ht => by rw [ms_bf_congr hS h (by omega) ht, h (p + 1) t s hp ht hs])
theorem ms_bh_congr {e f : Nat → Nat → Nat → Nat} {S n : Nat} (h : ∀ p s t, p < n → s < S → t < S → e p s t = f p s t) : ∀ {r s : Nat}, r < n → s < S → ms_bh e S n r s = ms_bh f S n r s
  | 0, _, _, _ => rfl
  | r + 1, s, hr, hs => ms_sum_congr (fun t ht => by rw [ms_bh_congr h (by omega) ht, h (n - 1 - r) s t (by omega) hs ht])
theorem ms_wt_congr {e f : Nat → Nat → Nat → Nat} {S n k : Nat} (hS : 0 < S) (h : ∀ p s t, p < n → s < S → t < S → e p s t = f p s t) : ms_wt e S n k = ms_wt f S n k :=
  ms_pr_e (fun q _ h2 => h q _ _ (by omega) (ms_dg_lt hS) (ms_dg_lt hS))
theorem ms_wt_le {e : Nat → Nat → Nat → Nat} {S n k b : Nat} (hS : 0 < S) (h : ∀ p s t, p < n → s < S → t < S → e p s t ≤ b) : ms_wt e S n k ≤ b ^ n :=
  ms_pr_le (fun q _ h2 => h q _ _ (by omega) (ms_dg_lt hS) (ms_dg_lt hS))
end
section
/-! ranks -/
/-- a is heavier than b -/
def ms_hv (w : Nat → Nat) (a b : Nat) : Prop := w b < w a ∨ (w a = w b ∧ a < b)
theorem ms_hv_tr {w : Nat → Nat} {a b c : Nat} (h1 : ms_hv w a b) (h2 : ms_hv w b c) : ms_hv w a c := by
  unfold ms_hv at *
  omega
theorem ms_hv_ir {w : Nat → Nat} {a : Nat} (h : ms_hv w a a) : False := by
  unfold ms_hv at h
  omega
theorem ms_hv_le {w : Nat → Nat} {a b : Nat} (h : ms_hv w a b) : w b ≤ w a := by
  unfold ms_hv at h
  omega
def ms_cnt (w : Nat → Nat) : Nat → Nat
  | 0 => 0
  | n + 1 => ms_cnt w n + (if w n = 0 then 0 else 1)
theorem ms_cnt_z {w : Nat → Nat} {n : Nat} (h : w n = 0) : ms_cnt w (n + 1) = ms_cnt w n := by
  show ms_cnt w n + (if w n = 0 then 0 else 1) = _
  rw [if_pos h, Nat.add_zero]
theorem ms_cnt_s {w : Nat → Nat} {n : Nat} (h : w n ≠ 0) : ms_cnt w (n + 1) = ms_cnt w n + 1 := by
  show ms_cnt w n + (if w n = 0 then 0 else 1) = _
  rw [if_neg h]
theorem ms_cnt_le (w : Nat → Nat) : ∀ n : Nat, ms_cnt w n ≤ n
  | 0 => Nat.le_refl _
  | n + 1 => by
    have h := ms_cnt_le w n
    by_cases e : w n = 0
    · rw [ms_cnt_z e]; omega
    · rw [ms_cnt_s e]; omega
/-- the twelve heaviest of the numbers below K, by r: their weights rw, their ways rk -/
def ms_rr (w pk : Nat → Nat) (K wc : Nat) (rw rk r : Nat → Nat) : Prop :=
  wc = ms_cnt w K ∧
  (∀ i, i < wc → i < 12 → r i < K ∧ w (r i) ≠ 0 ∧ rw i = w (r i) ∧ rk i = pk (r i)) ∧
  (∀ i j, i < j → j < wc → j < 12 → ms_hv w (r i) (r j)) ∧
  (∀ k, k < K → w k ≠ 0 → (∃ i, i < wc ∧ i < 12 ∧ r i = k) ∨ (12 ≤ wc ∧ ∀ i, i < 12 → ms_hv w (r i) k))
theorem ms_rr_0 (w pk rw rk r : Nat → Nat) : ms_rr w pk 0 0 rw rk r :=
  ⟨rfl, fun i h _ => absurd h (Nat.not_lt_zero i), fun i j _ h _ => absurd h (Nat.not_lt_zero j), fun k h _ => absurd h (Nat.not_lt_zero k)⟩
theorem ms_rr_z {w pk : Nat → Nat} {K wc : Nat} {rw rk r : Nat → Nat} (h : ms_rr w pk K wc rw rk r) (hz : w K = 0) : ms_rr w pk (K + 1) wc rw rk r := by
  obtain ⟨h1, h2, h3, h4⟩ := h
  refine ⟨by rw [ms_cnt_z hz]; exact h1, fun i a b => ?_, h3, fun k hk hw => ?_⟩
  · obtain ⟨x1, x2, x3, x4⟩ := h2 i a b
    exact ⟨by omega, x2, x3, x4⟩
  · have hne : k ≠ K := fun q => hw (by rw [q]; exact hz)
    exact h4 k (by omega) hw
theorem ms_rr_ins {w pk : Nat → Nat} {K wc pos : Nat} {rw rk rw2 rk2 r : Nat → Nat} (h : ms_rr w pk K wc rw rk r) (hw : w K ≠ 0)
    (hpw : pos ≤ wc) (hp12 : pos ≤ 12) (hb : ∀ j, pos ≤ j → j < wc → j < 12 → rw j < w K) (ha : ∀ j, j + 1 = pos → w K ≤ rw j)
    (e1 : ∀ j, j < pos → j < 12 → rw2 j = rw j ∧ rk2 j = rk j) (e2 : pos < 12 → rw2 pos = w K ∧ rk2 pos = pk K) (e3 : ∀ j, pos ≤ j → j < wc → j + 1 < 12 → rw2 (j + 1) = rw j ∧ rk2 (j + 1) = rk j) :
    ∃ r2 : Nat → Nat, ms_rr w pk (K + 1) (wc + 1) rw2 rk2 r2 := by
  obtain ⟨h1, h2, h3, h4⟩ := h
  have r2a : ∀ j, j < pos → (fun j => if j < pos then r j else if j = pos then K else r (j - 1)) j = r j := fun j hj => by simp [hj]
  have r2b : (fun j => if j < pos then r j else if j = pos then K else r (j - 1)) pos = K := by simp
  have r2c : ∀ j, pos ≤ j → (fun j => if j < pos then r j else if j = pos then K else r (j - 1)) (j + 1) = r j := fun j hj => by
    have q1 : ¬ j + 1 < pos := by omega
    have q2 : ¬ j + 1 = pos := by omega
    simp [q1, q2]
  generalize (fun j => if j < pos then r j else if j = pos then K else r (j - 1)) = r2 at r2a r2b r2c
  have above : ∀ i, i < pos → ms_hv w (r i) K := by
    intro i hi
    obtain ⟨q, hq⟩ : ∃ q, q + 1 = pos := ⟨pos - 1, by omega⟩
    have x := ha q hq
    obtain ⟨y1, y2, y3, y4⟩ := h2 q (by omega) (by omega)
    obtain ⟨z1, z2, z3, z4⟩ := h2 i (by omega) (by omega)
    by_cases hiq : i = q
    · subst hiq
      unfold ms_hv
      omega
    · have t := ms_hv_le (h3 i q (by omega) (by omega) (by omega))
      unfold ms_hv
      omega
  have beneath : ∀ i, pos ≤ i → i < wc → i < 12 → ms_hv w K (r i) := by
    intro i h5 h6 h7
    obtain ⟨z1, z2, z3, z4⟩ := h2 i h6 h7
    have x := hb i h5 h6 h7
    unfold ms_hv
    omega
  refine ⟨r2, by rw [ms_cnt_s hw]; omega, fun i hi h12 => ?_, fun i j hij hj h12 => ?_, fun k hk hkw => ?_⟩
  · by_cases c1 : i < pos
    · obtain ⟨z1, z2, z3, z4⟩ := h2 i (by omega) h12
      obtain ⟨u1, u2⟩ := e1 i c1 h12
      rw [r2a i c1, u1, u2]
      exact ⟨by omega, z2, z3, z4⟩
    · by_cases c2 : i = pos
      · subst c2
        obtain ⟨u1, u2⟩ := e2 h12
        rw [r2b, u1, u2]
        exact ⟨Nat.lt_succ_self K, hw, rfl, rfl⟩
      · obtain ⟨j, rfl⟩ : ∃ j, i = j + 1 := ⟨i - 1, by omega⟩
        obtain ⟨z1, z2, z3, z4⟩ := h2 j (by omega) (by omega)
        obtain ⟨u1, u2⟩ := e3 j (by omega) (by omega) h12
        rw [r2c j (by omega), u1, u2]
        exact ⟨by omega, z2, z3, z4⟩
  · by_cases c1 : j < pos
    · rw [r2a i (by omega), r2a j c1]
      exact h3 i j hij (by omega) h12
    · by_cases c2 : j = pos
      · subst c2
        rw [r2a i hij, r2b]
        exact above i hij
      · obtain ⟨q, rfl⟩ : ∃ q, j = q + 1 := ⟨j - 1, by omega⟩
        rw [r2c q (by omega)]
        by_cases c3 : i < pos
        · rw [r2a i c3]
          exact h3 i q (by omega) (by omega) (by omega)
        · by_cases c4 : i = pos
          · subst c4
            rw [r2b]
            exact beneath q (by omega) (by omega) (by omega)
          · obtain ⟨u, rfl⟩ : ∃ u, i = u + 1 := ⟨i - 1, by omega⟩
            rw [r2c u (by omega)]
            exact h3 u q (by omega) (by omega) (by omega)
  · by_cases ck : k = K
    · subst ck
      by_cases c1 : pos < 12
      · exact Or.inl ⟨pos, by omega, c1, r2b⟩
      · refine Or.inr ⟨by omega, fun i hi => ?_⟩
        rw [r2a i (by omega)]
        exact above i (by omega)
    · rcases h4 k (by omega) hkw with ⟨i, i1, i2, i3⟩ | ⟨g1, g2⟩
      · by_cases c1 : i < pos
        · exact Or.inl ⟨i, by omega, i2, by rw [r2a i c1]; exact i3⟩
        · by_cases c2 : i + 1 < 12
          · exact Or.inl ⟨i + 1, by omega, c2, by rw [r2c i (by omega)]; exact i3⟩
          · have c3 : i = 11 := by omega
            subst c3
            rw [← i3]
            refine Or.inr ⟨by omega, fun j hj => ?_⟩
            by_cases d1 : j < pos
            · rw [r2a j d1]
              exact h3 j 11 (by omega) i1 (by omega)
            · by_cases d2 : j = pos
              · subst d2
                rw [r2b]
                exact beneath 11 (by omega) i1 (by omega)
              · obtain ⟨q, rfl⟩ : ∃ q, j = q + 1 := ⟨j - 1, by omega⟩
                rw [r2c q (by omega)]
                exact h3 q 11 (by omega) i1 (by omega)
      · refine Or.inr ⟨by omega, fun j hj => ?_⟩
        by_cases d1 : j < pos
        · rw [r2a j d1]
          exact g2 j hj
        · by_cases d2 : j = pos
          · subst d2
            rw [r2b]
            exact ms_hv_tr (beneath 11 (by omega) (by omega) (by omega)) (g2 11 (by omega))
          · obtain ⟨q, rfl⟩ : ∃ q, j = q + 1 := ⟨j - 1, by omega⟩
            rw [r2c q (by omega)]
            exact g2 q (by omega)
/-- the reference's choice: the first of the greatest among what is left -/
theorem ms_rr_best {w pk : Nat → Nat} {K wc i b : Nat} {rw rk r a : Nat → Nat} (h : ms_rr w pk K wc rw rk r) (hi : i < 12) (ha : ∀ k, k < K → a k = if ∃ j, j < i ∧ j < wc ∧ r j = k then 0 else w k)
    (hb : b < K) (hb0 : a b ≠ 0) (hmax : ∀ k, k < K → a k ≤ a b) (hfst : ∀ k, k < b → a k < a b) : i < wc ∧ r i = b := by
  obtain ⟨h1, h2, h3, h4⟩ := h
  have hnb : ¬ ∃ j, j < i ∧ j < wc ∧ r j = b := fun q => hb0 (by rw [ha b hb, if_pos q])
  have eb : a b = w b := by rw [ha b hb, if_neg hnb]
  have hwb : w b ≠ 0 := by rw [← eb]; exact hb0
  have hi2 : i < wc := by
    rcases h4 b hb hwb with ⟨j, j1, j2, j3⟩ | ⟨g1, g2⟩
    · have : ¬ j < i := fun q => hnb ⟨j, q, j1, j3⟩
      omega
    · omega
  refine ⟨hi2, ?_⟩
  obtain ⟨z1, z2, z3, z4⟩ := h2 i hi2 hi
  have hni : ¬ ∃ j, j < i ∧ j < wc ∧ r j = r i := by
    intro ⟨j, j1, j2, j3⟩
    have t := h3 j i j1 hi2 hi
    rw [j3] at t
    exact ms_hv_ir t
  have ei : a (r i) = w (r i) := by rw [ha _ z1, if_neg hni]
  have m1 := hmax _ z1
  have key : r i = b ∨ ms_hv w (r i) b := by
    rcases h4 b hb hwb with ⟨j, j1, j2, j3⟩ | ⟨g1, g2⟩
    · have j4 : ¬ j < i := fun q => hnb ⟨j, q, j1, j3⟩
      by_cases j5 : j = i
      · subst j5
        exact Or.inl j3
      · right
        rw [← j3]
        exact h3 i j (by omega) j1 j2
    · exact Or.inr (g2 i hi)
  rcases key with q | q
  · exact q
  · exfalso
    unfold ms_hv at q
    rcases q with q | ⟨q1, q2⟩
    · omega
    · have := hfst _ q2
      omega
theorem ms_rr_none {w pk : Nat → Nat} {K wc i : Nat} {rw rk r a : Nat → Nat} (h : ms_rr w pk K wc rw rk r) (hi : i < 12) (ha : ∀ k, k < K → a k = if ∃ j, j < i ∧ j < wc ∧ r j = k then 0 else w k)
    (hz : ∀ k, k < K → a k = 0) : ¬ i < wc := by
  intro hi2
  obtain ⟨h1, h2, h3, h4⟩ := h
  obtain ⟨z1, z2, z3, z4⟩ := h2 i hi2 hi
  have hni : ¬ ∃ j, j < i ∧ j < wc ∧ r j = r i := by
    intro ⟨j, j1, j2, j3⟩
    have t := h3 j i j1 hi2 hi
    rw [j3] at t
    exact ms_hv_ir t
  have := hz _ z1
  rw [ha _ z1, if_neg hni] at this
  exact z2 this
/-! a way as one number of base four -/
def ms_pk (S : Nat) : Nat → Nat → Nat
  | 0, _ => 0
  | p + 1, a => ms_pk S p (a / S) * 4 + a % S
theorem ms_pk_snoc {S p a t : Nat} (ht : t < S) : ms_pk S (p + 1) (a * S + t) = ms_pk S p a * 4 + t := by
  have h0 : 0 < S := by omega
  show ms_pk S p ((a * S + t) / S) * 4 + (a * S + t) % S = _
  rw [ms_last ht, Nat.add_comm (a * S) t, Nat.add_mul_div_right _ _ h0, Nat.div_eq_of_lt ht, Nat.zero_add]
theorem ms_pk_lt {S : Nat} (hS : 0 < S) (h3 : S ≤ 3) : ∀ (p a : Nat), ms_pk S p a < 4 ^ p
  | 0, _ => Nat.one_pos
  | p + 1, a => by
    have h1 := ms_pk_lt hS h3 p (a / S)
    have h2 : a % S < S := Nat.mod_lt _ hS
    show ms_pk S p (a / S) * 4 + a % S < 4 ^ (p + 1)
    rw [Nat.pow_succ]
    omega
theorem ms_pk_dg {S : Nat} (hS : 0 < S) (h3 : S ≤ 3) : ∀ (n k q : Nat), q < n → ms_pk S n k / 4 ^ (n - 1 - q) % 4 = ms_dg S n k q
  | 0, _, q, h => absurd h (Nat.not_lt_zero q)
  | n + 1, k, q, h => by
    have mk : k % S < S := Nat.mod_lt _ hS
    have ek : (k / S) * S + k % S = k := Nat.div_add_mod' k S
    have e1 : ms_pk S (n + 1) k = ms_pk S n (k / S) * 4 + k % S := rfl
    rw [e1]
    by_cases hq : q = n
    · subst hq
      have e2 : q + 1 - 1 - q = 0 := by omega
      unfold ms_dg
      rw [e2, Nat.pow_zero, Nat.pow_zero, Nat.div_one, Nat.div_one]
      omega
    · have hq2 : q < n := by omega
      have e2 : n + 1 - 1 - q = (n - 1 - q) + 1 := by omega
      have e3 : ms_dg S (n + 1) k q = ms_dg S n (k / S) q := by
        have := ms_dg_snoc (k := k / S) mk hq2
        rw [ek] at this
        exact this
      rw [e3, ← ms_pk_dg hS h3 n (k / S) q hq2, e2, ms_shift (by omega)]
/-! drawing: the number k whose units hold u -/
theorem ms_draw_uniq {f : Nat → Nat} {u k j : Nat} (h1 : ms_sum f k ≤ u) (h2 : u < ms_sum f (k + 1)) (h3 : ms_sum f j ≤ u) (h4 : u < ms_sum f (j + 1)) : k = j := by
  rcases Nat.lt_trichotomy k j with h | h | h
  · have := ms_sum_len (f := f) (show k + 1 ≤ j by omega)
    omega
  · exact h
  · have := ms_sum_len (f := f) (show j + 1 ≤ k by omega)
    omega
/-! fractions -/
theorem ms_gcd_step {a b : Nat} (hb : 0 < b) : Nat.gcd b (a % b) = Nat.gcd a b := by
  rw [Nat.gcd_comm b (a % b), ← Nat.gcd_rec, Nat.gcd_comm]
theorem ms_near {x y g t b : Nat} (hg : 0 < g) (hx : x = g * t) (hy : y = g * b) : (2 * (9 * x) + y) / (2 * y) = (18 * t + b) / (2 * b) := by
  have e1 : 2 * (9 * x) + y = g * (18 * t + b) := by
    rw [hx, hy, Nat.mul_add, ← Nat.mul_assoc, ← Nat.mul_assoc, ← Nat.mul_assoc, Nat.mul_comm g 18]
  have e2 : 2 * y = g * (2 * b) := by rw [hy, ← Nat.mul_assoc, ← Nat.mul_assoc, Nat.mul_comm g 2]
  rw [e1, e2, Nat.mul_div_mul_left _ _ hg]
theorem ms_near_le {x y : Nat} (h : x ≤ y) (hy : 0 < y) : (2 * (9 * x) + y) / (2 * y) ≤ 9 := by
  rw [← Nat.lt_succ_iff, Nat.div_lt_iff_lt_mul (by omega)]
  omega
end
section
/-! a way grows by a state -/
def ms_ls (S p a : Nat) : Nat := if p = 0 then 0 else a % S
theorem ms_ls_snoc {S p a t : Nat} (ht : t < S) : ms_ls S (p + 1) (a * S + t) = t := by
  unfold ms_ls
  rw [if_neg (Nat.succ_ne_zero p), ms_last ht]
theorem ms_wt_0 (e : Nat → Nat → Nat → Nat) (S a : Nat) : ms_wt e S 0 a = 1 := rfl
theorem ms_wt_snoc {e : Nat → Nat → Nat → Nat} (he : ∀ x y, e 0 x y = e 0 0 y) {S p a t : Nat} (ht : t < S) : ms_wt e S (p + 1) (a * S + t) = ms_wt e S p a * e p (ms_ls S p a) t := by
  unfold ms_wt
  rw [ms_pr_succ, Nat.zero_add, ms_dg_last ht, ms_pr_congr (v := ms_dg S p a) (fun q h1 _ => ms_dg_snoc ht (by omega))]
  congr 1
  by_cases hp : p = 0
  · subst hp
    rw [he, he 0]
    rfl
  · unfold ms_ls
    rw [if_neg hp, ms_dg_snoc ht (by omega)]
    unfold ms_dg
    have e1 : p - 1 - (p - 1) = 0 := by omega
    rw [e1, Nat.pow_zero, Nat.div_one]
/-- nothing weighs behind a beginning that does not -/
theorem ms_wt_pre {e : Nat → Nat → Nat → Nat} (he : ∀ x y, e 0 x y = e 0 0 y) {S p a : Nat} (hS : 0 < S) (hz : ms_wt e S p a = 0) : ∀ (r b : Nat), b < S ^ r → ms_wt e S (p + r) (a * S ^ r + b) = 0
  | 0, b, hb => by
    rw [Nat.pow_zero] at hb
    have hb0 : b = 0 := by omega
    rw [hb0, Nat.pow_zero, Nat.mul_one, Nat.add_zero, Nat.add_zero]
    exact hz
  | r + 1, b, hb => by
    have hm : b % S < S := Nat.mod_lt _ hS
    have hd : b / S < S ^ r := by
      rw [Nat.div_lt_iff_lt_mul hS, ← Nat.pow_succ]; exact hb
    have e1 : a * S ^ (r + 1) + b = (a * S ^ r + b / S) * S + b % S := by
      rw [Nat.add_mul, Nat.mul_assoc, ← Nat.pow_succ, Nat.add_assoc, Nat.div_add_mod']
    rw [e1, ← Nat.add_assoc p r 1, ms_wt_snoc he hm, ms_wt_pre he hS hz r (b / S) hd, Nat.zero_mul]
/-- a block of ways with one beginning -/
theorem ms_blk {e : Nat → Nat → Nat → Nat} (he : ∀ x y, e 0 x y = e 0 0 y) {S n p r a t : Nat} (hn : n = p + 1 + r) (ht : t < S) : ms_sum (fun b => ms_wt e S n ((a * S + t) * S ^ r + b)) (S ^ r) = ms_wt e S p a * e p (ms_ls S p a) t * ms_bh e S n r t := by
  have h1 : ms_af e S p a t = ms_wt e S p a * e p (ms_ls S p a) t := by
    rw [← ms_wt_snoc he ht]
    unfold ms_af ms_wt
    refine ms_pr_congr (fun q h1 _ => ?_)
    simp only [ms_wa]
    by_cases h5 : q < p
    · rw [if_pos h5, ms_dg_snoc ht h5]
    · have h6 : q = p := by omega
      rw [if_neg h5, h6, ms_dg_last ht]
  rw [← ms_bh_sum (e := e) (S := S) (n := n) r p t (by omega) (by omega), ← h1, ← ms_sum_mull]
  exact ms_sum_congr (fun b hb => ms_wt_cut e hn ht hb)
theorem ms_blk_step {e : Nat → Nat → Nat → Nat} (he : ∀ x y, e 0 x y = e 0 0 y) {S n p r a t : Nat} (hn : n = p + 1 + r) (ht : t < S) : ms_sum (fun k => ms_wt e S n k) ((a * S + t + 1) * S ^ r) = ms_sum (fun k => ms_wt e S n k) ((a * S + t) * S ^ r) + ms_wt e S p a * e p (ms_ls S p a) t * ms_bh e S n r t := by
  rw [Nat.succ_mul, ms_sum_split, ms_blk he hn ht]
theorem ms_rr_skip {w pk : Nat → Nat} {wc : Nat} {rw rk r : Nat → Nat} {K : Nat} (h : ms_rr w pk K wc rw rk r) : ∀ m : Nat, (∀ b, b < m → w (K + b) = 0) → ms_rr w pk (K + m) wc rw rk r
  | 0, _ => h
  | m + 1, hz => ms_rr_z (ms_rr_skip h m (fun b hb => hz b (by omega))) (hz m (Nat.lt_succ_self m))
/-- what can be weighed at all -/
theorem ms_tot_le {e : Nat → Nat → Nat → Nat} {S n : Nat} (hS : 0 < S) (h3 : S ≤ 3) (hn : n ≤ 6) (h : ∀ p s t, p < n → s < S → t < S → e p s t ≤ 81) : ms_sum (fun k => ms_wt e S n k) (S ^ n) ≤ 205891132094649 := by
  have h1 : ms_sum (fun k => ms_wt e S n k) (S ^ n) ≤ S ^ n * 81 ^ n := ms_sum_le (fun k _ => ms_wt_le hS h)
  have h2 : S ^ n ≤ 3 ^ 6 := Nat.le_trans (Nat.pow_le_pow_left h3 n) (Nat.pow_le_pow_right (by decide) hn)
  have h4 : 81 ^ n ≤ 81 ^ 6 := Nat.pow_le_pow_right (by decide) hn
  exact Nat.le_trans h1 (Nat.le_trans (Nat.mul_le_mul h2 h4) (by decide))
theorem ms_wt_b {e : Nat → Nat → Nat → Nat} {S n k : Nat} (hS : 0 < S) (hn : n ≤ 6) (h : ∀ p s t, p < n → s < S → t < S → e p s t ≤ 81) : ms_wt e S n k ≤ 282429536481 :=
  Nat.le_trans (ms_wt_le hS h) (Nat.le_trans (Nat.pow_le_pow_right (by decide) hn) (by decide))
theorem ms_pow_le {S n : Nat} (h3 : S ≤ 3) (hn : n ≤ 6) : S ^ n ≤ 729 :=
  Nat.le_trans (Nat.pow_le_pow_left h3 n) (Nat.le_trans (Nat.pow_le_pow_right (by decide) hn) (by decide))
/-! the class's entries, and the reference's -/
def xe (w sy : Nat → Nat) (p s t : Nat) : Nat := (if p = 0 then w ((0 * 3 + 0) * 4 + t) else w ((1 * 3 + s) * 4 + t)) * w ((2 * 3 + t) * 4 + sy p)
theorem xe_0 (w sy : Nat → Nat) : ∀ x y, xe w sy 0 x y = xe w sy 0 0 y := fun _ _ => rfl
theorem xe_le {w sy : Nat → Nat} {p s t : Nat} (hw : ∀ i, i < 36 → w i ≤ 9) (hs : s < 3) (ht : t < 3) (hy : sy p < 4) : xe w sy p s t ≤ 81 := by
  unfold xe
  have h1 : (if p = 0 then w ((0 * 3 + 0) * 4 + t) else w ((1 * 3 + s) * 4 + t)) ≤ 9 := by
    split
    · exact hw _ (by omega)
    · exact hw _ (by omega)
  exact Nat.mul_le_mul h1 (hw _ (by omega))
def me (w ro : Nat → Nat) (p s t : Nat) : Nat := (if p = 0 then w t else w (3 + 3 * s + t)) * w (12 + 4 * t + ro p)
theorem me_0 (w ro : Nat → Nat) : ∀ x y, me w ro 0 x y = me w ro 0 0 y := fun _ _ => rfl
theorem me_le {w ro : Nat → Nat} {p s t : Nat} (hw : ∀ i, i < 24 → w i ≤ 9) (hs : s < 3) (ht : t < 3) (hy : ro p < 4) : me w ro p s t ≤ 81 := by
  unfold me
  have h1 : (if p = 0 then w t else w (3 + 3 * s + t)) ≤ 9 := by
    split
    · exact hw _ (by omega)
    · exact hw _ (by omega)
  exact Nat.mul_le_mul h1 (hw _ (by omega))
/-! how often a way shows something, and the sums over all ways -/
def ms_in (S n : Nat) (sy : Nat → Nat) (kd r c k p : Nat) : Prop := (kd = 0 ∧ p = r ∧ ms_dg S n k p = c) ∨ (kd = 1 ∧ p + 1 < n ∧ ms_dg S n k p = r ∧ ms_dg S n k (p + 1) = c) ∨ (kd = 2 ∧ ms_dg S n k p = r ∧ sy p = c)
theorem ms_in_dec (S n : Nat) (sy : Nat → Nat) (kd r c k p : Nat) : ms_in S n sy kd r c k p ∨ ¬ ms_in S n sy kd r c k p := by
  unfold ms_in
  omega
noncomputable def ms_id (S n : Nat) (sy : Nat → Nat) (kd r c k p : Nat) : Nat := @ite Nat (ms_in S n sy kd r c k p) (Classical.propDecidable _) 1 0
theorem ms_id_t {S n : Nat} {sy : Nat → Nat} {kd r c k p : Nat} (h : ms_in S n sy kd r c k p) : ms_id S n sy kd r c k p = 1 := if_pos h
theorem ms_id_f {S n : Nat} {sy : Nat → Nat} {kd r c k p : Nat} (h : ¬ ms_in S n sy kd r c k p) : ms_id S n sy kd r c k p = 0 := if_neg h
noncomputable def ms_tm (S n : Nat) (sy : Nat → Nat) (kd r c k : Nat) : Nat := ms_sum (ms_id S n sy kd r c k) n
def ms_un (e : Nat → Nat → Nat → Nat) (S n : Nat) (sy : Nat → Nat) (kd r c : Nat) : Nat :=
  if kd = 0 then (if r < n then ms_bf e S r c * ms_bh e S n (n - 1 - r) c else 0)
  else if kd = 1 then ms_sum (fun p => ms_bf e S p r * e (p + 1) r c * ms_bh e S n (n - 1 - (p + 1)) c) (n - 1)
  else ms_sum (fun p => if sy p = c then ms_bf e S p r * ms_bh e S n (n - 1 - p) r else 0) n
theorem ms_un_swap (e : Nat → Nat → Nat → Nat) (S n : Nat) (sy : Nat → Nat) (kd r c : Nat) : ms_sum (fun k => ms_wt e S n k * ms_tm S n sy kd r c k) (S ^ n) = ms_sum (fun p => ms_sum (fun k => ms_wt e S n k * ms_id S n sy kd r c k p) (S ^ n)) n := by
  rw [← ms_sum_swap (fun k p => ms_wt e S n k * ms_id S n sy kd r c k p)]
  refine ms_sum_congr (fun k _ => ?_)
  unfold ms_tm
  rw [ms_sum_mull]
theorem ms_un_0 {e : Nat → Nat → Nat → Nat} (he : ∀ x y, e 0 x y = e 0 0 y) {S n r c : Nat} (sy : Nat → Nat) (hc : c < S) : ms_sum (fun k => ms_wt e S n k * ms_tm S n sy 0 r c k) (S ^ n) = ms_un e S n sy 0 r c := by
  rw [ms_un_swap]
  unfold ms_un
  rw [if_pos rfl]
  by_cases hr : r < n
  · rw [if_pos hr, ms_sum_one hr (fun p _ hne => ms_sum_eq0 (fun k _ => by rw [ms_id_f (by unfold ms_in; omega), Nat.mul_zero])), ← ms_through he hr hc]
    refine ms_sum_congr (fun k _ => ?_)
    by_cases hd : ms_dg S n k r = c
    · rw [if_pos hd, ms_id_t (Or.inl ⟨rfl, rfl, hd⟩)]
    · rw [if_neg hd, ms_id_f (by unfold ms_in; omega)]
  · rw [if_neg hr]
    exact ms_sum_eq0 (fun p hp => ms_sum_eq0 (fun k _ => by rw [ms_id_f (by unfold ms_in; omega), Nat.mul_zero]))
theorem ms_un_1 {e : Nat → Nat → Nat → Nat} (he : ∀ x y, e 0 x y = e 0 0 y) {S n r c : Nat} (sy : Nat → Nat) (hr : r < S) (hc : c < S) : ms_sum (fun k => ms_wt e S n k * ms_tm S n sy 1 r c k) (S ^ n) = ms_un e S n sy 1 r c := by
  rw [ms_un_swap]
  unfold ms_un
  rw [if_neg (by decide), if_pos rfl]
  have step : ∀ p, p + 1 < n → ms_sum (fun k => ms_wt e S n k * ms_id S n sy 1 r c k p) (S ^ n) = ms_bf e S p r * e (p + 1) r c * ms_bh e S n (n - 1 - (p + 1)) c := by
    intro p hp
    rw [← ms_stepping he hp hr hc]
    refine ms_sum_congr (fun k _ => ?_)
    by_cases hd : ms_dg S n k p = r ∧ ms_dg S n k (p + 1) = c
    · rw [if_pos hd, ms_id_t (Or.inr (Or.inl ⟨rfl, hp, hd⟩))]
    · rw [if_neg hd, ms_id_f (by unfold ms_in; omega)]
  cases n with
  | zero => rfl
  | succ n =>
    rw [ms_sum_succ, ms_sum_eq0 (n := S ^ (n + 1)) (fun k _ => by rw [ms_id_f (by unfold ms_in; omega), Nat.mul_zero]), Nat.add_zero]
    exact ms_sum_congr (fun p hp => step p (by omega))
theorem ms_un_2 {e : Nat → Nat → Nat → Nat} (he : ∀ x y, e 0 x y = e 0 0 y) {S n r c : Nat} (sy : Nat → Nat) (hr : r < S) : ms_sum (fun k => ms_wt e S n k * ms_tm S n sy 2 r c k) (S ^ n) = ms_un e S n sy 2 r c := by
  rw [ms_un_swap]
  unfold ms_un
  rw [if_neg (by decide), if_neg (by decide)]
  refine ms_sum_congr (fun p hp => ?_)
  by_cases hy : sy p = c
  · rw [if_pos hy, ← ms_through he hp hr]
    refine ms_sum_congr (fun k _ => ?_)
    by_cases hd : ms_dg S n k p = r
    · rw [if_pos hd, ms_id_t (Or.inr (Or.inr ⟨rfl, hd, hy⟩))]
    · rw [if_neg hd, ms_id_f (by unfold ms_in; omega)]
  · rw [if_neg hy]
    exact ms_sum_eq0 (fun k _ => by rw [ms_id_f (by unfold ms_in; omega), Nat.mul_zero])
theorem ms_tm_le (S n : Nat) (sy : Nat → Nat) (kd r c k : Nat) : ms_tm S n sy kd r c k ≤ n := by
  have h : ms_tm S n sy kd r c k ≤ n * 1 := ms_sum_le (fun p _ => by
    rcases ms_in_dec S n sy kd r c k p with h | h
    · rw [ms_id_t h]; exact Nat.le_refl _
    · rw [ms_id_f h]; exact Nat.zero_le _)
  omega
end
section
/-! THE LAYER: one list of words for all methods, contexts, contracts, rows over naturals -/
def xt_T : List Cond := lw_tbl.filter goodWord
theorem xt_in {w : Cond} (h : w ∈ lw_tbl) (hg : goodWord w = true) : w ∈ xt_T := List.mem_filter.mpr ⟨h, hg⟩
abbrev xt_R (d : Nat) : Room := { frames := d, cells := 0, slots := 0, locals := 40 * d }
abbrev xt_ty (cI cL : ClassId) : List (ClassId × FieldType) := [(cI, .int), (cL, .long)]
/-- what a method knows of the machine all along -/
def xt_C (p : Program) (s : State) (m : MethodId) (args : Array Value) (c : Code) (cc : ByteArray) (nL : Nat) (own : String) (D : va_G) (cI cL : ClassId) : Prop :=
  p.tables.exec = Jvm.exec ∧ c.code = cc ∧ c.maxLocals = nL ∧ s.vm.findClass own = some m.cls ∧ (∀ w ∈ xt_T, w.before args s = true) ∧ va_K D vwCl (xt_ty cI cL) s
/-- the world as it is now -/
def xt_W (D : va_G) (A : Nat → Prop) (H0 : Heap) (ws : va_W) (H : Heap) (locs : List Loc) : Prop := va_P D vwCl ws H ∧ va_D A ws ∧ va_S A H0 H locs
def xt_P (D : va_G) (cI cL : ClassId) (av : List Value) (ws : va_W) (sz : Nat) : Array Value → State → Prop :=
  va_Pc av (fun U => U.heap.size = sz ∧ va_P D vwCl ws U.heap ∧ va_K D vwCl (xt_ty cI cL) U ∧ va_D (fun _ => True) ws)
def xt_B (D : va_G) (cI cL : ClassId) (ws : va_W) (sz : Nat) {U : Type} (ws' : U → va_W) : U → State → Prop :=
  fun u t => va_P D vwCl (ws' u) t.heap ∧ va_K D vwCl (xt_ty cI cL) t ∧ va_D (va_A ws sz) (ws' u)
def xt_Qi (D : va_G) (cI cL : ClassId) (ws : va_W) {U : Type} (post : Int32 → U → Prop) (ws' : U → va_W) (sz : Nat) : Array Value → State → Outcome → State → Prop := va_Qi post (xt_B D cI cL ws sz ws') (va_A ws sz)
def xt_Ql (D : va_G) (cI cL : ClassId) (ws : va_W) {U : Type} (post : Int64 → U → Prop) (ws' : U → va_W) (sz : Nat) : Array Value → State → Outcome → State → Prop := va_Ql post (xt_B D cI cL ws sz ws') (va_A ws sz)
def xt_Qv (D : va_G) (cI cL : ClassId) (ws : va_W) {U : Type} (post : U → Prop) (ws' : U → va_W) (sz : Nat) : Array Value → State → Outcome → State → Prop := va_Qv post (xt_B D cI cL ws sz ws') (va_A ws sz)
/-- a contract: method y, its bytes, its locals, its answer's type, how deep it calls; from the world ws, with the arguments av -/
def xt_M (l : Launch) (y : MethodName) (b : ByteArray) (nL : Nat) (ret : Option FieldType) (d : Nat) (D : va_G) (cI cL : ClassId) (av : List Value) (ws : va_W) (Qc : Nat → Array Value → State → Outcome → State → Prop) : Prop :=
  ∀ sz : Nat, Met l y (.code y b nL ret :: xt_T) (xt_R d) (xt_P D cI cL av ws sz) (Qc sz) 0 0 (va_A ws sz)
theorem xt_good {y : MethodName} {b : ByteArray} {nL : Nat} {ret : Option FieldType} (h : Cond.code y b nL ret ∈ xt_T) : GoodIn xt_T (.code y b nL ret :: xt_T) := by
  intro w hw
  have hm : w ∈ xt_T := by
    rcases List.mem_cons.mp hw with h1 | h1
    · rw [h1]; exact h
    · exact h1
  exact ⟨hm, good_of_word (List.mem_filter.mp hm).2⟩
/-- how a method ends -/
def xt_E (meth : Method) (ret : Option FieldType) (A : Nat → Prop) (ws0 : va_W) (s : State) (below : List Frame) (args : Array Value) (Q : State → Prop) (Qc : Nat → Array Value → State → Outcome → State → Prop) : Prop :=
  meth.sig.returnType = ret ∧ meth.locks = false ∧ A = va_A ws0 s.heap.size ∧ Q = MQ below (Qc s.heap.size) args s 0 0 A
theorem xt_start {l : Launch} {y : MethodName} {b : ByteArray} {nL : Nat} {ret : Option FieldType} {d : Nat} {D : va_G} {cI cL : ClassId} {av : List Value} {ws : va_W} {Qc : Nat → Array Value → State → Outcome → State → Prop} {own : String}
    (hyc : y.cls = own) (hy : plainName own = true) (hlen : (lg_sl av).length ≤ nL)
    (body : ∀ (p : Program) (e : Env) (s : State) (m : MethodId) (args : Array Value) (below : List Frame) (meth : Method) (c : Code) (A : Nat → Prop) (Q : State → Prop) (ls : Array Slot), xt_C p s m args c b nL own D cI cL → xt_E meth ret A ws s below args Q Qc → (∀ q, s.heap.size ≤ q → A q) → lv_has ls nL (lv_args 0 av) → xt_W D A s.heap ws s.heap [] →
      W p l e (xt_R d) s m args below meth c s.heap [] 0 0 Q (F0 m 0 ls [])) : xt_M l y b nL ret d D cI cL av ws Qc := by
  subst hyc
  intro sz
  refine Met.ofW (cc := b) (maxL := nL) (ret := ret) hy rfl ?_
  intro p e s m args below meth c s₁ B hml hv
  obtain ⟨rfl, hsz, hP, hK, hD0⟩ := hv
  have hts := atoms_spec (ws := .code y b nL ret :: xt_T) B.pre
  have hown : s.vm.findClass y.cls = some m.cls := findClass_of_methodNamed B.named
  subst hsz
  have hD := hD0.self (sz := s.heap.size)
  have hl := lv_entry av (n := nL) hlen
  rw [lg_entry_eq]
  exact body p e s m av.toArray below meth c (va_A ws s.heap.size) _ _ ⟨B.exec, B.bytes, hml, hown, fun w h => hts w (List.mem_cons_of_mem _ h), hK⟩ ⟨B.returns, B.notSynchronized, rfl, rfl⟩ (fun q h => Or.inr h) hl ⟨hP, hD, va_S.rf⟩
/-- what a call needs of the tables -/
def xt_cv (own : String) (idx : Nat) (y : MethodName) (b : ByteArray) (nL : Nat) (ret : Option FieldType) (n : Nat) : Prop :=
  Cond.methodLink own idx y ∈ xt_T ∧ Cond.instanceMethod y ∈ xt_T ∧ Cond.selects y.cls y y ∈ xt_T ∧ Cond.initialized y.cls ∈ xt_T ∧ Cond.code y b nL ret ∈ xt_T ∧ y.cls ≠ "java/lang/invoke/MethodHandle" ∧ y.cls ≠ "java/lang/invoke/VarHandle" ∧ (parseMethodDescriptor y.desc).map (fun d => d.parameters.length) = some n
def xt_cs (own : String) (idx : Nat) (y : MethodName) (b : ByteArray) (nL : Nat) (ret : Option FieldType) (n : Nat) : Prop :=
  Cond.methodLink own idx y ∈ xt_T ∧ Cond.static y ∈ xt_T ∧ Cond.initialized y.cls ∈ xt_T ∧ Cond.code y b nL ret ∈ xt_T ∧ y.cls ≠ "java/lang/invoke/MethodHandle" ∧ y.cls ≠ "java/lang/invoke/VarHandle" ∧ (parseMethodDescriptor y.desc).map (fun d => d.parameters.length) = some n
section XT
variable {p : Program} {l : Launch} {e : Env} {R : Room} {s : State} {m : MethodId} {args : Array Value} {below : List Frame} {meth : Method} {c : Code} {H : Heap} {locs : List Loc} {cells slots : Nat} {Q : State → Prop}
variable {cc : ByteArray} {pc nL : Nat} {ls : Array Slot} {rest st0 : List Value} {own : String} {D : va_G} {cI cL : ClassId} {A : Nat → Prop} {H0 : Heap} {ws : va_W} {a : Nat}
theorem xt_C.K (C : xt_C p s m args c cc nL own D cI cL) : va_K D vwCl (xt_ty cI cL) s := C.2.2.2.2.2
theorem xt_C.t (C : xt_C p s m args c cc nL own D cI cL) {w : Cond} (h : w ∈ xt_T) : w.before args s = true := C.2.2.2.2.1 w h
theorem xt_C.o (C : xt_C p s m args c cc nL own D cI cL) : s.vm.findClass own = some m.cls := C.2.2.2.1
theorem xt_iret {U : Type} {post : Int32 → U → Prop} {ws' : U → va_W} {ws0 : va_W} (C : xt_C p s m args c cc nL own D cI cL) (hE : xt_E meth (some .int) A ws0 s below args Q (xt_Qi D cI cL ws0 post ws')) (u : U) {r : Int32} (w : xt_W D A s.heap (ws' u) H locs) (hp : post r u) (hdg : decode cc pc = .ok (.ireturn, 1)) :
    W p l e R s m args below meth c H locs 0 0 Q (F0 m pc ls [.int r]) := by
  obtain ⟨hr, hk, hA, hQ⟩ := hE
  subst hA
  subst hQ
  exact W.iret C.1 C.2.1 hr (fun t ht hW => ⟨⟨r, u, rfl, hp, by rw [ht]; exact w.1, va_K.moved hW.alike C.K, w.2.1⟩, w.2.2.F ht⟩) w.2.2.2.2 hdg hk
theorem xt_zret {U : Type} {post : Int32 → U → Prop} {ws' : U → va_W} {ws0 : va_W} (C : xt_C p s m args c cc nL own D cI cL) (hE : xt_E meth (some .boolean) A ws0 s below args Q (xt_Qi D cI cL ws0 post ws')) (u : U) {r : Int32} (w : xt_W D A s.heap (ws' u) H locs) (hz : r = 0 ∨ r = 1) (hp : post r u) (hdg : decode cc pc = .ok (.ireturn, 1)) :
    W p l e R s m args below meth c H locs 0 0 Q (F0 m pc ls [.int r]) := by
  obtain ⟨hr, hk, hA, hQ⟩ := hE
  subst hA
  subst hQ
  exact W.zret C.1 C.2.1 hr (by rcases hz with h | h <;> subst h <;> rfl) (fun t ht hW => ⟨⟨r, u, rfl, hp, by rw [ht]; exact w.1, va_K.moved hW.alike C.K, w.2.1⟩, w.2.2.F ht⟩) w.2.2.2.2 hdg hk
theorem xt_lret {U : Type} {post : Int64 → U → Prop} {ws' : U → va_W} {ws0 : va_W} (C : xt_C p s m args c cc nL own D cI cL) (hE : xt_E meth (some .long) A ws0 s below args Q (xt_Ql D cI cL ws0 post ws')) (u : U) {r : Int64} (w : xt_W D A s.heap (ws' u) H locs) (hp : post r u) (hdg : decode cc pc = .ok (.lreturn, 1)) :
    W p l e R s m args below meth c H locs 0 0 Q (F0 m pc ls [.long r]) := by
  obtain ⟨hr, hk, hA, hQ⟩ := hE
  subst hA
  subst hQ
  exact W.lret C.1 C.2.1 hr (fun t ht hW => ⟨⟨r, u, rfl, hp, by rw [ht]; exact w.1, va_K.moved hW.alike C.K, w.2.1⟩, w.2.2.F ht⟩) w.2.2.2.2 hdg hk
theorem xt_vret {U : Type} {post : U → Prop} {ws' : U → va_W} {ws0 : va_W} (C : xt_C p s m args c cc nL own D cI cL) (hE : xt_E meth none A ws0 s below args Q (xt_Qv D cI cL ws0 post ws')) (u : U) (w : xt_W D A s.heap (ws' u) H locs) (hp : post u) (hdg : decode cc pc = .ok (.return_, 1)) :
    W p l e R s m args below meth c H locs 0 0 Q (F0 m pc ls []) := by
  obtain ⟨hr, hk, hA, hQ⟩ := hE
  subst hA
  subst hQ
  exact W.vret C.1 C.2.1 hr (fun t ht hW => ⟨⟨u, rfl, hp, by rw [ht]; exact w.1, va_K.moved hW.alike C.K, w.2.1⟩, w.2.2.F ht⟩) w.2.2.2.2 hdg hk
/-! calls on the whole world -/
theorem xt_blind {av : List Value} {sz : Nat} : FrameBlind (xt_P D cI cL av ws sz) := fun a U g mk q => by
  obtain ⟨q0, q1, qP, qK, qD⟩ := q
  exact ⟨q0, q1, qP, va_K.moved (u := U) (U := U.calling g mk a) (Vm.Alike.refl U.vm) qK, qD⟩
theorem xt_pre {As : List Value} (K : va_K D vwCl (xt_ty cI cL) s) (hP : va_P D vwCl ws H) (hD : va_D A ws) (U : State) (hU : U.heap = H) (hW : s.WarmedH U.vm) : xt_P D cI cL As ws H.size As.toArray U :=
  ⟨rfl, by rw [hU], by rw [hU]; exact hP, va_K.moved hW.alike K, hD.weaken (fun _ _ _ _ => trivial)⟩
theorem xt_runV {Qc : Nat → Array Value → State → Outcome → State → Prop} {y : MethodName} {b : ByteArray} {nL' : Nat} {ret : Option FieldType} {d' n idx ci N : Nat} {As : List Value} {fs : List Value} {T : u_T} {wc : va_W}
    (C : xt_C p s m args c cc nL own D cI cL) (hP : va_P D vwCl wc H) (hD : va_D A wc) (cw : xt_cv own idx y b nL' ret n) (M : xt_M l y b nL' ret d' D cI cL (.ref a :: As) wc Qc) (he : wc[0]? = some (a, .inr (ci, fs))) (hc : vwCl[ci]? = some (y.cls, T, N)) (hn : As.length = n) (hl : ls.size = nL) (hst : st0 = As.reverse ++ .ref a :: rest) (hrm : (rest.map fun v => v.category).sum ≤ 8) (hR : d' + 1 ≤ R.frames ∧ 8 + (nL' + 11) + 40 * d' ≤ R.locals) (hf : cells ≤ R.cells ∧ slots ≤ R.slots) (hdg : decode cc pc = .ok (.invokevirtual idx, 3)) :
    va_Run p l e R s m args below meth c H locs cells slots 0 0 (F0 m pc ls st0) rest (Qc H.size (Value.ref a :: As).toArray) (va_A wc H.size) :=
  va_runV (nL := nL) (Ts := xt_T) (own := own) (C := y.cls) (As := As) ⟨C.1, C.2.1, C.2.2.1, C.2.2.2.1, C.2.2.2.2.1⟩ (M H.size)
    ⟨callB_of n C.2.2.2.2.1 (xt_good cw.2.2.2.2.1) rfl rfl rfl (C.t cw.2.2.2.1) (C.t cw.1) cw.2.2.2.2.2 hR, C.t cw.2.1, C.t cw.2.2.1⟩
    ⟨xt_blind, va_recv C.K hP hc he, fun U hU hW => xt_pre C.K hP hD U hU hW⟩ rfl hn hl hst (lv_room hrm) hdg hf
theorem xt_runS {Qc : Nat → Array Value → State → Outcome → State → Prop} {y : MethodName} {b : ByteArray} {nL' : Nat} {ret : Option FieldType} {d' n idx : Nat} {As : List Value} {wc : va_W}
    (C : xt_C p s m args c cc nL own D cI cL) (hP : va_P D vwCl wc H) (hD : va_D A wc) (cw : xt_cs own idx y b nL' ret n) (M : xt_M l y b nL' ret d' D cI cL As wc Qc) (hn : As.length = n) (hl : ls.size = nL) (hst : st0 = As.reverse ++ rest) (hrm : (rest.map fun v => v.category).sum ≤ 8) (hR : d' + 1 ≤ R.frames ∧ 8 + (nL' + 11) + 40 * d' ≤ R.locals) (hf : cells ≤ R.cells ∧ slots ≤ R.slots) (hdg : decode cc pc = .ok (.invokestatic idx, 3)) :
    va_Run p l e R s m args below meth c H locs cells slots 0 0 (F0 m pc ls st0) rest (Qc H.size As.toArray) (va_A wc H.size) :=
  va_runS (nL := nL) (Ts := xt_T) (own := own) (As := As) ⟨C.1, C.2.1, C.2.2.1, C.2.2.2.1, C.2.2.2.2.1⟩ (M H.size)
    ⟨callB_of n C.2.2.2.2.1 (xt_good cw.2.2.2.1) rfl rfl rfl (C.t cw.2.2.1) (C.t cw.1) cw.2.2.2.2 hR, C.t cw.2.1⟩
    ⟨xt_blind, fun U hU hW => xt_pre C.K hP hD U hU hW⟩ rfl hn hl hst (lv_room hrm) hdg hf
theorem xt_fr (hA : ∀ q, H0.size ≤ q → A q) (w : xt_W D A H0 ws H locs) : ∀ q, va_A ws H.size q → A q := fun q h => by
  rcases h with ⟨k, e, h⟩ | h
  · exact w.2.1.2 k _ h
  · exact hA q (Nat.le_trans w.2.2.1 h)
theorem xt_ci {U : Type} {post : Int32 → U → Prop} {ws' : U → va_W} {av : Array Value} (hA : ∀ q, H0.size ≤ q → A q) (w : xt_W D A H0 ws H locs) (hr : va_Run p l e R s m args below meth c H locs cells slots 0 0 (F0 m pc ls st0) rest (xt_Qi D cI cL ws post ws' H.size av) (va_A ws H.size))
    (kk : ∀ (r : Int32) (u : U) (H1 : Heap) (locs1 : List Loc), post r u → xt_W D A H0 (ws' u) H1 locs1 → W p l e R s m args below meth c H1 locs1 cells slots Q (F0 m (pc + 3) ls (.int r :: rest))) : W p l e R s m args below meth c H locs cells slots Q (F0 m pc ls st0) := by
  refine va_calli hr w.2.2 (fun q _ h => xt_fr hA w q h) (xt_fr hA w) (fun r u t H1 locs1 ht hvm hp hB hz hk hS => ?_)
  obtain ⟨hP1, hK1, hD1⟩ := hB
  rw [ht] at hP1
  exact kk r u H1 locs1 hp ⟨hP1, hD1.weaken (fun k q _ h => xt_fr hA w q.1 h), hS⟩
theorem xt_cl {U : Type} {post : Int64 → U → Prop} {ws' : U → va_W} {av : Array Value} (hA : ∀ q, H0.size ≤ q → A q) (w : xt_W D A H0 ws H locs) (hr : va_Run p l e R s m args below meth c H locs cells slots 0 0 (F0 m pc ls st0) rest (xt_Ql D cI cL ws post ws' H.size av) (va_A ws H.size))
    (kk : ∀ (r : Int64) (u : U) (H1 : Heap) (locs1 : List Loc), post r u → xt_W D A H0 (ws' u) H1 locs1 → W p l e R s m args below meth c H1 locs1 cells slots Q (F0 m (pc + 3) ls (.long r :: rest))) : W p l e R s m args below meth c H locs cells slots Q (F0 m pc ls st0) := by
  refine va_calll hr w.2.2 (fun q _ h => xt_fr hA w q h) (xt_fr hA w) (fun r u t H1 locs1 ht hvm hp hB hz hk hS => ?_)
  obtain ⟨hP1, hK1, hD1⟩ := hB
  rw [ht] at hP1
  exact kk r u H1 locs1 hp ⟨hP1, hD1.weaken (fun k q _ h => xt_fr hA w q.1 h), hS⟩
theorem xt_cvd {U : Type} {post : U → Prop} {ws' : U → va_W} {av : Array Value} (hA : ∀ q, H0.size ≤ q → A q) (w : xt_W D A H0 ws H locs) (hr : va_Run p l e R s m args below meth c H locs cells slots 0 0 (F0 m pc ls st0) rest (xt_Qv D cI cL ws post ws' H.size av) (va_A ws H.size))
    (kk : ∀ (u : U) (H1 : Heap) (locs1 : List Loc), post u → xt_W D A H0 (ws' u) H1 locs1 → W p l e R s m args below meth c H1 locs1 cells slots Q (F0 m (pc + 3) ls rest)) : W p l e R s m args below meth c H locs cells slots Q (F0 m pc ls st0) := by
  refine va_callv hr w.2.2 (fun q _ h => xt_fr hA w q h) (xt_fr hA w) (fun u t H1 locs1 ht hvm hp hB hz hk hS => ?_)
  obtain ⟨hP1, hK1, hD1⟩ := hB
  rw [ht] at hP1
  exact kk u H1 locs1 hp ⟨hP1, hD1.weaken (fun k q _ h => xt_fr hA w q.1 h), hS⟩
/-! fields and arrays -/
abbrev xt_i (cI : ClassId) (n : Nat) (f : Nat → Nat) : va_E := .inl (cI, n, .inl (fun j => nI (f j)))
abbrev xt_l (cL : ClassId) (n : Nat) (f : Nat → Nat) : va_E := .inl (cL, n, .inr (.inl (fun j => lN (f j))))
theorem xt_get {T : u_T} {N ci idx : Nat} {fs : List Value} {v : Value} (hin : ∀ w ∈ u_ws own T N, w ∈ xt_T) (C : xt_C p s m args c cc nL own D cI cL) (w : xt_W D A H0 ws H locs) (q0 : Nat) (he : ws[q0]? = some (a, .inr (ci, fs))) (hc : vwCl[ci]? = some (own, T, N)) (k : Nat) (hk : k < N) (hd : (T k).1 = own) (hl : Cond.fieldLink own idx own (T k).2.1 (T k).2.2.1 ∈ xt_T) (hv : fs[k]? = some v) (hdg : decode cc pc = .ok (.getfield idx, 3))
    (kk : W p l e R s m args below meth c H locs cells slots Q (F0 m (pc + 3) ls (v :: rest))) : W p l e R s m args below meth c H locs cells slots Q (F0 m pc ls (.ref a :: rest)) :=
  va_get C.1 C.2.1 C.2.2.2.2.1 hin C.o C.K w.1 q0 he hc k hk (C.t hl) (fun x h => by rw [hd] at h; exact h) hv hdg kk
theorem xt_put {T : u_T} {N ci idx : Nat} {fs : List Value} {v : Value} {ty : FieldType} (hin : ∀ w ∈ u_ws own T N, w ∈ xt_T) (ty0 : Nat → FieldType) (hty : ∀ k, k < N → parseFieldDescriptor (T k).2.2.1 = some (ty0 k)) (hnm : ∀ a, a < N → ∀ b, b < N → a ≠ b → (T a).2.1 ≠ (T b).2.1) (C : xt_C p s m args c cc nL own D cI cL) (w : xt_W D A H0 ws H locs) (q0 : Nat) (he : ws[q0]? = some (a, .inr (ci, fs))) (hc : vwCl[ci]? = some (own, T, N)) (k : Nat) (hk : k < N) (hd : (T k).1 = own) (hl : Cond.fieldLink own idx own (T k).2.1 (T k).2.2.1 ∈ xt_T) (hfin : (T k).2.2.2 = false) (hpd : parseFieldDescriptor (T k).2.2.1 = some ty) (hn : narrow ty v = v) (hfit : fits ty v = true) (hlen : k < fs.length) (hdg : decode cc pc = .ok (.putfield idx, 3))
    (kk : ∀ (H1 : Heap) (locs1 : List Loc), xt_W D A H0 (ws.set q0 (a, .inr (ci, fs.set k v))) H1 locs1 → W p l e R s m args below meth c H1 locs1 cells slots Q (F0 m (pc + 3) ls rest)) : W p l e R s m args below meth c H locs cells slots Q (F0 m pc ls (v :: .ref a :: rest)) :=
  va_put C.1 C.2.1 C.2.2.2.2.1 hin ty0 hty hnm C.o C.K w.1 w.2.1 w.2.2 q0 he hc k hk (C.t hl) (fun x h => by rw [hd] at h; exact h) hfin hpd hn hfit hlen hdg (fun H1 locs1 hP hD hS => kk H1 locs1 ⟨hP, hD, hS⟩)
theorem xt_iald (C : xt_C p s m args c cc nL own D cI cL) (w : xt_W D A H0 ws H locs) (q0 : Nat) {n k : Nat} {f : Nat → Nat} (ha : ws[q0]? = some (a, xt_i cI n f)) (hn : n < 2 ^ 31) (hdg : decode cc pc = .ok (.iaload, 1)) (hk : k < n)
    (kk : W p l e R s m args below meth c H locs cells slots Q (F0 m (pc + 1) ls (.int (nI (f k)) :: rest))) : W p l e R s m args below meth c H locs cells slots Q (F0 m pc ls (.int (nI k) :: .ref a :: rest)) :=
  va_iald C.1 C.2.1 C.K w.1 q0 0 ha rfl (vp_in_nI hk hn) hdg (by rw [nI_clamp (by omega)]; exact kk)
theorem xt_lald (C : xt_C p s m args c cc nL own D cI cL) (w : xt_W D A H0 ws H locs) (q0 : Nat) {n k : Nat} {f : Nat → Nat} (ha : ws[q0]? = some (a, xt_l cL n f)) (hn : n < 2 ^ 31) (hdg : decode cc pc = .ok (.laload, 1)) (hk : k < n)
    (kk : W p l e R s m args below meth c H locs cells slots Q (F0 m (pc + 1) ls (.long (lN (f k)) :: rest))) : W p l e R s m args below meth c H locs cells slots Q (F0 m pc ls (.int (nI k) :: .ref a :: rest)) :=
  va_lald C.1 C.2.1 C.K w.1 q0 1 ha rfl (vp_in_nI hk hn) hdg (by rw [nI_clamp (by omega)]; exact kk)
theorem xt_upI {f : Nat → Nat} {k x : Nat} : upd (fun j => nI (f j)) k (nI x) = fun j => nI (va_up f k x j) := by
  funext j
  unfold upd va_up
  split <;> rfl
theorem xt_upL {f : Nat → Nat} {k x : Nat} : vp_updL (fun j => lN (f j)) k (lN x) = fun j => lN (va_up f k x j) := by
  funext j
  unfold vp_updL va_up
  split <;> rfl
theorem xt_iast (C : xt_C p s m args c cc nL own D cI cL) (w : xt_W D A H0 ws H locs) (q0 : Nat) {n k x : Nat} {f : Nat → Nat} (ha : ws[q0]? = some (a, xt_i cI n f)) (hn : n < 2 ^ 31) (hdg : decode cc pc = .ok (.iastore, 1)) (hk : k < n)
    (kk : ∀ (H1 : Heap) (locs1 : List Loc), xt_W D A H0 (ws.set q0 (a, xt_i cI n (va_up f k x))) H1 locs1 → W p l e R s m args below meth c H1 locs1 cells slots Q (F0 m (pc + 1) ls rest)) : W p l e R s m args below meth c H locs cells slots Q (F0 m pc ls (.int (nI x) :: .int (nI k) :: .ref a :: rest)) := by
  refine va_iast C.1 C.2.1 C.K w.1 w.2.1 w.2.2 q0 0 ha rfl (vp_in_nI hk hn) hdg (fun H1 locs1 hP hD hS => ?_)
  rw [nI_clamp (by omega), xt_upI] at hP hD
  exact kk H1 locs1 ⟨hP, hD, hS⟩
theorem xt_last (C : xt_C p s m args c cc nL own D cI cL) (w : xt_W D A H0 ws H locs) (q0 : Nat) {n k x : Nat} {f : Nat → Nat} (ha : ws[q0]? = some (a, xt_l cL n f)) (hn : n < 2 ^ 31) (hdg : decode cc pc = .ok (.lastore, 1)) (hk : k < n)
    (kk : ∀ (H1 : Heap) (locs1 : List Loc), xt_W D A H0 (ws.set q0 (a, xt_l cL n (va_up f k x))) H1 locs1 → W p l e R s m args below meth c H1 locs1 cells slots Q (F0 m (pc + 1) ls rest)) : W p l e R s m args below meth c H locs cells slots Q (F0 m pc ls (.long (lN x) :: .int (nI k) :: .ref a :: rest)) := by
  refine va_last C.1 C.2.1 C.K w.1 w.2.1 w.2.2 q0 1 ha rfl (vp_in_nI hk hn) hdg (fun H1 locs1 hP hD hS => ?_)
  rw [nI_clamp (by omega), xt_upL] at hP hD
  exact kk H1 locs1 ⟨hP, hD, hS⟩
/-! numbers -/
theorem xt_iadd (C : xt_C p s m args c cc nL own D cI cL) {x y : Nat} (hdg : decode cc pc = .ok (.iadd, 1)) (k : W p l e R s m args below meth c H locs cells slots Q (F0 m (pc + 1) ls (.int (nI (x + y)) :: rest))) : W p l e R s m args below meth c H locs cells slots Q (F0 m pc ls (.int (nI y) :: .int (nI x) :: rest)) :=
  lv_iadd C.1 C.2.1 hdg (by rw [nI_add]; exact k)
theorem xt_isub (C : xt_C p s m args c cc nL own D cI cL) {x y : Nat} (hdg : decode cc pc = .ok (.isub, 1)) (h : y ≤ x) (k : W p l e R s m args below meth c H locs cells slots Q (F0 m (pc + 1) ls (.int (nI (x - y)) :: rest))) : W p l e R s m args below meth c H locs cells slots Q (F0 m pc ls (.int (nI y) :: .int (nI x) :: rest)) :=
  lv_isub C.1 C.2.1 hdg (by rw [pk_sub h]; exact k)
theorem xt_imul (C : xt_C p s m args c cc nL own D cI cL) {x y : Nat} (hdg : decode cc pc = .ok (.imul, 1)) (k : W p l e R s m args below meth c H locs cells slots Q (F0 m (pc + 1) ls (.int (nI (x * y)) :: rest))) : W p l e R s m args below meth c H locs cells slots Q (F0 m pc ls (.int (nI y) :: .int (nI x) :: rest)) :=
  lv_imul C.1 C.2.1 hdg (by rw [pk_mul]; exact k)
theorem xt_idiv (C : xt_C p s m args c cc nL own D cI cL) {x y : Nat} (hdg : decode cc pc = .ok (.idiv, 1)) (h0 : 0 < y) (hx : x < 2 ^ 31) (hy : y < 2 ^ 31) (k : W p l e R s m args below meth c H locs cells slots Q (F0 m (pc + 1) ls (.int (nI (x / y)) :: rest))) : W p l e R s m args below meth c H locs cells slots Q (F0 m pc ls (.int (nI y) :: .int (nI x) :: rest)) :=
  lv_idiv C.1 C.2.1 hdg (nI_ne0 h0 hy) (by rw [pk_div hx h0 hy]; exact k)
theorem xt_irem (C : xt_C p s m args c cc nL own D cI cL) {x y : Nat} (hdg : decode cc pc = .ok (.irem, 1)) (h0 : 0 < y) (hx : x < 2 ^ 31) (hy : y < 2 ^ 31) (k : W p l e R s m args below meth c H locs cells slots Q (F0 m (pc + 1) ls (.int (nI (x % y)) :: rest))) : W p l e R s m args below meth c H locs cells slots Q (F0 m pc ls (.int (nI y) :: .int (nI x) :: rest)) :=
  lv_irem C.1 C.2.1 hdg (nI_ne0 h0 hy) (by rw [pk_rem hx h0 hy]; exact k)
theorem xt_ladd (C : xt_C p s m args c cc nL own D cI cL) {x y : Nat} (hdg : decode cc pc = .ok (.ladd, 1)) (k : W p l e R s m args below meth c H locs cells slots Q (F0 m (pc + 1) ls (.long (lN (x + y)) :: rest))) : W p l e R s m args below meth c H locs cells slots Q (F0 m pc ls (.long (lN y) :: .long (lN x) :: rest)) :=
  lv_ladd C.1 C.2.1 hdg (by rw [lN_add]; exact k)
theorem xt_lmul (C : xt_C p s m args c cc nL own D cI cL) {x y : Nat} (hdg : decode cc pc = .ok (.lmul, 1)) (k : W p l e R s m args below meth c H locs cells slots Q (F0 m (pc + 1) ls (.long (lN (x * y)) :: rest))) : W p l e R s m args below meth c H locs cells slots Q (F0 m pc ls (.long (lN y) :: .long (lN x) :: rest)) :=
  lv_lmul C.1 C.2.1 hdg (by rw [lN_mul]; exact k)
theorem xt_lsub (C : xt_C p s m args c cc nL own D cI cL) {x y : Nat} (hdg : decode cc pc = .ok (.lsub, 1)) (h : y ≤ x) (k : W p l e R s m args below meth c H locs cells slots Q (F0 m (pc + 1) ls (.long (lN (x - y)) :: rest))) : W p l e R s m args below meth c H locs cells slots Q (F0 m pc ls (.long (lN y) :: .long (lN x) :: rest)) :=
  lv_lsub C.1 C.2.1 hdg (by rw [lN_sub h]; exact k)
theorem xt_ne0L {y : Nat} (h0 : 0 < y) (hy : y < 2 ^ 63) : ¬ lN y = 0 := by
  intro q
  have := (pk_lEQ hy (b := 0) (by omega)).mp q
  omega
theorem xt_ldiv (C : xt_C p s m args c cc nL own D cI cL) {x y : Nat} (hdg : decode cc pc = .ok (.ldiv, 1)) (h0 : 0 < y) (hx : x < 2 ^ 63) (hy : y < 2 ^ 63) (k : W p l e R s m args below meth c H locs cells slots Q (F0 m (pc + 1) ls (.long (lN (x / y)) :: rest))) : W p l e R s m args below meth c H locs cells slots Q (F0 m pc ls (.long (lN y) :: .long (lN x) :: rest)) :=
  lv_ldiv C.1 C.2.1 hdg (xt_ne0L h0 hy) (by rw [pk_lDiv hx h0 hy]; exact k)
theorem xt_lrem (C : xt_C p s m args c cc nL own D cI cL) {x y : Nat} (hdg : decode cc pc = .ok (.lrem, 1)) (h0 : 0 < y) (hx : x < 2 ^ 63) (hy : y < 2 ^ 63) (k : W p l e R s m args below meth c H locs cells slots Q (F0 m (pc + 1) ls (.long (lN (x % y)) :: rest))) : W p l e R s m args below meth c H locs cells slots Q (F0 m pc ls (.long (lN y) :: .long (lN x) :: rest)) :=
  lv_lrem C.1 C.2.1 hdg (xt_ne0L h0 hy) (by rw [pk_lRem hx h0 hy]; exact k)
theorem xt_i2l (C : xt_C p s m args c cc nL own D cI cL) {x : Nat} (hdg : decode cc pc = .ok (.i2l, 1)) (h : x < 2 ^ 31) (k : W p l e R s m args below meth c H locs cells slots Q (F0 m (pc + 1) ls (.long (lN x) :: rest))) : W p l e R s m args below meth c H locs cells slots Q (F0 m pc ls (.int (nI x) :: rest)) :=
  lv_i2l C.1 C.2.1 hdg (nI_l h) k
theorem xt_l2i (C : xt_C p s m args c cc nL own D cI cL) {x : Nat} (hdg : decode cc pc = .ok (.l2i, 1)) (k : W p l e R s m args below meth c H locs cells slots Q (F0 m (pc + 1) ls (.int (nI x) :: rest))) : W p l e R s m args below meth c H locs cells slots Q (F0 m pc ls (.long (lN x) :: rest)) :=
  lv_l2i C.1 C.2.1 hdg (lN_i x) k
theorem xt_inc {x : Nat} : nI x + Int32.ofInt 1 = nI (x + 1) := (nI_succ x).symm
theorem xt_inc5 {x : Nat} : nI x + Int32.ofInt 5 = nI (x + 5) := nI_add x 5
theorem xt_dec1 {x : Nat} : nI (x + 1) + Int32.ofInt (-1) = nI x := pk_m1 x
theorem xt_dec {x : Nat} (h : 1 ≤ x) : nI x + Int32.ofInt (-1) = nI (x - 1) := by
  obtain ⟨y, rfl⟩ : ∃ y, x = y + 1 := ⟨x - 1, by omega⟩
  exact pk_m1 y
theorem xt_ldc2 (C : xt_C p s m args c cc nL own D cI cL) {idx : Nat} (v : Nat) {v64 : Int64} (hc : Cond.constantLong own idx v64 ∈ xt_T) (hdg : decode cc pc = .ok (.ldc2_w idx, 3)) (hv : v64 = lN v) (k : W p l e R s m args below meth c H locs cells slots Q (F0 m (pc + 3) ls (.long (lN v) :: rest))) : W p l e R s m args below meth c H locs cells slots Q (F0 m pc ls rest) :=
  lv_ldc2 C.1 C.2.1 C.o (C.t hc) hdg (by rw [hv]; exact k)
theorem xt_iconst (C : xt_C p s m args c cc nL own D cI cL) {n : Int} (v : Nat) (hdg : decode cc pc = .ok (.iconst n, 1)) (hv : Int32.ofInt n = nI v) (k : W p l e R s m args below meth c H locs cells slots Q (F0 m (pc + 1) ls (.int (nI v) :: rest))) : W p l e R s m args below meth c H locs cells slots Q (F0 m pc ls rest) :=
  lv_iconst C.1 C.2.1 hdg hv k
theorem xt_bipush (C : xt_C p s m args c cc nL own D cI cL) {n : Int} (v : Nat) (hdg : decode cc pc = .ok (.bipush n, 2)) (hv : (Int8.ofInt n).toInt32 = nI v) (k : W p l e R s m args below meth c H locs cells slots Q (F0 m (pc + 2) ls (.int (nI v) :: rest))) : W p l e R s m args below meth c H locs cells slots Q (F0 m pc ls rest) :=
  lv_bipush C.1 C.2.1 hdg hv k
theorem xt_sipush (C : xt_C p s m args c cc nL own D cI cL) {n : Int} (v : Nat) (hdg : decode cc pc = .ok (.sipush n, 3)) (hv : (Int16.ofInt n).toInt32 = nI v) (k : W p l e R s m args below meth c H locs cells slots Q (F0 m (pc + 3) ls (.int (nI v) :: rest))) : W p l e R s m args below meth c H locs cells slots Q (F0 m pc ls rest) :=
  lv_sipush C.1 C.2.1 hdg hv k
theorem xt_lconst (C : xt_C p s m args c cc nL own D cI cL) {n : Fin 2} (v : Nat) (hdg : decode cc pc = .ok (.lconst n, 1)) (hv : Int64.ofNat (n : Nat) = lN v) (k : W p l e R s m args below meth c H locs cells slots Q (F0 m (pc + 1) ls (.long (lN v) :: rest))) : W p l e R s m args below meth c H locs cells slots Q (F0 m pc ls rest) :=
  lv_lconst C.1 C.2.1 hdg hv k
theorem xt_icmp_eq (C : xt_C p s m args c cc nL own D cI cL) {x y : Nat} (hx : x < 2 ^ 31) (hy : y < 2 ^ 31) {off : Int} {tgt : Nat} (hdg : decode cc pc = .ok (.if_icmp .eq off, 3)) (ht : (pc : Int) + off = (tgt : Int)) (kt : x = y → W p l e R s m args below meth c H locs cells slots Q (F0 m tgt ls rest)) (kf : x ≠ y → W p l e R s m args below meth c H locs cells slots Q (F0 m (pc + 3) ls rest)) : W p l e R s m args below meth c H locs cells slots Q (F0 m pc ls (.int (nI y) :: .int (nI x) :: rest)) :=
  lv_icmp_eq C.1 C.2.1 hdg ht (fun h => kt ((nI_eq hx hy).mp h)) (fun h => kf (by have h2 : ¬ (x = y) := fun q => h ((nI_eq hx hy).mpr q); omega))
theorem xt_icmp_ne (C : xt_C p s m args c cc nL own D cI cL) {x y : Nat} (hx : x < 2 ^ 31) (hy : y < 2 ^ 31) {off : Int} {tgt : Nat} (hdg : decode cc pc = .ok (.if_icmp .ne off, 3)) (ht : (pc : Int) + off = (tgt : Int)) (kt : x ≠ y → W p l e R s m args below meth c H locs cells slots Q (F0 m tgt ls rest)) (kf : x = y → W p l e R s m args below meth c H locs cells slots Q (F0 m (pc + 3) ls rest)) : W p l e R s m args below meth c H locs cells slots Q (F0 m pc ls (.int (nI y) :: .int (nI x) :: rest)) :=
  lv_icmp_ne C.1 C.2.1 hdg ht (fun h => kt (fun q => h ((nI_eq hx hy).mpr q))) (fun h => kf ((nI_eq hx hy).mp h))
theorem xt_icmp_lt (C : xt_C p s m args c cc nL own D cI cL) {x y : Nat} (hx : x < 2 ^ 31) (hy : y < 2 ^ 31) {off : Int} {tgt : Nat} (hdg : decode cc pc = .ok (.if_icmp .lt off, 3)) (ht : (pc : Int) + off = (tgt : Int)) (kt : x < y → W p l e R s m args below meth c H locs cells slots Q (F0 m tgt ls rest)) (kf : y ≤ x → W p l e R s m args below meth c H locs cells slots Q (F0 m (pc + 3) ls rest)) : W p l e R s m args below meth c H locs cells slots Q (F0 m pc ls (.int (nI y) :: .int (nI x) :: rest)) :=
  lv_icmp_lt C.1 C.2.1 hdg ht (fun h => kt ((nI_ltI hx hy).mp h)) (fun h => kf (by have h2 : ¬ (x < y) := fun q => h ((nI_ltI hx hy).mpr q); omega))
theorem xt_icmp_ge (C : xt_C p s m args c cc nL own D cI cL) {x y : Nat} (hx : x < 2 ^ 31) (hy : y < 2 ^ 31) {off : Int} {tgt : Nat} (hdg : decode cc pc = .ok (.if_icmp .ge off, 3)) (ht : (pc : Int) + off = (tgt : Int)) (kt : y ≤ x → W p l e R s m args below meth c H locs cells slots Q (F0 m tgt ls rest)) (kf : x < y → W p l e R s m args below meth c H locs cells slots Q (F0 m (pc + 3) ls rest)) : W p l e R s m args below meth c H locs cells slots Q (F0 m pc ls (.int (nI y) :: .int (nI x) :: rest)) :=
  lv_icmp_ge C.1 C.2.1 hdg ht (fun h => kt ((nI_leI hy hx).mp h)) (fun h => kf (by have h2 : ¬ (y ≤ x) := fun q => h ((nI_leI hy hx).mpr q); omega))
theorem xt_icmp_gt (C : xt_C p s m args c cc nL own D cI cL) {x y : Nat} (hx : x < 2 ^ 31) (hy : y < 2 ^ 31) {off : Int} {tgt : Nat} (hdg : decode cc pc = .ok (.if_icmp .gt off, 3)) (ht : (pc : Int) + off = (tgt : Int)) (kt : y < x → W p l e R s m args below meth c H locs cells slots Q (F0 m tgt ls rest)) (kf : x ≤ y → W p l e R s m args below meth c H locs cells slots Q (F0 m (pc + 3) ls rest)) : W p l e R s m args below meth c H locs cells slots Q (F0 m pc ls (.int (nI y) :: .int (nI x) :: rest)) :=
  lv_icmp_gt C.1 C.2.1 hdg ht (fun h => kt ((nI_ltI hy hx).mp h)) (fun h => kf (by have h2 : ¬ (y < x) := fun q => h ((nI_ltI hy hx).mpr q); omega))
theorem xt_icmp_le (C : xt_C p s m args c cc nL own D cI cL) {x y : Nat} (hx : x < 2 ^ 31) (hy : y < 2 ^ 31) {off : Int} {tgt : Nat} (hdg : decode cc pc = .ok (.if_icmp .le off, 3)) (ht : (pc : Int) + off = (tgt : Int)) (kt : x ≤ y → W p l e R s m args below meth c H locs cells slots Q (F0 m tgt ls rest)) (kf : y < x → W p l e R s m args below meth c H locs cells slots Q (F0 m (pc + 3) ls rest)) : W p l e R s m args below meth c H locs cells slots Q (F0 m pc ls (.int (nI y) :: .int (nI x) :: rest)) :=
  lv_icmp_le C.1 C.2.1 hdg ht (fun h => kt ((nI_leI hx hy).mp h)) (fun h => kf (by have h2 : ¬ (x ≤ y) := fun q => h ((nI_leI hx hy).mpr q); omega))
theorem xt_z {x : Nat} (hx : x < 2 ^ 31) : nI x = 0 ↔ x = 0 := by
  have h := nI_eq hx (b := 0) (by omega)
  rw [nI_0] at h
  exact h
theorem xt_zp {x : Nat} (hx : x < 2 ^ 31) : 0 < nI x ↔ 0 < x := by
  have h := nI_ltI (a := 0) (b := x) (by omega) hx
  rw [nI_0] at h
  exact h
theorem xt_zl {x : Nat} (hx : x < 2 ^ 31) : nI x ≤ 0 ↔ x = 0 := by
  have h := nI_leI (a := x) (b := 0) hx (by omega)
  rw [nI_0] at h
  rw [h]
  omega
theorem xt_if_eq (C : xt_C p s m args c cc nL own D cI cL) {x : Nat} (hx : x < 2 ^ 31) {off : Int} {tgt : Nat} (hdg : decode cc pc = .ok (.ifCond .eq off, 3)) (ht : (pc : Int) + off = (tgt : Int)) (kt : x = 0 → W p l e R s m args below meth c H locs cells slots Q (F0 m tgt ls rest)) (kf : x ≠ 0 → W p l e R s m args below meth c H locs cells slots Q (F0 m (pc + 3) ls rest)) : W p l e R s m args below meth c H locs cells slots Q (F0 m pc ls (.int (nI x) :: rest)) :=
  lv_if_eq C.1 C.2.1 hdg ht (fun h => kt ((xt_z hx).mp h)) (fun h => kf (by have h2 : ¬ (x = 0) := fun q => h ((xt_z hx).mpr q); omega))
theorem xt_if_ne (C : xt_C p s m args c cc nL own D cI cL) {x : Nat} (hx : x < 2 ^ 31) {off : Int} {tgt : Nat} (hdg : decode cc pc = .ok (.ifCond .ne off, 3)) (ht : (pc : Int) + off = (tgt : Int)) (kt : x ≠ 0 → W p l e R s m args below meth c H locs cells slots Q (F0 m tgt ls rest)) (kf : x = 0 → W p l e R s m args below meth c H locs cells slots Q (F0 m (pc + 3) ls rest)) : W p l e R s m args below meth c H locs cells slots Q (F0 m pc ls (.int (nI x) :: rest)) :=
  lv_if_ne C.1 C.2.1 hdg ht (fun h => kt (fun q => h ((xt_z hx).mpr q))) (fun h => kf ((xt_z hx).mp h))
theorem xt_if_gt (C : xt_C p s m args c cc nL own D cI cL) {x : Nat} (hx : x < 2 ^ 31) {off : Int} {tgt : Nat} (hdg : decode cc pc = .ok (.ifCond .gt off, 3)) (ht : (pc : Int) + off = (tgt : Int)) (kt : 0 < x → W p l e R s m args below meth c H locs cells slots Q (F0 m tgt ls rest)) (kf : x = 0 → W p l e R s m args below meth c H locs cells slots Q (F0 m (pc + 3) ls rest)) : W p l e R s m args below meth c H locs cells slots Q (F0 m pc ls (.int (nI x) :: rest)) :=
  lv_if_gt C.1 C.2.1 hdg ht (fun h => kt ((xt_zp hx).mp h)) (fun h => kf (by have h2 : ¬ (0 < x) := fun q => h ((xt_zp hx).mpr q); omega))
theorem xt_if_le (C : xt_C p s m args c cc nL own D cI cL) {x : Nat} (hx : x < 2 ^ 31) {off : Int} {tgt : Nat} (hdg : decode cc pc = .ok (.ifCond .le off, 3)) (ht : (pc : Int) + off = (tgt : Int)) (kt : x = 0 → W p l e R s m args below meth c H locs cells slots Q (F0 m tgt ls rest)) (kf : 0 < x → W p l e R s m args below meth c H locs cells slots Q (F0 m (pc + 3) ls rest)) : W p l e R s m args below meth c H locs cells slots Q (F0 m pc ls (.int (nI x) :: rest)) :=
  lv_if_le C.1 C.2.1 hdg ht (fun h => kt ((xt_zl hx).mp h)) (fun h => kf (by have h2 : ¬ (x = 0) := fun q => h ((xt_zl hx).mpr q); omega))
theorem xt_if_lt (C : xt_C p s m args c cc nL own D cI cL) {x : Nat} (hx : x < 2 ^ 31) {off : Int} {tgt : Nat} (hdg : decode cc pc = .ok (.ifCond .lt off, 3)) (ht : (pc : Int) + off = (tgt : Int)) (kf : W p l e R s m args below meth c H locs cells slots Q (F0 m (pc + 3) ls rest)) : W p l e R s m args below meth c H locs cells slots Q (F0 m pc ls (.int (nI x) :: rest)) :=
  lv_if_lt C.1 C.2.1 hdg ht (fun h => absurd h (nI_pos hx)) (fun _ => kf)
theorem xt_if_ge (C : xt_C p s m args c cc nL own D cI cL) {x : Nat} (hx : x < 2 ^ 31) {off : Int} {tgt : Nat} (hdg : decode cc pc = .ok (.ifCond .ge off, 3)) (ht : (pc : Int) + off = (tgt : Int)) (kt : W p l e R s m args below meth c H locs cells slots Q (F0 m tgt ls rest)) : W p l e R s m args below meth c H locs cells slots Q (F0 m pc ls (.int (nI x) :: rest)) :=
  lv_if_ge C.1 C.2.1 hdg ht (fun _ => kt) (fun h => absurd (nI_pos' hx) h)
theorem xt_l_eq (C : xt_C p s m args c cc nL own D cI cL) {x y : Nat} (hx : x < 2 ^ 63) (hy : y < 2 ^ 63) {off : Int} {tgt : Nat} (hd1 : decode cc pc = .ok (.lcmp, 1)) (hdg : decode cc (pc + 1) = .ok (.ifCond .eq off, 3)) (ht : ((pc + 1 : Nat) : Int) + off = (tgt : Int)) (kt : x = y → W p l e R s m args below meth c H locs cells slots Q (F0 m tgt ls rest)) (kf : x ≠ y → W p l e R s m args below meth c H locs cells slots Q (F0 m (pc + 1 + 3) ls rest)) : W p l e R s m args below meth c H locs cells slots Q (F0 m pc ls (.long (lN y) :: .long (lN x) :: rest)) := by
  refine W.lcmp C.1 C.2.1 hd1 ?_
  exact lv_if_eq C.1 C.2.1 hdg ht (fun h => kt ((pk_lEQ hx hy).mp ((lg_cmp_eq _ _).mp h))) (fun h => kf (by have h2 : ¬ (x = y) := fun q => h ((lg_cmp_eq _ _).mpr ((pk_lEQ hx hy).mpr q)); omega))
theorem xt_l_ne (C : xt_C p s m args c cc nL own D cI cL) {x y : Nat} (hx : x < 2 ^ 63) (hy : y < 2 ^ 63) {off : Int} {tgt : Nat} (hd1 : decode cc pc = .ok (.lcmp, 1)) (hdg : decode cc (pc + 1) = .ok (.ifCond .ne off, 3)) (ht : ((pc + 1 : Nat) : Int) + off = (tgt : Int)) (kt : x ≠ y → W p l e R s m args below meth c H locs cells slots Q (F0 m tgt ls rest)) (kf : x = y → W p l e R s m args below meth c H locs cells slots Q (F0 m (pc + 1 + 3) ls rest)) : W p l e R s m args below meth c H locs cells slots Q (F0 m pc ls (.long (lN y) :: .long (lN x) :: rest)) := by
  refine W.lcmp C.1 C.2.1 hd1 ?_
  exact lv_if_ne C.1 C.2.1 hdg ht (fun h => kt (fun q => h ((lg_cmp_eq _ _).mpr ((pk_lEQ hx hy).mpr q)))) (fun h => kf ((pk_lEQ hx hy).mp ((lg_cmp_eq _ _).mp h)))
theorem xt_l_lt (C : xt_C p s m args c cc nL own D cI cL) {x y : Nat} (hx : x < 2 ^ 63) (hy : y < 2 ^ 63) {off : Int} {tgt : Nat} (hd1 : decode cc pc = .ok (.lcmp, 1)) (hdg : decode cc (pc + 1) = .ok (.ifCond .lt off, 3)) (ht : ((pc + 1 : Nat) : Int) + off = (tgt : Int)) (kt : x < y → W p l e R s m args below meth c H locs cells slots Q (F0 m tgt ls rest)) (kf : y ≤ x → W p l e R s m args below meth c H locs cells slots Q (F0 m (pc + 1 + 3) ls rest)) : W p l e R s m args below meth c H locs cells slots Q (F0 m pc ls (.long (lN y) :: .long (lN x) :: rest)) := by
  refine W.lcmp C.1 C.2.1 hd1 ?_
  exact lv_if_lt C.1 C.2.1 hdg ht (fun h => kt ((pk_lLT hx hy).mp ((lg_cmp_lt _ _).mp h))) (fun h => kf (by have h2 : ¬ (x < y) := fun q => h ((lg_cmp_lt _ _).mpr ((pk_lLT hx hy).mpr q)); omega))
theorem xt_l_ge (C : xt_C p s m args c cc nL own D cI cL) {x y : Nat} (hx : x < 2 ^ 63) (hy : y < 2 ^ 63) {off : Int} {tgt : Nat} (hd1 : decode cc pc = .ok (.lcmp, 1)) (hdg : decode cc (pc + 1) = .ok (.ifCond .ge off, 3)) (ht : ((pc + 1 : Nat) : Int) + off = (tgt : Int)) (kt : y ≤ x → W p l e R s m args below meth c H locs cells slots Q (F0 m tgt ls rest)) (kf : x < y → W p l e R s m args below meth c H locs cells slots Q (F0 m (pc + 1 + 3) ls rest)) : W p l e R s m args below meth c H locs cells slots Q (F0 m pc ls (.long (lN y) :: .long (lN x) :: rest)) := by
  refine W.lcmp C.1 C.2.1 hd1 ?_
  exact lv_if_ge C.1 C.2.1 hdg ht (fun h => kt ((pk_lLE hy hx).mp ((lg_cmp_ge _ _).mp h))) (fun h => kf (by have h2 : ¬ (y ≤ x) := fun q => h ((lg_cmp_ge _ _).mpr ((pk_lLE hy hx).mpr q)); omega))
theorem xt_l_gt (C : xt_C p s m args c cc nL own D cI cL) {x y : Nat} (hx : x < 2 ^ 63) (hy : y < 2 ^ 63) {off : Int} {tgt : Nat} (hd1 : decode cc pc = .ok (.lcmp, 1)) (hdg : decode cc (pc + 1) = .ok (.ifCond .gt off, 3)) (ht : ((pc + 1 : Nat) : Int) + off = (tgt : Int)) (kt : y < x → W p l e R s m args below meth c H locs cells slots Q (F0 m tgt ls rest)) (kf : x ≤ y → W p l e R s m args below meth c H locs cells slots Q (F0 m (pc + 1 + 3) ls rest)) : W p l e R s m args below meth c H locs cells slots Q (F0 m pc ls (.long (lN y) :: .long (lN x) :: rest)) := by
  refine W.lcmp C.1 C.2.1 hd1 ?_
  exact lv_if_gt C.1 C.2.1 hdg ht (fun h => kt ((pk_lLT hy hx).mp ((lg_cmp_gt _ _).mp h))) (fun h => kf (by have h2 : ¬ (y < x) := fun q => h ((lg_cmp_gt _ _).mpr ((pk_lLT hy hx).mpr q)); omega))
theorem xt_l_le (C : xt_C p s m args c cc nL own D cI cL) {x y : Nat} (hx : x < 2 ^ 63) (hy : y < 2 ^ 63) {off : Int} {tgt : Nat} (hd1 : decode cc pc = .ok (.lcmp, 1)) (hdg : decode cc (pc + 1) = .ok (.ifCond .le off, 3)) (ht : ((pc + 1 : Nat) : Int) + off = (tgt : Int)) (kt : x ≤ y → W p l e R s m args below meth c H locs cells slots Q (F0 m tgt ls rest)) (kf : y < x → W p l e R s m args below meth c H locs cells slots Q (F0 m (pc + 1 + 3) ls rest)) : W p l e R s m args below meth c H locs cells slots Q (F0 m pc ls (.long (lN y) :: .long (lN x) :: rest)) := by
  refine W.lcmp C.1 C.2.1 hd1 ?_
  exact lv_if_le C.1 C.2.1 hdg ht (fun h => kt ((pk_lLE hx hy).mp ((lg_cmp_le _ _).mp h))) (fun h => kf (by have h2 : ¬ (x ≤ y) := fun q => h ((lg_cmp_le _ _).mpr ((pk_lLE hx hy).mpr q)); omega))
theorem xt_mT {y : Nat} (hy : y < 2 ^ 30) : (nI y - nI 1).toInt = (y : Int) - 1 := pk_sub_toInt hy (by omega)
theorem xt_nT {x : Nat} (hx : x < 2 ^ 30) : (nI x).toInt = (x : Int) := nI_toInt (by omega)
theorem xt_icmp_ge_m (C : xt_C p s m args c cc nL own D cI cL) {x y : Nat} (hx : x < 2 ^ 30) (hy : y < 2 ^ 30) {off : Int} {tgt : Nat} (hdg : decode cc pc = .ok (.if_icmp .ge off, 3)) (ht : (pc : Int) + off = (tgt : Int)) (kt : y ≤ x + 1 → W p l e R s m args below meth c H locs cells slots Q (F0 m tgt ls rest)) (kf : x + 1 < y → W p l e R s m args below meth c H locs cells slots Q (F0 m (pc + 3) ls rest)) : W p l e R s m args below meth c H locs cells slots Q (F0 m pc ls (.int (nI y - nI 1) :: .int (nI x) :: rest)) := by
  have key : nI y - nI 1 ≤ nI x ↔ y ≤ x + 1 := by
    rw [Int32.le_iff_toInt_le, xt_mT hy, xt_nT hx]
    omega
  exact lv_icmp_ge C.1 C.2.1 hdg ht (fun h => kt (key.mp h)) (fun h => kf (by have h2 : ¬ (y ≤ x + 1) := fun q => h (key.mpr q); omega))
theorem xt_icmp_gt_m (C : xt_C p s m args c cc nL own D cI cL) {x y : Nat} (hx : x < 2 ^ 30) (hy : y < 2 ^ 30) {off : Int} {tgt : Nat} (hdg : decode cc pc = .ok (.if_icmp .gt off, 3)) (ht : (pc : Int) + off = (tgt : Int)) (kt : y ≤ x → W p l e R s m args below meth c H locs cells slots Q (F0 m tgt ls rest)) (kf : x < y → W p l e R s m args below meth c H locs cells slots Q (F0 m (pc + 3) ls rest)) : W p l e R s m args below meth c H locs cells slots Q (F0 m pc ls (.int (nI y - nI 1) :: .int (nI x) :: rest)) := by
  have key : nI y - nI 1 < nI x ↔ y ≤ x := by
    rw [Int32.lt_iff_toInt_lt, xt_mT hy, xt_nT hx]
    omega
  exact lv_icmp_gt C.1 C.2.1 hdg ht (fun h => kt (key.mp h)) (fun h => kf (by have h2 : ¬ (y ≤ x) := fun q => h (key.mpr q); omega))
theorem xt_icmp_lt_m (C : xt_C p s m args c cc nL own D cI cL) {x y : Nat} (hx : x < 2 ^ 30) (hy : y < 2 ^ 30) {off : Int} {tgt : Nat} (hdg : decode cc pc = .ok (.if_icmp .lt off, 3)) (ht : (pc : Int) + off = (tgt : Int)) (kt : x ≤ y → W p l e R s m args below meth c H locs cells slots Q (F0 m tgt ls rest)) (kf : y < x → W p l e R s m args below meth c H locs cells slots Q (F0 m (pc + 3) ls rest)) : W p l e R s m args below meth c H locs cells slots Q (F0 m pc ls (.int (nI y) :: .int (nI x - nI 1) :: rest)) := by
  have key : nI x - nI 1 < nI y ↔ x ≤ y := by
    rw [Int32.lt_iff_toInt_lt, xt_mT hx, xt_nT hy]
    omega
  exact lv_icmp_lt C.1 C.2.1 hdg ht (fun h => kt (key.mp h)) (fun h => kf (by have h2 : ¬ (x ≤ y) := fun q => h (key.mpr q); omega))
theorem xt_if_lt_m (C : xt_C p s m args c cc nL own D cI cL) {x : Nat} (hx : x < 2 ^ 30) {off : Int} {tgt : Nat} (hdg : decode cc pc = .ok (.ifCond .lt off, 3)) (ht : (pc : Int) + off = (tgt : Int)) (kt : x = 0 → W p l e R s m args below meth c H locs cells slots Q (F0 m tgt ls rest)) (kf : 0 < x → W p l e R s m args below meth c H locs cells slots Q (F0 m (pc + 3) ls rest)) : W p l e R s m args below meth c H locs cells slots Q (F0 m pc ls (.int (nI x - nI 1) :: rest)) := by
  have key : nI x - nI 1 < 0 ↔ x = 0 := by
    rw [Int32.lt_iff_toInt_lt, xt_mT hx, Int32.toInt_zero]
    omega
  exact lv_if_lt C.1 C.2.1 hdg ht (fun h => kt (key.mp h)) (fun h => kf (by have h2 : ¬ (x = 0) := fun q => h (key.mpr q); omega))
theorem xt_decm {x : Nat} : nI x + Int32.ofInt (-1) = nI x - nI 1 := by
  rw [Int32.sub_eq_add_neg]
  rfl
theorem xt_orN (a b : Nat) : nI a ||| nI b = nI (a ||| b) := by
  apply Int32.toBitVec_inj.1
  show BitVec.ofNat 32 a ||| BitVec.ofNat 32 b = BitVec.ofNat 32 (a ||| b)
  apply BitVec.eq_of_getLsbD_eq
  intro i hi
  simp [hi]
theorem xt_or4 {a t : Nat} (ht : t < 4) : nI (a * 4) ||| nI t = nI (a * 4 + t) := by
  rw [xt_orN]
  have h := Nat.two_pow_add_eq_or_of_lt (i := 2) (b := t) ht a
  have e : a * 4 = 2 ^ 2 * a := by omega
  rw [e, ← h]
theorem xt_sm : ∀ n, n < 32 → ((nI n &&& 31).toBitVec.smod 32).toNat = n := by decide +kernel
theorem xt_and3 (C : xt_C p s m args c cc nL own D cI cL) {x : Nat} (hdg : decode cc pc = .ok (.iand, 1)) (h : x < 2 ^ 32) (k : W p l e R s m args below meth c H locs cells slots Q (F0 m (pc + 1) ls (.int (nI (x % 4)) :: rest))) : W p l e R s m args below meth c H locs cells slots Q (F0 m pc ls (.int (nI 3) :: .int (nI x) :: rest)) :=
  lv_iand C.1 C.2.1 hdg (by rw [pk_andN h (m := nI 3) 2 (by decide)]; exact k)
theorem xt_shl2 (C : xt_C p s m args c cc nL own D cI cL) {x : Nat} (hdg : decode cc pc = .ok (.ishl, 1)) (h : x * 4 < 2 ^ 32) (k : W p l e R s m args below meth c H locs cells slots Q (F0 m (pc + 1) ls (.int (nI (x * 4)) :: rest))) : W p l e R s m args below meth c H locs cells slots Q (F0 m pc ls (.int (nI 2) :: .int (nI x) :: rest)) :=
  lv_ishl C.1 C.2.1 hdg (by rw [pk_shlN (nI 2 &&& 31) 2 (xt_sm 2 (by decide)) h]; exact k)
theorem xt_ior4 (C : xt_C p s m args c cc nL own D cI cL) {x y : Nat} (hdg : decode cc pc = .ok (.ior, 1)) (h : y < 4) (k : W p l e R s m args below meth c H locs cells slots Q (F0 m (pc + 1) ls (.int (nI (x * 4 + y)) :: rest))) : W p l e R s m args below meth c H locs cells slots Q (F0 m pc ls (.int (nI y) :: .int (nI (x * 4)) :: rest)) :=
  lv_ior C.1 C.2.1 hdg (by rw [xt_or4 h]; exact k)
theorem xt_ishr (C : xt_C p s m args c cc nL own D cI cL) {x y : Nat} (hdg : decode cc pc = .ok (.ishr, 1)) (hx : x < 2 ^ 31) (hy : y < 32) (k : W p l e R s m args below meth c H locs cells slots Q (F0 m (pc + 1) ls (.int (nI (x / 2 ^ y)) :: rest))) : W p l e R s m args below meth c H locs cells slots Q (F0 m pc ls (.int (nI y) :: .int (nI x) :: rest)) :=
  lv_ishr C.1 C.2.1 hdg (by rw [pk_shrN hx (nI y &&& 31) y (xt_sm y hy)]; exact k)
end XT
/-! two worlds side by side (the law's): a call on one of them leaves the other -/
theorem xt_PL {D : va_G} {cl : List vw_C} {w1 w2 : va_W} {H : Heap} (h : va_P D cl (w1 ++ w2) H) : va_P D cl w1 H := fun k q hk =>
  h k q (by rw [List.getElem?_append_left (List.getElem?_eq_some_iff.mp hk).1]; exact hk)
theorem xt_PR {D : va_G} {cl : List vw_C} {w1 w2 : va_W} {H : Heap} (h : va_P D cl (w1 ++ w2) H) : va_P D cl w2 H := fun k q hk =>
  h (w1.length + k) q (by rw [List.getElem?_append_right (Nat.le_add_right _ _), Nat.add_sub_cancel_left]; exact hk)
theorem xt_aL {w1 w2 : va_W} {k : Nat} {q : Nat × va_E} (hk : w1[k]? = some q) : (w1 ++ w2)[k]? = some q := by
  rw [List.getElem?_append_left (List.getElem?_eq_some_iff.mp hk).1]; exact hk
theorem xt_aR {w1 w2 : va_W} {k : Nat} {q : Nat × va_E} (hk : w2[k]? = some q) : (w1 ++ w2)[w1.length + k]? = some q := by
  rw [List.getElem?_append_right (Nat.le_add_right _ _), Nat.add_sub_cancel_left]; exact hk
theorem xt_DL {A : Nat → Prop} {w1 w2 : va_W} (h : va_D A (w1 ++ w2)) : va_D A w1 :=
  ⟨fun i j p q hi hj e => h.1 i j p q (xt_aL hi) (xt_aL hj) e, fun k q hk => h.2 k q (xt_aL hk)⟩
theorem xt_DR {A : Nat → Prop} {w1 w2 : va_W} (h : va_D A (w1 ++ w2)) : va_D A w2 :=
  ⟨fun i j p q hi hj e => by have := h.1 _ _ p q (xt_aR hi) (xt_aR hj) e; omega, fun k q hk => h.2 _ q (xt_aR hk)⟩
theorem xt_ap {A : Nat → Prop} {w1 w2 : va_W} (h : va_D A (w1 ++ w2)) {i j : Nat} {p q : Nat × va_E} (hi : w1[i]? = some p) (hj : w2[j]? = some q) : p.1 ≠ q.1 := fun e => by
  have h1 := h.1 _ _ p q (xt_aL hi) (xt_aR hj) e
  have h2 := (List.getElem?_eq_some_iff.mp hi).1
  omega
theorem xt_out {D : va_G} {cl : List vw_C} {wc wo : va_W} {H : Heap} (hP : va_P D cl wo H) (hap : ∀ (i j : Nat) (p q : Nat × va_E), wc[i]? = some p → wo[j]? = some q → p.1 ≠ q.1) {k : Nat} {q : Nat × va_E} (hq : wo[k]? = some q) : q.1 < H.size ∧ ¬ va_A wc H.size q.1 := by
  refine ⟨(hP k q hq).lt, fun h => ?_⟩
  rcases h with ⟨j, e, h⟩ | h
  · exact hap j k (q.1, e) q h hq rfl
  · have := (hP k q hq).lt
    omega
theorem xt_keep {D : va_G} {cl : List vw_C} {wc wo : va_W} {H H1 : Heap} (hP : va_P D cl wo H) (hap : ∀ (i j : Nat) (p q : Nat × va_E), wc[i]? = some p → wo[j]? = some q → p.1 ≠ q.1) (hk : ∀ q : Nat, q < H.size → ¬ va_A wc H.size q → H1[q]? = H[q]?) : va_P D cl wo H1 :=
  hP.kept (fun _ q hq => hk q.1 (xt_out hP hap hq).1 (xt_out hP hap hq).2)
section XTF
variable {p : Program} {l : Launch} {e : Env} {R : Room} {s : State} {m : MethodId} {args : Array Value} {below : List Frame} {meth : Method} {c : Code} {H : Heap} {locs : List Loc} {cells slots : Nat} {Q : State → Prop}
variable {pc : Nat} {ls : Array Slot} {rest st0 : List Value} {D : va_G} {cI cL : ClassId} {A : Nat → Prop} {H0 : Heap} {w1 w2 : va_W}
theorem xt_frL (hA : ∀ q, H0.size ≤ q → A q) (w : xt_W D A H0 (w1 ++ w2) H locs) : ∀ q, va_A w1 H.size q → A q := fun q h => by
  rcases h with ⟨k, e, h⟩ | h
  · exact (xt_DL w.2.1).2 k _ h
  · exact hA q (Nat.le_trans w.2.2.1 h)
theorem xt_frR (hA : ∀ q, H0.size ≤ q → A q) (w : xt_W D A H0 (w1 ++ w2) H locs) : ∀ q, va_A w2 H.size q → A q := fun q h => by
  rcases h with ⟨k, e, h⟩ | h
  · exact (xt_DR w.2.1).2 k _ h
  · exact hA q (Nat.le_trans w.2.2.1 h)
theorem xt_joinL {w1' : va_W} {H1 : Heap} {locs1 : List Loc} (hA : ∀ q, H0.size ≤ q → A q) (w : xt_W D A H0 (w1 ++ w2) H locs) (hP1 : va_P D vwCl w1' H1) (hD1 : va_D (va_A w1 H.size) w1') (hk : ∀ q : Nat, q < H.size → ¬ va_A w1 H.size q → H1[q]? = H[q]?) (hS : va_S A H0 H1 locs1) : xt_W D A H0 (w1' ++ w2) H1 locs1 := by
  have hap : ∀ (i j : Nat) (p q : Nat × va_E), w1[i]? = some p → w2[j]? = some q → p.1 ≠ q.1 := fun i j p q h1 h2 => xt_ap w.2.1 h1 h2
  refine ⟨va_P.app hP1 (xt_keep (xt_PR w.1) hap hk), va_D.app (hD1.weaken (fun k q _ h => xt_frL hA w q.1 h)) (xt_DR w.2.1) (fun i j p q hi hj e => ?_), hS⟩
  exact (xt_out (xt_PR w.1) hap hj).2 (by rw [← e]; exact hD1.2 i p hi)
theorem xt_joinR {w2' : va_W} {H1 : Heap} {locs1 : List Loc} (hA : ∀ q, H0.size ≤ q → A q) (w : xt_W D A H0 (w1 ++ w2) H locs) (hP1 : va_P D vwCl w2' H1) (hD1 : va_D (va_A w2 H.size) w2') (hk : ∀ q : Nat, q < H.size → ¬ va_A w2 H.size q → H1[q]? = H[q]?) (hS : va_S A H0 H1 locs1) : xt_W D A H0 (w1 ++ w2') H1 locs1 := by
  have hap : ∀ (i j : Nat) (p q : Nat × va_E), w2[i]? = some p → w1[j]? = some q → p.1 ≠ q.1 := fun i j p q h1 h2 => (xt_ap w.2.1 h2 h1).symm
  refine ⟨va_P.app (xt_keep (xt_PL w.1) hap hk) hP1, va_D.app (xt_DL w.2.1) (hD1.weaken (fun k q _ h => xt_frR hA w q.1 h)) (fun i j p q hi hj e => ?_), hS⟩
  exact (xt_out (xt_PL w.1) hap hi).2 (by rw [e]; exact hD1.2 j q hj)
theorem xt_ciL {U : Type} {post : Int32 → U → Prop} {ws' : U → va_W} {av : Array Value} (hA : ∀ q, H0.size ≤ q → A q) (w : xt_W D A H0 (w1 ++ w2) H locs) (hr : va_Run p l e R s m args below meth c H locs cells slots 0 0 (F0 m pc ls st0) rest (xt_Qi D cI cL w1 post ws' H.size av) (va_A w1 H.size))
    (kk : ∀ (r : Int32) (u : U) (H1 : Heap) (locs1 : List Loc), post r u → xt_W D A H0 (ws' u ++ w2) H1 locs1 → W p l e R s m args below meth c H1 locs1 cells slots Q (F0 m (pc + 3) ls (.int r :: rest))) : W p l e R s m args below meth c H locs cells slots Q (F0 m pc ls st0) := by
  refine va_calli hr w.2.2 (fun q _ h => xt_frL hA w q h) (xt_frL hA w) (fun r u t H1 locs1 ht hvm hp hB hz hk hS => ?_)
  obtain ⟨hP1, hK1, hD1⟩ := hB
  rw [ht] at hP1
  exact kk r u H1 locs1 hp (xt_joinL hA w hP1 hD1 hk hS)
theorem xt_ciR {U : Type} {post : Int32 → U → Prop} {ws' : U → va_W} {av : Array Value} (hA : ∀ q, H0.size ≤ q → A q) (w : xt_W D A H0 (w1 ++ w2) H locs) (hr : va_Run p l e R s m args below meth c H locs cells slots 0 0 (F0 m pc ls st0) rest (xt_Qi D cI cL w2 post ws' H.size av) (va_A w2 H.size))
    (kk : ∀ (r : Int32) (u : U) (H1 : Heap) (locs1 : List Loc), post r u → xt_W D A H0 (w1 ++ ws' u) H1 locs1 → W p l e R s m args below meth c H1 locs1 cells slots Q (F0 m (pc + 3) ls (.int r :: rest))) : W p l e R s m args below meth c H locs cells slots Q (F0 m pc ls st0) := by
  refine va_calli hr w.2.2 (fun q _ h => xt_frR hA w q h) (xt_frR hA w) (fun r u t H1 locs1 ht hvm hp hB hz hk hS => ?_)
  obtain ⟨hP1, hK1, hD1⟩ := hB
  rw [ht] at hP1
  exact kk r u H1 locs1 hp (xt_joinR hA w hP1 hD1 hk hS)
theorem xt_clL {U : Type} {post : Int64 → U → Prop} {ws' : U → va_W} {av : Array Value} (hA : ∀ q, H0.size ≤ q → A q) (w : xt_W D A H0 (w1 ++ w2) H locs) (hr : va_Run p l e R s m args below meth c H locs cells slots 0 0 (F0 m pc ls st0) rest (xt_Ql D cI cL w1 post ws' H.size av) (va_A w1 H.size))
    (kk : ∀ (r : Int64) (u : U) (H1 : Heap) (locs1 : List Loc), post r u → xt_W D A H0 (ws' u ++ w2) H1 locs1 → W p l e R s m args below meth c H1 locs1 cells slots Q (F0 m (pc + 3) ls (.long r :: rest))) : W p l e R s m args below meth c H locs cells slots Q (F0 m pc ls st0) := by
  refine va_calll hr w.2.2 (fun q _ h => xt_frL hA w q h) (xt_frL hA w) (fun r u t H1 locs1 ht hvm hp hB hz hk hS => ?_)
  obtain ⟨hP1, hK1, hD1⟩ := hB
  rw [ht] at hP1
  exact kk r u H1 locs1 hp (xt_joinL hA w hP1 hD1 hk hS)
theorem xt_clR {U : Type} {post : Int64 → U → Prop} {ws' : U → va_W} {av : Array Value} (hA : ∀ q, H0.size ≤ q → A q) (w : xt_W D A H0 (w1 ++ w2) H locs) (hr : va_Run p l e R s m args below meth c H locs cells slots 0 0 (F0 m pc ls st0) rest (xt_Ql D cI cL w2 post ws' H.size av) (va_A w2 H.size))
    (kk : ∀ (r : Int64) (u : U) (H1 : Heap) (locs1 : List Loc), post r u → xt_W D A H0 (w1 ++ ws' u) H1 locs1 → W p l e R s m args below meth c H1 locs1 cells slots Q (F0 m (pc + 3) ls (.long r :: rest))) : W p l e R s m args below meth c H locs cells slots Q (F0 m pc ls st0) := by
  refine va_calll hr w.2.2 (fun q _ h => xt_frR hA w q h) (xt_frR hA w) (fun r u t H1 locs1 ht hvm hp hB hz hk hS => ?_)
  obtain ⟨hP1, hK1, hD1⟩ := hB
  rw [ht] at hP1
  exact kk r u H1 locs1 hp (xt_joinR hA w hP1 hD1 hk hS)
end XTF
end
section
theorem dX0_init_0 : decode cX0_init 0 = .ok (.aload_n 0, 1) := by decide +kernel
theorem dX0_init_1 : decode cX0_init 1 = .ok (.invokespecial 1, 3) := by decide +kernel
theorem dX0_init_4 : decode cX0_init 4 = .ok (.aload_n 0, 1) := by decide +kernel
theorem dX0_init_5 : decode cX0_init 5 = .ok (.bipush 36, 2) := by decide +kernel
theorem dX0_init_7 : decode cX0_init 7 = .ok (.newarray .int, 2) := by decide +kernel
theorem dX0_init_9 : decode cX0_init 9 = .ok (.putfield 9, 3) := by decide +kernel
theorem dX0_init_12 : decode cX0_init 12 = .ok (.aload_n 0, 1) := by decide +kernel
theorem dX0_init_13 : decode cX0_init 13 = .ok (.bipush 36, 2) := by decide +kernel
theorem dX0_init_15 : decode cX0_init 15 = .ok (.newarray .int, 2) := by decide +kernel
theorem dX0_init_17 : decode cX0_init 17 = .ok (.putfield 13, 3) := by decide +kernel
theorem dX0_init_20 : decode cX0_init 20 = .ok (.aload_n 0, 1) := by decide +kernel
theorem dX0_init_21 : decode cX0_init 21 = .ok (.bipush 6, 2) := by decide +kernel
theorem dX0_init_23 : decode cX0_init 23 = .ok (.newarray .int, 2) := by decide +kernel
theorem dX0_init_25 : decode cX0_init 25 = .ok (.putfield 16, 3) := by decide +kernel
theorem dX0_init_28 : decode cX0_init 28 = .ok (.aload_n 0, 1) := by decide +kernel
theorem dX0_init_29 : decode cX0_init 29 = .ok (.bipush 18, 2) := by decide +kernel
theorem dX0_init_31 : decode cX0_init 31 = .ok (.newarray .long, 2) := by decide +kernel
theorem dX0_init_33 : decode cX0_init 33 = .ok (.putfield 19, 3) := by decide +kernel
theorem dX0_init_36 : decode cX0_init 36 = .ok (.aload_n 0, 1) := by decide +kernel
theorem dX0_init_37 : decode cX0_init 37 = .ok (.bipush 18, 2) := by decide +kernel
theorem dX0_init_39 : decode cX0_init 39 = .ok (.newarray .long, 2) := by decide +kernel
theorem dX0_init_41 : decode cX0_init 41 = .ok (.putfield 23, 3) := by decide +kernel
theorem dX0_init_44 : decode cX0_init 44 = .ok (.aload_n 0, 1) := by decide +kernel
theorem dX0_init_45 : decode cX0_init 45 = .ok (.bipush 12, 2) := by decide +kernel
theorem dX0_init_47 : decode cX0_init 47 = .ok (.newarray .long, 2) := by decide +kernel
theorem dX0_init_49 : decode cX0_init 49 = .ok (.putfield 26, 3) := by decide +kernel
theorem dX0_init_52 : decode cX0_init 52 = .ok (.aload_n 0, 1) := by decide +kernel
theorem dX0_init_53 : decode cX0_init 53 = .ok (.bipush 12, 2) := by decide +kernel
theorem dX0_init_55 : decode cX0_init 55 = .ok (.newarray .int, 2) := by decide +kernel
theorem dX0_init_57 : decode cX0_init 57 = .ok (.putfield 29, 3) := by decide +kernel
theorem dX0_init_60 : decode cX0_init 60 = .ok (.aload_n 0, 1) := by decide +kernel
theorem dX0_init_61 : decode cX0_init 61 = .ok (.bipush 6, 2) := by decide +kernel
theorem dX0_init_63 : decode cX0_init 63 = .ok (.newarray .int, 2) := by decide +kernel
theorem dX0_init_65 : decode cX0_init 65 = .ok (.putfield 32, 3) := by decide +kernel
theorem dX0_init_68 : decode cX0_init 68 = .ok (.aload_n 0, 1) := by decide +kernel
theorem dX0_init_69 : decode cX0_init 69 = .ok (.iconst 1, 1) := by decide +kernel
theorem dX0_init_70 : decode cX0_init 70 = .ok (.iconst 1, 1) := by decide +kernel
theorem dX0_init_71 : decode cX0_init 71 = .ok (.invokevirtual 35, 3) := by decide +kernel
theorem dX0_init_74 : decode cX0_init 74 = .ok (.return_, 1) := by decide +kernel
theorem dX0_size_0 : decode cX0_size 0 = .ok (.iload_n 1, 1) := by decide +kernel
theorem dX0_size_1 : decode cX0_size 1 = .ok (.iconst 1, 1) := by decide +kernel
theorem dX0_size_2 : decode cX0_size 2 = .ok (.if_icmp .lt 18, 3) := by decide +kernel
theorem dX0_size_5 : decode cX0_size 5 = .ok (.iload_n 1, 1) := by decide +kernel
theorem dX0_size_6 : decode cX0_size 6 = .ok (.iconst 3, 1) := by decide +kernel
theorem dX0_size_7 : decode cX0_size 7 = .ok (.if_icmp .gt 13, 3) := by decide +kernel
theorem dX0_size_10 : decode cX0_size 10 = .ok (.iload_n 2, 1) := by decide +kernel
theorem dX0_size_11 : decode cX0_size 11 = .ok (.iconst 1, 1) := by decide +kernel
theorem dX0_size_12 : decode cX0_size 12 = .ok (.if_icmp .lt 8, 3) := by decide +kernel
theorem dX0_size_15 : decode cX0_size 15 = .ok (.iload_n 2, 1) := by decide +kernel
theorem dX0_size_16 : decode cX0_size 16 = .ok (.iconst 4, 1) := by decide +kernel
theorem dX0_size_17 : decode cX0_size 17 = .ok (.if_icmp .le 5, 3) := by decide +kernel
theorem dX0_size_20 : decode cX0_size 20 = .ok (.iconst 0, 1) := by decide +kernel
theorem dX0_size_21 : decode cX0_size 21 = .ok (.ireturn, 1) := by decide +kernel
theorem dX0_size_22 : decode cX0_size 22 = .ok (.aload_n 0, 1) := by decide +kernel
theorem dX0_size_23 : decode cX0_size 23 = .ok (.iload_n 1, 1) := by decide +kernel
theorem dX0_size_24 : decode cX0_size 24 = .ok (.iload_n 2, 1) := by decide +kernel
theorem dX0_size_25 : decode cX0_size 25 = .ok (.invokevirtual 35, 3) := by decide +kernel
theorem dX0_size_28 : decode cX0_size 28 = .ok (.iconst 1, 1) := by decide +kernel
theorem dX0_size_29 : decode cX0_size 29 = .ok (.ireturn, 1) := by decide +kernel
theorem dX0_weigh_0 : decode cX0_weigh 0 = .ok (.aload_n 0, 1) := by decide +kernel
theorem dX0_weigh_1 : decode cX0_weigh 1 = .ok (.iload_n 1, 1) := by decide +kernel
theorem dX0_weigh_2 : decode cX0_weigh 2 = .ok (.iload_n 2, 1) := by decide +kernel
theorem dX0_weigh_3 : decode cX0_weigh 3 = .ok (.iload_n 3, 1) := by decide +kernel
theorem dX0_weigh_4 : decode cX0_weigh 4 = .ok (.invokevirtual 39, 3) := by decide +kernel
theorem dX0_weigh_7 : decode cX0_weigh 7 = .ok (.ifCond .eq 15, 3) := by decide +kernel
theorem dX0_weigh_10 : decode cX0_weigh 10 = .ok (.iload 4, 2) := by decide +kernel
theorem dX0_weigh_12 : decode cX0_weigh 12 = .ok (.ifCond .lt 10, 3) := by decide +kernel
theorem dX0_weigh_15 : decode cX0_weigh 15 = .ok (.iload 4, 2) := by decide +kernel
theorem dX0_weigh_17 : decode cX0_weigh 17 = .ok (.bipush 9, 2) := by decide +kernel
theorem dX0_weigh_19 : decode cX0_weigh 19 = .ok (.if_icmp .le 5, 3) := by decide +kernel
theorem dX0_weigh_22 : decode cX0_weigh 22 = .ok (.iconst 0, 1) := by decide +kernel
theorem dX0_weigh_23 : decode cX0_weigh 23 = .ok (.ireturn, 1) := by decide +kernel
theorem dX0_weigh_24 : decode cX0_weigh 24 = .ok (.aload_n 0, 1) := by decide +kernel
theorem dX0_weigh_25 : decode cX0_weigh 25 = .ok (.getfield 9, 3) := by decide +kernel
theorem dX0_weigh_28 : decode cX0_weigh 28 = .ok (.iload_n 1, 1) := by decide +kernel
theorem dX0_weigh_29 : decode cX0_weigh 29 = .ok (.iload_n 2, 1) := by decide +kernel
theorem dX0_weigh_30 : decode cX0_weigh 30 = .ok (.iload_n 3, 1) := by decide +kernel
theorem dX0_weigh_31 : decode cX0_weigh 31 = .ok (.invokestatic 43, 3) := by decide +kernel
theorem dX0_weigh_34 : decode cX0_weigh 34 = .ok (.iload 4, 2) := by decide +kernel
theorem dX0_weigh_36 : decode cX0_weigh 36 = .ok (.iastore, 1) := by decide +kernel
theorem dX0_weigh_37 : decode cX0_weigh 37 = .ok (.aload_n 0, 1) := by decide +kernel
theorem dX0_weigh_38 : decode cX0_weigh 38 = .ok (.invokevirtual 47, 3) := by decide +kernel
theorem dX0_weigh_41 : decode cX0_weigh 41 = .ok (.iconst 1, 1) := by decide +kernel
theorem dX0_weigh_42 : decode cX0_weigh 42 = .ok (.ireturn, 1) := by decide +kernel
theorem dX0_weight_0 : decode cX0_weight 0 = .ok (.aload_n 0, 1) := by decide +kernel
theorem dX0_weight_1 : decode cX0_weight 1 = .ok (.iload_n 1, 1) := by decide +kernel
theorem dX0_weight_2 : decode cX0_weight 2 = .ok (.iload_n 2, 1) := by decide +kernel
theorem dX0_weight_3 : decode cX0_weight 3 = .ok (.iload_n 3, 1) := by decide +kernel
theorem dX0_weight_4 : decode cX0_weight 4 = .ok (.invokevirtual 39, 3) := by decide +kernel
theorem dX0_weight_7 : decode cX0_weight 7 = .ok (.ifCond .eq 17, 3) := by decide +kernel
theorem dX0_weight_10 : decode cX0_weight 10 = .ok (.aload_n 0, 1) := by decide +kernel
theorem dX0_weight_11 : decode cX0_weight 11 = .ok (.getfield 9, 3) := by decide +kernel
theorem dX0_weight_14 : decode cX0_weight 14 = .ok (.iload_n 1, 1) := by decide +kernel
theorem dX0_weight_15 : decode cX0_weight 15 = .ok (.iload_n 2, 1) := by decide +kernel
theorem dX0_weight_16 : decode cX0_weight 16 = .ok (.iload_n 3, 1) := by decide +kernel
theorem dX0_weight_17 : decode cX0_weight 17 = .ok (.invokestatic 43, 3) := by decide +kernel
theorem dX0_weight_20 : decode cX0_weight 20 = .ok (.iaload, 1) := by decide +kernel
theorem dX0_weight_21 : decode cX0_weight 21 = .ok (.goto 4, 3) := by decide +kernel
theorem dX0_weight_24 : decode cX0_weight 24 = .ok (.iconst (-1), 1) := by decide +kernel
theorem dX0_weight_25 : decode cX0_weight 25 = .ok (.ireturn, 1) := by decide +kernel
theorem dX0_see_0 : decode cX0_see 0 = .ok (.iload_n 1, 1) := by decide +kernel
theorem dX0_see_1 : decode cX0_see 1 = .ok (.ifCond .lt 20, 3) := by decide +kernel
theorem dX0_see_4 : decode cX0_see 4 = .ok (.iload_n 1, 1) := by decide +kernel
theorem dX0_see_5 : decode cX0_see 5 = .ok (.aload_n 0, 1) := by decide +kernel
theorem dX0_see_6 : decode cX0_see 6 = .ok (.getfield 50, 3) := by decide +kernel
theorem dX0_see_9 : decode cX0_see 9 = .ok (.if_icmp .ge 12, 3) := by decide +kernel
theorem dX0_see_12 : decode cX0_see 12 = .ok (.aload_n 0, 1) := by decide +kernel
theorem dX0_see_13 : decode cX0_see 13 = .ok (.getfield 54, 3) := by decide +kernel
theorem dX0_see_16 : decode cX0_see 16 = .ok (.bipush 6, 2) := by decide +kernel
theorem dX0_see_18 : decode cX0_see 18 = .ok (.if_icmp .lt 5, 3) := by decide +kernel
theorem dX0_see_21 : decode cX0_see 21 = .ok (.iconst (-1), 1) := by decide +kernel
theorem dX0_see_22 : decode cX0_see 22 = .ok (.ireturn, 1) := by decide +kernel
theorem dX0_see_23 : decode cX0_see 23 = .ok (.aload_n 0, 1) := by decide +kernel
theorem dX0_see_24 : decode cX0_see 24 = .ok (.getfield 16, 3) := by decide +kernel
theorem dX0_see_27 : decode cX0_see 27 = .ok (.aload_n 0, 1) := by decide +kernel
theorem dX0_see_28 : decode cX0_see 28 = .ok (.getfield 54, 3) := by decide +kernel
theorem dX0_see_31 : decode cX0_see 31 = .ok (.iload_n 1, 1) := by decide +kernel
theorem dX0_see_32 : decode cX0_see 32 = .ok (.iastore, 1) := by decide +kernel
theorem dX0_see_33 : decode cX0_see 33 = .ok (.aload_n 0, 1) := by decide +kernel
theorem dX0_see_34 : decode cX0_see 34 = .ok (.dup, 1) := by decide +kernel
theorem dX0_see_35 : decode cX0_see 35 = .ok (.getfield 54, 3) := by decide +kernel
theorem dX0_see_38 : decode cX0_see 38 = .ok (.iconst 1, 1) := by decide +kernel
theorem dX0_see_39 : decode cX0_see 39 = .ok (.iadd, 1) := by decide +kernel
theorem dX0_see_40 : decode cX0_see 40 = .ok (.putfield 54, 3) := by decide +kernel
theorem dX0_see_43 : decode cX0_see 43 = .ok (.aload_n 0, 1) := by decide +kernel
theorem dX0_see_44 : decode cX0_see 44 = .ok (.invokevirtual 47, 3) := by decide +kernel
theorem dX0_see_47 : decode cX0_see 47 = .ok (.aload_n 0, 1) := by decide +kernel
theorem dX0_see_48 : decode cX0_see 48 = .ok (.getfield 54, 3) := by decide +kernel
theorem dX0_see_51 : decode cX0_see 51 = .ok (.ireturn, 1) := by decide +kernel
theorem dX0_forget_0 : decode cX0_forget 0 = .ok (.iload_n 1, 1) := by decide +kernel
theorem dX0_forget_1 : decode cX0_forget 1 = .ok (.ifCond .lt 11, 3) := by decide +kernel
theorem dX0_forget_4 : decode cX0_forget 4 = .ok (.iload_n 1, 1) := by decide +kernel
theorem dX0_forget_5 : decode cX0_forget 5 = .ok (.aload_n 0, 1) := by decide +kernel
theorem dX0_forget_6 : decode cX0_forget 6 = .ok (.getfield 54, 3) := by decide +kernel
theorem dX0_forget_9 : decode cX0_forget 9 = .ok (.if_icmp .le 5, 3) := by decide +kernel
theorem dX0_forget_12 : decode cX0_forget 12 = .ok (.iconst (-1), 1) := by decide +kernel
theorem dX0_forget_13 : decode cX0_forget 13 = .ok (.ireturn, 1) := by decide +kernel
theorem dX0_forget_14 : decode cX0_forget 14 = .ok (.aload_n 0, 1) := by decide +kernel
theorem dX0_forget_15 : decode cX0_forget 15 = .ok (.getfield 54, 3) := by decide +kernel
theorem dX0_forget_18 : decode cX0_forget 18 = .ok (.iload_n 1, 1) := by decide +kernel
theorem dX0_forget_19 : decode cX0_forget 19 = .ok (.isub, 1) := by decide +kernel
theorem dX0_forget_20 : decode cX0_forget 20 = .ok (.istore_n 2, 1) := by decide +kernel
theorem dX0_forget_21 : decode cX0_forget 21 = .ok (.aload_n 0, 1) := by decide +kernel
theorem dX0_forget_22 : decode cX0_forget 22 = .ok (.iload_n 1, 1) := by decide +kernel
theorem dX0_forget_23 : decode cX0_forget 23 = .ok (.putfield 54, 3) := by decide +kernel
theorem dX0_forget_26 : decode cX0_forget 26 = .ok (.aload_n 0, 1) := by decide +kernel
theorem dX0_forget_27 : decode cX0_forget 27 = .ok (.invokevirtual 47, 3) := by decide +kernel
theorem dX0_forget_30 : decode cX0_forget 30 = .ok (.iload_n 2, 1) := by decide +kernel
theorem dX0_forget_31 : decode cX0_forget 31 = .ok (.ireturn, 1) := by decide +kernel
theorem dX0_seen_0 : decode cX0_seen 0 = .ok (.aload_n 0, 1) := by decide +kernel
theorem dX0_seen_1 : decode cX0_seen 1 = .ok (.getfield 54, 3) := by decide +kernel
theorem dX0_seen_4 : decode cX0_seen 4 = .ok (.ireturn, 1) := by decide +kernel
theorem dX0_symbol_0 : decode cX0_symbol 0 = .ok (.aload_n 0, 1) := by decide +kernel
theorem dX0_symbol_1 : decode cX0_symbol 1 = .ok (.iload_n 1, 1) := by decide +kernel
theorem dX0_symbol_2 : decode cX0_symbol 2 = .ok (.invokevirtual 57, 3) := by decide +kernel
theorem dX0_symbol_5 : decode cX0_symbol 5 = .ok (.ifCond .eq 12, 3) := by decide +kernel
theorem dX0_symbol_8 : decode cX0_symbol 8 = .ok (.aload_n 0, 1) := by decide +kernel
theorem dX0_symbol_9 : decode cX0_symbol 9 = .ok (.getfield 16, 3) := by decide +kernel
theorem dX0_symbol_12 : decode cX0_symbol 12 = .ok (.iload_n 1, 1) := by decide +kernel
theorem dX0_symbol_13 : decode cX0_symbol 13 = .ok (.iaload, 1) := by decide +kernel
theorem dX0_symbol_14 : decode cX0_symbol 14 = .ok (.goto 4, 3) := by decide +kernel
theorem dX0_symbol_17 : decode cX0_symbol 17 = .ok (.iconst (-1), 1) := by decide +kernel
theorem dX0_symbol_18 : decode cX0_symbol 18 = .ok (.ireturn, 1) := by decide +kernel
theorem dX0_total_0 : decode cX0_total 0 = .ok (.aload_n 0, 1) := by decide +kernel
theorem dX0_total_1 : decode cX0_total 1 = .ok (.getfield 54, 3) := by decide +kernel
theorem dX0_total_4 : decode cX0_total 4 = .ok (.ifCond .ne 5, 3) := by decide +kernel
theorem dX0_total_7 : decode cX0_total 7 = .ok (.lconst 1, 1) := by decide +kernel
theorem dX0_total_8 : decode cX0_total 8 = .ok (.lreturn, 1) := by decide +kernel
theorem dX0_total_9 : decode cX0_total 9 = .ok (.lconst 0, 1) := by decide +kernel
theorem dX0_total_10 : decode cX0_total 10 = .ok (.lstore_n 1, 1) := by decide +kernel
theorem dX0_total_11 : decode cX0_total 11 = .ok (.iconst 0, 1) := by decide +kernel
theorem dX0_total_12 : decode cX0_total 12 = .ok (.istore_n 3, 1) := by decide +kernel
theorem dX0_total_13 : decode cX0_total 13 = .ok (.iload_n 3, 1) := by decide +kernel
theorem dX0_total_14 : decode cX0_total 14 = .ok (.aload_n 0, 1) := by decide +kernel
theorem dX0_total_15 : decode cX0_total 15 = .ok (.getfield 61, 3) := by decide +kernel
theorem dX0_total_18 : decode cX0_total 18 = .ok (.if_icmp .ge 27, 3) := by decide +kernel
theorem dX0_total_21 : decode cX0_total 21 = .ok (.lload_n 1, 1) := by decide +kernel
theorem dX0_total_22 : decode cX0_total 22 = .ok (.aload_n 0, 1) := by decide +kernel
theorem dX0_total_23 : decode cX0_total 23 = .ok (.getfield 19, 3) := by decide +kernel
theorem dX0_total_26 : decode cX0_total 26 = .ok (.aload_n 0, 1) := by decide +kernel
theorem dX0_total_27 : decode cX0_total 27 = .ok (.getfield 54, 3) := by decide +kernel
theorem dX0_total_30 : decode cX0_total 30 = .ok (.iconst 1, 1) := by decide +kernel
theorem dX0_total_31 : decode cX0_total 31 = .ok (.isub, 1) := by decide +kernel
theorem dX0_total_32 : decode cX0_total 32 = .ok (.iload_n 3, 1) := by decide +kernel
theorem dX0_total_33 : decode cX0_total 33 = .ok (.invokestatic 64, 3) := by decide +kernel
theorem dX0_total_36 : decode cX0_total 36 = .ok (.laload, 1) := by decide +kernel
theorem dX0_total_37 : decode cX0_total 37 = .ok (.ladd, 1) := by decide +kernel
theorem dX0_total_38 : decode cX0_total 38 = .ok (.lstore_n 1, 1) := by decide +kernel
theorem dX0_total_39 : decode cX0_total 39 = .ok (.iinc 3 1, 3) := by decide +kernel
theorem dX0_total_42 : decode cX0_total 42 = .ok (.goto (-29), 3) := by decide +kernel
theorem dX0_total_45 : decode cX0_total 45 = .ok (.lload_n 1, 1) := by decide +kernel
theorem dX0_total_46 : decode cX0_total 46 = .ok (.lreturn, 1) := by decide +kernel
theorem dX0_before_0 : decode cX0_before 0 = .ok (.aload_n 0, 1) := by decide +kernel
theorem dX0_before_1 : decode cX0_before 1 = .ok (.iload_n 1, 1) := by decide +kernel
theorem dX0_before_2 : decode cX0_before 2 = .ok (.invokevirtual 57, 3) := by decide +kernel
theorem dX0_before_5 : decode cX0_before 5 = .ok (.ifCond .eq 24, 3) := by decide +kernel
theorem dX0_before_8 : decode cX0_before 8 = .ok (.aload_n 0, 1) := by decide +kernel
theorem dX0_before_9 : decode cX0_before 9 = .ok (.iload_n 2, 1) := by decide +kernel
theorem dX0_before_10 : decode cX0_before 10 = .ok (.invokevirtual 68, 3) := by decide +kernel
theorem dX0_before_13 : decode cX0_before 13 = .ok (.ifCond .eq 16, 3) := by decide +kernel
theorem dX0_before_16 : decode cX0_before 16 = .ok (.aload_n 0, 1) := by decide +kernel
theorem dX0_before_17 : decode cX0_before 17 = .ok (.getfield 19, 3) := by decide +kernel
theorem dX0_before_20 : decode cX0_before 20 = .ok (.iload_n 1, 1) := by decide +kernel
theorem dX0_before_21 : decode cX0_before 21 = .ok (.iload_n 2, 1) := by decide +kernel
theorem dX0_before_22 : decode cX0_before 22 = .ok (.invokestatic 64, 3) := by decide +kernel
theorem dX0_before_25 : decode cX0_before 25 = .ok (.laload, 1) := by decide +kernel
theorem dX0_before_26 : decode cX0_before 26 = .ok (.goto 4, 3) := by decide +kernel
theorem dX0_before_29 : decode cX0_before 29 = .ok (.lconst 0, 1) := by decide +kernel
theorem dX0_before_30 : decode cX0_before 30 = .ok (.lreturn, 1) := by decide +kernel
theorem dX0_behind_0 : decode cX0_behind 0 = .ok (.aload_n 0, 1) := by decide +kernel
theorem dX0_behind_1 : decode cX0_behind 1 = .ok (.iload_n 1, 1) := by decide +kernel
theorem dX0_behind_2 : decode cX0_behind 2 = .ok (.invokevirtual 57, 3) := by decide +kernel
theorem dX0_behind_5 : decode cX0_behind 5 = .ok (.ifCond .eq 24, 3) := by decide +kernel
theorem dX0_behind_8 : decode cX0_behind 8 = .ok (.aload_n 0, 1) := by decide +kernel
theorem dX0_behind_9 : decode cX0_behind 9 = .ok (.iload_n 2, 1) := by decide +kernel
theorem dX0_behind_10 : decode cX0_behind 10 = .ok (.invokevirtual 68, 3) := by decide +kernel
theorem dX0_behind_13 : decode cX0_behind 13 = .ok (.ifCond .eq 16, 3) := by decide +kernel
theorem dX0_behind_16 : decode cX0_behind 16 = .ok (.aload_n 0, 1) := by decide +kernel
theorem dX0_behind_17 : decode cX0_behind 17 = .ok (.getfield 23, 3) := by decide +kernel
theorem dX0_behind_20 : decode cX0_behind 20 = .ok (.iload_n 1, 1) := by decide +kernel
theorem dX0_behind_21 : decode cX0_behind 21 = .ok (.iload_n 2, 1) := by decide +kernel
theorem dX0_behind_22 : decode cX0_behind 22 = .ok (.invokestatic 64, 3) := by decide +kernel
theorem dX0_behind_25 : decode cX0_behind 25 = .ok (.laload, 1) := by decide +kernel
theorem dX0_behind_26 : decode cX0_behind 26 = .ok (.goto 4, 3) := by decide +kernel
theorem dX0_behind_29 : decode cX0_behind 29 = .ok (.lconst 0, 1) := by decide +kernel
theorem dX0_behind_30 : decode cX0_behind 30 = .ok (.lreturn, 1) := by decide +kernel
theorem dX0_ways_0 : decode cX0_ways 0 = .ok (.aload_n 0, 1) := by decide +kernel
theorem dX0_ways_1 : decode cX0_ways 1 = .ok (.getfield 71, 3) := by decide +kernel
theorem dX0_ways_4 : decode cX0_ways 4 = .ok (.ireturn, 1) := by decide +kernel
theorem dX0_ranked_0 : decode cX0_ranked 0 = .ok (.aload_n 0, 1) := by decide +kernel
theorem dX0_ranked_1 : decode cX0_ranked 1 = .ok (.iload_n 1, 1) := by decide +kernel
theorem dX0_ranked_2 : decode cX0_ranked 2 = .ok (.invokevirtual 74, 3) := by decide +kernel
theorem dX0_ranked_5 : decode cX0_ranked 5 = .ok (.ifCond .eq 12, 3) := by decide +kernel
theorem dX0_ranked_8 : decode cX0_ranked 8 = .ok (.aload_n 0, 1) := by decide +kernel
theorem dX0_ranked_9 : decode cX0_ranked 9 = .ok (.getfield 26, 3) := by decide +kernel
theorem dX0_ranked_12 : decode cX0_ranked 12 = .ok (.iload_n 1, 1) := by decide +kernel
theorem dX0_ranked_13 : decode cX0_ranked 13 = .ok (.laload, 1) := by decide +kernel
theorem dX0_ranked_14 : decode cX0_ranked 14 = .ok (.goto 4, 3) := by decide +kernel
theorem dX0_ranked_17 : decode cX0_ranked 17 = .ok (.lconst 0, 1) := by decide +kernel
theorem dX0_ranked_18 : decode cX0_ranked 18 = .ok (.lreturn, 1) := by decide +kernel
theorem dX0_stateOf_0 : decode cX0_stateOf 0 = .ok (.aload_n 0, 1) := by decide +kernel
theorem dX0_stateOf_1 : decode cX0_stateOf 1 = .ok (.iload_n 1, 1) := by decide +kernel
theorem dX0_stateOf_2 : decode cX0_stateOf 2 = .ok (.invokevirtual 74, 3) := by decide +kernel
theorem dX0_stateOf_5 : decode cX0_stateOf 5 = .ok (.ifCond .eq 11, 3) := by decide +kernel
theorem dX0_stateOf_8 : decode cX0_stateOf 8 = .ok (.aload_n 0, 1) := by decide +kernel
theorem dX0_stateOf_9 : decode cX0_stateOf 9 = .ok (.iload_n 2, 1) := by decide +kernel
theorem dX0_stateOf_10 : decode cX0_stateOf 10 = .ok (.invokevirtual 57, 3) := by decide +kernel
theorem dX0_stateOf_13 : decode cX0_stateOf 13 = .ok (.ifCond .ne 5, 3) := by decide +kernel
theorem dX0_stateOf_16 : decode cX0_stateOf 16 = .ok (.iconst (-1), 1) := by decide +kernel
theorem dX0_stateOf_17 : decode cX0_stateOf 17 = .ok (.ireturn, 1) := by decide +kernel
theorem dX0_stateOf_18 : decode cX0_stateOf 18 = .ok (.aload_n 0, 1) := by decide +kernel
theorem dX0_stateOf_19 : decode cX0_stateOf 19 = .ok (.getfield 29, 3) := by decide +kernel
theorem dX0_stateOf_22 : decode cX0_stateOf 22 = .ok (.iload_n 1, 1) := by decide +kernel
theorem dX0_stateOf_23 : decode cX0_stateOf 23 = .ok (.iaload, 1) := by decide +kernel
theorem dX0_stateOf_24 : decode cX0_stateOf 24 = .ok (.iconst 2, 1) := by decide +kernel
theorem dX0_stateOf_25 : decode cX0_stateOf 25 = .ok (.aload_n 0, 1) := by decide +kernel
theorem dX0_stateOf_26 : decode cX0_stateOf 26 = .ok (.getfield 54, 3) := by decide +kernel
theorem dX0_stateOf_29 : decode cX0_stateOf 29 = .ok (.iconst 1, 1) := by decide +kernel
theorem dX0_stateOf_30 : decode cX0_stateOf 30 = .ok (.isub, 1) := by decide +kernel
theorem dX0_stateOf_31 : decode cX0_stateOf 31 = .ok (.iload_n 2, 1) := by decide +kernel
theorem dX0_stateOf_32 : decode cX0_stateOf 32 = .ok (.isub, 1) := by decide +kernel
theorem dX0_stateOf_33 : decode cX0_stateOf 33 = .ok (.imul, 1) := by decide +kernel
theorem dX0_stateOf_34 : decode cX0_stateOf 34 = .ok (.ishr, 1) := by decide +kernel
theorem dX0_stateOf_35 : decode cX0_stateOf 35 = .ok (.iconst 3, 1) := by decide +kernel
theorem dX0_stateOf_36 : decode cX0_stateOf 36 = .ok (.iand, 1) := by decide +kernel
theorem dX0_stateOf_37 : decode cX0_stateOf 37 = .ok (.ireturn, 1) := by decide +kernel
theorem dX0_share_0 : decode cX0_share 0 = .ok (.iload_n 1, 1) := by decide +kernel
theorem dX0_share_1 : decode cX0_share 1 = .ok (.ifCond .ne 27, 3) := by decide +kernel
theorem dX0_share_4 : decode cX0_share 4 = .ok (.aload_n 0, 1) := by decide +kernel
theorem dX0_share_5 : decode cX0_share 5 = .ok (.iload_n 2, 1) := by decide +kernel
theorem dX0_share_6 : decode cX0_share 6 = .ok (.invokevirtual 57, 3) := by decide +kernel
theorem dX0_share_9 : decode cX0_share 9 = .ok (.ifCond .eq 15, 3) := by decide +kernel
theorem dX0_share_12 : decode cX0_share 12 = .ok (.aload_n 0, 1) := by decide +kernel
theorem dX0_share_13 : decode cX0_share 13 = .ok (.iload_n 3, 1) := by decide +kernel
theorem dX0_share_14 : decode cX0_share 14 = .ok (.invokevirtual 68, 3) := by decide +kernel
theorem dX0_share_17 : decode cX0_share 17 = .ok (.ifCond .eq 7, 3) := by decide +kernel
theorem dX0_share_20 : decode cX0_share 20 = .ok (.iconst 1, 1) := by decide +kernel
theorem dX0_share_21 : decode cX0_share 21 = .ok (.goto 14, 3) := by decide +kernel
theorem dX0_share_24 : decode cX0_share 24 = .ok (.iconst 0, 1) := by decide +kernel
theorem dX0_share_25 : decode cX0_share 25 = .ok (.goto 10, 3) := by decide +kernel
theorem dX0_share_28 : decode cX0_share 28 = .ok (.aload_n 0, 1) := by decide +kernel
theorem dX0_share_29 : decode cX0_share 29 = .ok (.iload_n 1, 1) := by decide +kernel
theorem dX0_share_30 : decode cX0_share 30 = .ok (.iload_n 2, 1) := by decide +kernel
theorem dX0_share_31 : decode cX0_share 31 = .ok (.iload_n 3, 1) := by decide +kernel
theorem dX0_share_32 : decode cX0_share 32 = .ok (.invokevirtual 39, 3) := by decide +kernel
theorem dX0_share_35 : decode cX0_share 35 = .ok (.istore 5, 2) := by decide +kernel
theorem dX0_share_37 : decode cX0_share 37 = .ok (.iload 5, 2) := by decide +kernel
theorem dX0_share_39 : decode cX0_share 39 = .ok (.ifCond .eq 22, 3) := by decide +kernel
theorem dX0_share_42 : decode cX0_share 42 = .ok (.aload_n 0, 1) := by decide +kernel
theorem dX0_share_43 : decode cX0_share 43 = .ok (.iload_n 1, 1) := by decide +kernel
theorem dX0_share_44 : decode cX0_share 44 = .ok (.iload_n 2, 1) := by decide +kernel
theorem dX0_share_45 : decode cX0_share 45 = .ok (.iload_n 3, 1) := by decide +kernel
theorem dX0_share_46 : decode cX0_share 46 = .ok (.invokevirtual 77, 3) := by decide +kernel
theorem dX0_share_49 : decode cX0_share 49 = .ok (.aload_n 0, 1) := by decide +kernel
theorem dX0_share_50 : decode cX0_share 50 = .ok (.invokevirtual 81, 3) := by decide +kernel
theorem dX0_share_53 : decode cX0_share 53 = .ok (.iload 4, 2) := by decide +kernel
theorem dX0_share_55 : decode cX0_share 55 = .ok (.invokestatic 85, 3) := by decide +kernel
theorem dX0_share_58 : decode cX0_share 58 = .ok (.goto 4, 3) := by decide +kernel
theorem dX0_share_61 : decode cX0_share 61 = .ok (.lconst 0, 1) := by decide +kernel
theorem dX0_share_62 : decode cX0_share 62 = .ok (.lreturn, 1) := by decide +kernel
theorem dX0_learned_0 : decode cX0_learned 0 = .ok (.aload_n 0, 1) := by decide +kernel
theorem dX0_learned_1 : decode cX0_learned 1 = .ok (.iload_n 1, 1) := by decide +kernel
theorem dX0_learned_2 : decode cX0_learned 2 = .ok (.iload_n 2, 1) := by decide +kernel
theorem dX0_learned_3 : decode cX0_learned 3 = .ok (.iload_n 3, 1) := by decide +kernel
theorem dX0_learned_4 : decode cX0_learned 4 = .ok (.invokevirtual 39, 3) := by decide +kernel
theorem dX0_learned_7 : decode cX0_learned 7 = .ok (.ifCond .ne 5, 3) := by decide +kernel
theorem dX0_learned_10 : decode cX0_learned 10 = .ok (.lconst 0, 1) := by decide +kernel
theorem dX0_learned_11 : decode cX0_learned 11 = .ok (.lreturn, 1) := by decide +kernel
theorem dX0_learned_12 : decode cX0_learned 12 = .ok (.aload_n 0, 1) := by decide +kernel
theorem dX0_learned_13 : decode cX0_learned 13 = .ok (.iload_n 1, 1) := by decide +kernel
theorem dX0_learned_14 : decode cX0_learned 14 = .ok (.iload_n 2, 1) := by decide +kernel
theorem dX0_learned_15 : decode cX0_learned 15 = .ok (.invokevirtual 89, 3) := by decide +kernel
theorem dX0_learned_18 : decode cX0_learned 18 = .ok (.lstore 5, 2) := by decide +kernel
theorem dX0_learned_20 : decode cX0_learned 20 = .ok (.aload_n 0, 1) := by decide +kernel
theorem dX0_learned_21 : decode cX0_learned 21 = .ok (.iload_n 1, 1) := by decide +kernel
theorem dX0_learned_22 : decode cX0_learned 22 = .ok (.iload_n 2, 1) := by decide +kernel
theorem dX0_learned_23 : decode cX0_learned 23 = .ok (.iload_n 3, 1) := by decide +kernel
theorem dX0_learned_24 : decode cX0_learned 24 = .ok (.lload 5, 2) := by decide +kernel
theorem dX0_learned_26 : decode cX0_learned 26 = .ok (.invokevirtual 93, 3) := by decide +kernel
theorem dX0_learned_29 : decode cX0_learned 29 = .ok (.aload_n 0, 1) := by decide +kernel
theorem dX0_learned_30 : decode cX0_learned 30 = .ok (.iload_n 1, 1) := by decide +kernel
theorem dX0_learned_31 : decode cX0_learned 31 = .ok (.iload_n 2, 1) := by decide +kernel
theorem dX0_learned_32 : decode cX0_learned 32 = .ok (.lload 5, 2) := by decide +kernel
theorem dX0_learned_34 : decode cX0_learned 34 = .ok (.invokevirtual 97, 3) := by decide +kernel
theorem dX0_learned_37 : decode cX0_learned 37 = .ok (.iload 4, 2) := by decide +kernel
theorem dX0_learned_39 : decode cX0_learned 39 = .ok (.invokestatic 85, 3) := by decide +kernel
theorem dX0_learned_42 : decode cX0_learned 42 = .ok (.lreturn, 1) := by decide +kernel
theorem dX0_learn_0 : decode cX0_learn 0 = .ok (.iconst 0, 1) := by decide +kernel
theorem dX0_learn_1 : decode cX0_learn 1 = .ok (.istore_n 1, 1) := by decide +kernel
theorem dX0_learn_2 : decode cX0_learn 2 = .ok (.iconst 0, 1) := by decide +kernel
theorem dX0_learn_3 : decode cX0_learn 3 = .ok (.istore_n 2, 1) := by decide +kernel
theorem dX0_learn_4 : decode cX0_learn 4 = .ok (.iload_n 2, 1) := by decide +kernel
theorem dX0_learn_5 : decode cX0_learn 5 = .ok (.iconst 3, 1) := by decide +kernel
theorem dX0_learn_6 : decode cX0_learn 6 = .ok (.if_icmp .ge 35, 3) := by decide +kernel
theorem dX0_learn_9 : decode cX0_learn 9 = .ok (.iconst 0, 1) := by decide +kernel
theorem dX0_learn_10 : decode cX0_learn 10 = .ok (.istore_n 3, 1) := by decide +kernel
theorem dX0_learn_11 : decode cX0_learn 11 = .ok (.iload_n 3, 1) := by decide +kernel
theorem dX0_learn_12 : decode cX0_learn 12 = .ok (.aload_n 0, 1) := by decide +kernel
theorem dX0_learn_13 : decode cX0_learn 13 = .ok (.iload_n 2, 1) := by decide +kernel
theorem dX0_learn_14 : decode cX0_learn 14 = .ok (.invokevirtual 101, 3) := by decide +kernel
theorem dX0_learn_17 : decode cX0_learn 17 = .ok (.if_icmp .ge 18, 3) := by decide +kernel
theorem dX0_learn_20 : decode cX0_learn 20 = .ok (.iload_n 1, 1) := by decide +kernel
theorem dX0_learn_21 : decode cX0_learn 21 = .ok (.aload_n 0, 1) := by decide +kernel
theorem dX0_learn_22 : decode cX0_learn 22 = .ok (.iload_n 2, 1) := by decide +kernel
theorem dX0_learn_23 : decode cX0_learn 23 = .ok (.iload_n 3, 1) := by decide +kernel
theorem dX0_learn_24 : decode cX0_learn 24 = .ok (.invokevirtual 105, 3) := by decide +kernel
theorem dX0_learn_27 : decode cX0_learn 27 = .ok (.iadd, 1) := by decide +kernel
theorem dX0_learn_28 : decode cX0_learn 28 = .ok (.istore_n 1, 1) := by decide +kernel
theorem dX0_learn_29 : decode cX0_learn 29 = .ok (.iinc 3 1, 3) := by decide +kernel
theorem dX0_learn_32 : decode cX0_learn 32 = .ok (.goto (-21), 3) := by decide +kernel
theorem dX0_learn_35 : decode cX0_learn 35 = .ok (.iinc 2 1, 3) := by decide +kernel
theorem dX0_learn_38 : decode cX0_learn 38 = .ok (.goto (-34), 3) := by decide +kernel
theorem dX0_learn_41 : decode cX0_learn 41 = .ok (.aload_n 0, 1) := by decide +kernel
theorem dX0_learn_42 : decode cX0_learn 42 = .ok (.getfield 13, 3) := by decide +kernel
theorem dX0_learn_45 : decode cX0_learn 45 = .ok (.iconst 0, 1) := by decide +kernel
theorem dX0_learn_46 : decode cX0_learn 46 = .ok (.aload_n 0, 1) := by decide +kernel
theorem dX0_learn_47 : decode cX0_learn 47 = .ok (.getfield 9, 3) := by decide +kernel
theorem dX0_learn_50 : decode cX0_learn 50 = .ok (.iconst 0, 1) := by decide +kernel
theorem dX0_learn_51 : decode cX0_learn 51 = .ok (.aload_n 0, 1) := by decide +kernel
theorem dX0_learn_52 : decode cX0_learn 52 = .ok (.getfield 9, 3) := by decide +kernel
theorem dX0_learn_55 : decode cX0_learn 55 = .ok (.arraylength, 1) := by decide +kernel
theorem dX0_learn_56 : decode cX0_learn 56 = .ok (.invokestatic 108, 3) := by decide +kernel
theorem dX0_learn_59 : decode cX0_learn 59 = .ok (.aload_n 0, 1) := by decide +kernel
theorem dX0_learn_60 : decode cX0_learn 60 = .ok (.invokevirtual 47, 3) := by decide +kernel
theorem dX0_learn_63 : decode cX0_learn 63 = .ok (.iload_n 1, 1) := by decide +kernel
theorem dX0_learn_64 : decode cX0_learn 64 = .ok (.ireturn, 1) := by decide +kernel
theorem dX0_draw_0 : decode cX0_draw 0 = .ok (.lload_n 1, 1) := by decide +kernel
theorem dX0_draw_1 : decode cX0_draw 1 = .ok (.lconst 0, 1) := by decide +kernel
theorem dX0_draw_2 : decode cX0_draw 2 = .ok (.lcmp, 1) := by decide +kernel
theorem dX0_draw_3 : decode cX0_draw 3 = .ok (.ifCond .lt 12, 3) := by decide +kernel
theorem dX0_draw_6 : decode cX0_draw 6 = .ok (.lload_n 1, 1) := by decide +kernel
theorem dX0_draw_7 : decode cX0_draw 7 = .ok (.aload_n 0, 1) := by decide +kernel
theorem dX0_draw_8 : decode cX0_draw 8 = .ok (.invokevirtual 81, 3) := by decide +kernel
theorem dX0_draw_11 : decode cX0_draw 11 = .ok (.lcmp, 1) := by decide +kernel
theorem dX0_draw_12 : decode cX0_draw 12 = .ok (.ifCond .lt 5, 3) := by decide +kernel
theorem dX0_draw_15 : decode cX0_draw 15 = .ok (.iconst 0, 1) := by decide +kernel
theorem dX0_draw_16 : decode cX0_draw 16 = .ok (.ireturn, 1) := by decide +kernel
theorem dX0_draw_17 : decode cX0_draw 17 = .ok (.lload_n 1, 1) := by decide +kernel
theorem dX0_draw_18 : decode cX0_draw 18 = .ok (.lstore_n 3, 1) := by decide +kernel
theorem dX0_draw_19 : decode cX0_draw 19 = .ok (.lconst 1, 1) := by decide +kernel
theorem dX0_draw_20 : decode cX0_draw 20 = .ok (.lstore 5, 2) := by decide +kernel
theorem dX0_draw_22 : decode cX0_draw 22 = .ok (.iconst 0, 1) := by decide +kernel
theorem dX0_draw_23 : decode cX0_draw 23 = .ok (.istore 7, 2) := by decide +kernel
theorem dX0_draw_25 : decode cX0_draw 25 = .ok (.iconst 0, 1) := by decide +kernel
theorem dX0_draw_26 : decode cX0_draw 26 = .ok (.istore 8, 2) := by decide +kernel
theorem dX0_draw_28 : decode cX0_draw 28 = .ok (.iload 8, 2) := by decide +kernel
theorem dX0_draw_30 : decode cX0_draw 30 = .ok (.aload_n 0, 1) := by decide +kernel
theorem dX0_draw_31 : decode cX0_draw 31 = .ok (.getfield 54, 3) := by decide +kernel
theorem dX0_draw_34 : decode cX0_draw 34 = .ok (.if_icmp .ge 125, 3) := by decide +kernel
theorem dX0_draw_37 : decode cX0_draw 37 = .ok (.iconst 0, 1) := by decide +kernel
theorem dX0_draw_38 : decode cX0_draw 38 = .ok (.istore 9, 2) := by decide +kernel
theorem dX0_draw_40 : decode cX0_draw 40 = .ok (.lload 5, 2) := by decide +kernel
theorem dX0_draw_42 : decode cX0_draw 42 = .ok (.aload_n 0, 1) := by decide +kernel
theorem dX0_draw_43 : decode cX0_draw 43 = .ok (.iload 8, 2) := by decide +kernel
theorem dX0_draw_45 : decode cX0_draw 45 = .ok (.iload 7, 2) := by decide +kernel
theorem dX0_draw_47 : decode cX0_draw 47 = .ok (.iload 9, 2) := by decide +kernel
theorem dX0_draw_49 : decode cX0_draw 49 = .ok (.invokevirtual 114, 3) := by decide +kernel
theorem dX0_draw_52 : decode cX0_draw 52 = .ok (.lmul, 1) := by decide +kernel
theorem dX0_draw_53 : decode cX0_draw 53 = .ok (.aload_n 0, 1) := by decide +kernel
theorem dX0_draw_54 : decode cX0_draw 54 = .ok (.getfield 23, 3) := by decide +kernel
theorem dX0_draw_57 : decode cX0_draw 57 = .ok (.iload 8, 2) := by decide +kernel
theorem dX0_draw_59 : decode cX0_draw 59 = .ok (.iload 9, 2) := by decide +kernel
theorem dX0_draw_61 : decode cX0_draw 61 = .ok (.invokestatic 64, 3) := by decide +kernel
theorem dX0_draw_64 : decode cX0_draw 64 = .ok (.laload, 1) := by decide +kernel
theorem dX0_draw_65 : decode cX0_draw 65 = .ok (.lmul, 1) := by decide +kernel
theorem dX0_draw_66 : decode cX0_draw 66 = .ok (.lstore 10, 2) := by decide +kernel
theorem dX0_draw_68 : decode cX0_draw 68 = .ok (.iload 9, 2) := by decide +kernel
theorem dX0_draw_70 : decode cX0_draw 70 = .ok (.aload_n 0, 1) := by decide +kernel
theorem dX0_draw_71 : decode cX0_draw 71 = .ok (.getfield 61, 3) := by decide +kernel
theorem dX0_draw_74 : decode cX0_draw 74 = .ok (.iconst 1, 1) := by decide +kernel
theorem dX0_draw_75 : decode cX0_draw 75 = .ok (.isub, 1) := by decide +kernel
theorem dX0_draw_76 : decode cX0_draw 76 = .ok (.if_icmp .ge 49, 3) := by decide +kernel
theorem dX0_draw_79 : decode cX0_draw 79 = .ok (.lload_n 3, 1) := by decide +kernel
theorem dX0_draw_80 : decode cX0_draw 80 = .ok (.lload 10, 2) := by decide +kernel
theorem dX0_draw_82 : decode cX0_draw 82 = .ok (.lcmp, 1) := by decide +kernel
theorem dX0_draw_83 : decode cX0_draw 83 = .ok (.ifCond .lt 42, 3) := by decide +kernel
theorem dX0_draw_86 : decode cX0_draw 86 = .ok (.lload_n 3, 1) := by decide +kernel
theorem dX0_draw_87 : decode cX0_draw 87 = .ok (.lload 10, 2) := by decide +kernel
theorem dX0_draw_89 : decode cX0_draw 89 = .ok (.lsub, 1) := by decide +kernel
theorem dX0_draw_90 : decode cX0_draw 90 = .ok (.lstore_n 3, 1) := by decide +kernel
theorem dX0_draw_91 : decode cX0_draw 91 = .ok (.iinc 9 1, 3) := by decide +kernel
theorem dX0_draw_94 : decode cX0_draw 94 = .ok (.lload 5, 2) := by decide +kernel
theorem dX0_draw_96 : decode cX0_draw 96 = .ok (.aload_n 0, 1) := by decide +kernel
theorem dX0_draw_97 : decode cX0_draw 97 = .ok (.iload 8, 2) := by decide +kernel
theorem dX0_draw_99 : decode cX0_draw 99 = .ok (.iload 7, 2) := by decide +kernel
theorem dX0_draw_101 : decode cX0_draw 101 = .ok (.iload 9, 2) := by decide +kernel
theorem dX0_draw_103 : decode cX0_draw 103 = .ok (.invokevirtual 114, 3) := by decide +kernel
theorem dX0_draw_106 : decode cX0_draw 106 = .ok (.lmul, 1) := by decide +kernel
theorem dX0_draw_107 : decode cX0_draw 107 = .ok (.aload_n 0, 1) := by decide +kernel
theorem dX0_draw_108 : decode cX0_draw 108 = .ok (.getfield 23, 3) := by decide +kernel
theorem dX0_draw_111 : decode cX0_draw 111 = .ok (.iload 8, 2) := by decide +kernel
theorem dX0_draw_113 : decode cX0_draw 113 = .ok (.iload 9, 2) := by decide +kernel
theorem dX0_draw_115 : decode cX0_draw 115 = .ok (.invokestatic 64, 3) := by decide +kernel
theorem dX0_draw_118 : decode cX0_draw 118 = .ok (.laload, 1) := by decide +kernel
theorem dX0_draw_119 : decode cX0_draw 119 = .ok (.lmul, 1) := by decide +kernel
theorem dX0_draw_120 : decode cX0_draw 120 = .ok (.lstore 10, 2) := by decide +kernel
theorem dX0_draw_122 : decode cX0_draw 122 = .ok (.goto (-54), 3) := by decide +kernel
theorem dX0_draw_125 : decode cX0_draw 125 = .ok (.lload 5, 2) := by decide +kernel
theorem dX0_draw_127 : decode cX0_draw 127 = .ok (.aload_n 0, 1) := by decide +kernel
theorem dX0_draw_128 : decode cX0_draw 128 = .ok (.iload 8, 2) := by decide +kernel
theorem dX0_draw_130 : decode cX0_draw 130 = .ok (.iload 7, 2) := by decide +kernel
theorem dX0_draw_132 : decode cX0_draw 132 = .ok (.iload 9, 2) := by decide +kernel
theorem dX0_draw_134 : decode cX0_draw 134 = .ok (.invokevirtual 114, 3) := by decide +kernel
theorem dX0_draw_137 : decode cX0_draw 137 = .ok (.lmul, 1) := by decide +kernel
theorem dX0_draw_138 : decode cX0_draw 138 = .ok (.lstore 5, 2) := by decide +kernel
theorem dX0_draw_140 : decode cX0_draw 140 = .ok (.aload_n 0, 1) := by decide +kernel
theorem dX0_draw_141 : decode cX0_draw 141 = .ok (.getfield 32, 3) := by decide +kernel
theorem dX0_draw_144 : decode cX0_draw 144 = .ok (.iload 8, 2) := by decide +kernel
theorem dX0_draw_146 : decode cX0_draw 146 = .ok (.iload 9, 2) := by decide +kernel
theorem dX0_draw_148 : decode cX0_draw 148 = .ok (.iastore, 1) := by decide +kernel
theorem dX0_draw_149 : decode cX0_draw 149 = .ok (.iload 9, 2) := by decide +kernel
theorem dX0_draw_151 : decode cX0_draw 151 = .ok (.istore 7, 2) := by decide +kernel
theorem dX0_draw_153 : decode cX0_draw 153 = .ok (.iinc 8 1, 3) := by decide +kernel
theorem dX0_draw_156 : decode cX0_draw 156 = .ok (.goto (-128), 3) := by decide +kernel
theorem dX0_draw_159 : decode cX0_draw 159 = .ok (.aload_n 0, 1) := by decide +kernel
theorem dX0_draw_160 : decode cX0_draw 160 = .ok (.aload_n 0, 1) := by decide +kernel
theorem dX0_draw_161 : decode cX0_draw 161 = .ok (.getfield 54, 3) := by decide +kernel
theorem dX0_draw_164 : decode cX0_draw 164 = .ok (.putfield 117, 3) := by decide +kernel
theorem dX0_draw_167 : decode cX0_draw 167 = .ok (.iconst 1, 1) := by decide +kernel
theorem dX0_draw_168 : decode cX0_draw 168 = .ok (.ireturn, 1) := by decide +kernel
theorem dX0_drawn_0 : decode cX0_drawn 0 = .ok (.iload_n 1, 1) := by decide +kernel
theorem dX0_drawn_1 : decode cX0_drawn 1 = .ok (.ifCond .lt 20, 3) := by decide +kernel
theorem dX0_drawn_4 : decode cX0_drawn 4 = .ok (.iload_n 1, 1) := by decide +kernel
theorem dX0_drawn_5 : decode cX0_drawn 5 = .ok (.aload_n 0, 1) := by decide +kernel
theorem dX0_drawn_6 : decode cX0_drawn 6 = .ok (.getfield 117, 3) := by decide +kernel
theorem dX0_drawn_9 : decode cX0_drawn 9 = .ok (.if_icmp .ge 12, 3) := by decide +kernel
theorem dX0_drawn_12 : decode cX0_drawn 12 = .ok (.aload_n 0, 1) := by decide +kernel
theorem dX0_drawn_13 : decode cX0_drawn 13 = .ok (.getfield 32, 3) := by decide +kernel
theorem dX0_drawn_16 : decode cX0_drawn 16 = .ok (.iload_n 1, 1) := by decide +kernel
theorem dX0_drawn_17 : decode cX0_drawn 17 = .ok (.iaload, 1) := by decide +kernel
theorem dX0_drawn_18 : decode cX0_drawn 18 = .ok (.goto 4, 3) := by decide +kernel
theorem dX0_drawn_21 : decode cX0_drawn 21 = .ok (.iconst (-1), 1) := by decide +kernel
theorem dX0_drawn_22 : decode cX0_drawn 22 = .ok (.ireturn, 1) := by decide +kernel
theorem dX0_startAnew_0 : decode cX0_startAnew 0 = .ok (.aload_n 0, 1) := by decide +kernel
theorem dX0_startAnew_1 : decode cX0_startAnew 1 = .ok (.iload_n 1, 1) := by decide +kernel
theorem dX0_startAnew_2 : decode cX0_startAnew 2 = .ok (.putfield 61, 3) := by decide +kernel
theorem dX0_startAnew_5 : decode cX0_startAnew 5 = .ok (.aload_n 0, 1) := by decide +kernel
theorem dX0_startAnew_6 : decode cX0_startAnew 6 = .ok (.iload_n 2, 1) := by decide +kernel
theorem dX0_startAnew_7 : decode cX0_startAnew 7 = .ok (.putfield 50, 3) := by decide +kernel
theorem dX0_startAnew_10 : decode cX0_startAnew 10 = .ok (.aload_n 0, 1) := by decide +kernel
theorem dX0_startAnew_11 : decode cX0_startAnew 11 = .ok (.iconst 0, 1) := by decide +kernel
theorem dX0_startAnew_12 : decode cX0_startAnew 12 = .ok (.putfield 54, 3) := by decide +kernel
theorem dX0_startAnew_15 : decode cX0_startAnew 15 = .ok (.aload_n 0, 1) := by decide +kernel
theorem dX0_startAnew_16 : decode cX0_startAnew 16 = .ok (.iconst 0, 1) := by decide +kernel
theorem dX0_startAnew_17 : decode cX0_startAnew 17 = .ok (.putfield 117, 3) := by decide +kernel
theorem dX0_startAnew_20 : decode cX0_startAnew 20 = .ok (.aload_n 0, 1) := by decide +kernel
theorem dX0_startAnew_21 : decode cX0_startAnew 21 = .ok (.getfield 9, 3) := by decide +kernel
theorem dX0_startAnew_24 : decode cX0_startAnew 24 = .ok (.iconst 1, 1) := by decide +kernel
theorem dX0_startAnew_25 : decode cX0_startAnew 25 = .ok (.invokestatic 120, 3) := by decide +kernel
theorem dX0_startAnew_28 : decode cX0_startAnew 28 = .ok (.aload_n 0, 1) := by decide +kernel
theorem dX0_startAnew_29 : decode cX0_startAnew 29 = .ok (.invokevirtual 47, 3) := by decide +kernel
theorem dX0_startAnew_32 : decode cX0_startAnew 32 = .ok (.return_, 1) := by decide +kernel
theorem dX0_rowsOf_0 : decode cX0_rowsOf 0 = .ok (.iload_n 1, 1) := by decide +kernel
theorem dX0_rowsOf_1 : decode cX0_rowsOf 1 = .ok (.tableswitch 34 0 2 #[27, 29, 29], 27) := by decide +kernel
theorem dX0_rowsOf_28 : decode cX0_rowsOf 28 = .ok (.iconst 1, 1) := by decide +kernel
theorem dX0_rowsOf_29 : decode cX0_rowsOf 29 = .ok (.ireturn, 1) := by decide +kernel
theorem dX0_rowsOf_30 : decode cX0_rowsOf 30 = .ok (.aload_n 0, 1) := by decide +kernel
theorem dX0_rowsOf_31 : decode cX0_rowsOf 31 = .ok (.getfield 61, 3) := by decide +kernel
theorem dX0_rowsOf_34 : decode cX0_rowsOf 34 = .ok (.ireturn, 1) := by decide +kernel
theorem dX0_rowsOf_35 : decode cX0_rowsOf 35 = .ok (.iconst 0, 1) := by decide +kernel
theorem dX0_rowsOf_36 : decode cX0_rowsOf 36 = .ok (.ireturn, 1) := by decide +kernel
theorem dX0_columnsOf_0 : decode cX0_columnsOf 0 = .ok (.iload_n 1, 1) := by decide +kernel
theorem dX0_columnsOf_1 : decode cX0_columnsOf 1 = .ok (.iconst 2, 1) := by decide +kernel
theorem dX0_columnsOf_2 : decode cX0_columnsOf 2 = .ok (.if_icmp .ne 10, 3) := by decide +kernel
theorem dX0_columnsOf_5 : decode cX0_columnsOf 5 = .ok (.aload_n 0, 1) := by decide +kernel
theorem dX0_columnsOf_6 : decode cX0_columnsOf 6 = .ok (.getfield 50, 3) := by decide +kernel
theorem dX0_columnsOf_9 : decode cX0_columnsOf 9 = .ok (.goto 7, 3) := by decide +kernel
theorem dX0_columnsOf_12 : decode cX0_columnsOf 12 = .ok (.aload_n 0, 1) := by decide +kernel
theorem dX0_columnsOf_13 : decode cX0_columnsOf 13 = .ok (.getfield 61, 3) := by decide +kernel
theorem dX0_columnsOf_16 : decode cX0_columnsOf 16 = .ok (.ireturn, 1) := by decide +kernel
theorem dX0_hasWeight_0 : decode cX0_hasWeight 0 = .ok (.iload_n 2, 1) := by decide +kernel
theorem dX0_hasWeight_1 : decode cX0_hasWeight 1 = .ok (.ifCond .lt 29, 3) := by decide +kernel
theorem dX0_hasWeight_4 : decode cX0_hasWeight 4 = .ok (.iload_n 2, 1) := by decide +kernel
theorem dX0_hasWeight_5 : decode cX0_hasWeight 5 = .ok (.aload_n 0, 1) := by decide +kernel
theorem dX0_hasWeight_6 : decode cX0_hasWeight 6 = .ok (.iload_n 1, 1) := by decide +kernel
theorem dX0_hasWeight_7 : decode cX0_hasWeight 7 = .ok (.invokevirtual 101, 3) := by decide +kernel
theorem dX0_hasWeight_10 : decode cX0_hasWeight 10 = .ok (.if_icmp .ge 20, 3) := by decide +kernel
theorem dX0_hasWeight_13 : decode cX0_hasWeight 13 = .ok (.iload_n 3, 1) := by decide +kernel
theorem dX0_hasWeight_14 : decode cX0_hasWeight 14 = .ok (.ifCond .lt 16, 3) := by decide +kernel
theorem dX0_hasWeight_17 : decode cX0_hasWeight 17 = .ok (.iload_n 3, 1) := by decide +kernel
theorem dX0_hasWeight_18 : decode cX0_hasWeight 18 = .ok (.aload_n 0, 1) := by decide +kernel
theorem dX0_hasWeight_19 : decode cX0_hasWeight 19 = .ok (.iload_n 1, 1) := by decide +kernel
theorem dX0_hasWeight_20 : decode cX0_hasWeight 20 = .ok (.invokevirtual 126, 3) := by decide +kernel
theorem dX0_hasWeight_23 : decode cX0_hasWeight 23 = .ok (.if_icmp .ge 7, 3) := by decide +kernel
theorem dX0_hasWeight_26 : decode cX0_hasWeight 26 = .ok (.iconst 1, 1) := by decide +kernel
theorem dX0_hasWeight_27 : decode cX0_hasWeight 27 = .ok (.goto 4, 3) := by decide +kernel
theorem dX0_hasWeight_30 : decode cX0_hasWeight 30 = .ok (.iconst 0, 1) := by decide +kernel
theorem dX0_hasWeight_31 : decode cX0_hasWeight 31 = .ok (.ireturn, 1) := by decide +kernel
theorem dX0_hasPlace_0 : decode cX0_hasPlace 0 = .ok (.iload_n 1, 1) := by decide +kernel
theorem dX0_hasPlace_1 : decode cX0_hasPlace 1 = .ok (.ifCond .lt 15, 3) := by decide +kernel
theorem dX0_hasPlace_4 : decode cX0_hasPlace 4 = .ok (.iload_n 1, 1) := by decide +kernel
theorem dX0_hasPlace_5 : decode cX0_hasPlace 5 = .ok (.aload_n 0, 1) := by decide +kernel
theorem dX0_hasPlace_6 : decode cX0_hasPlace 6 = .ok (.getfield 54, 3) := by decide +kernel
theorem dX0_hasPlace_9 : decode cX0_hasPlace 9 = .ok (.if_icmp .ge 7, 3) := by decide +kernel
theorem dX0_hasPlace_12 : decode cX0_hasPlace 12 = .ok (.iconst 1, 1) := by decide +kernel
theorem dX0_hasPlace_13 : decode cX0_hasPlace 13 = .ok (.goto 4, 3) := by decide +kernel
theorem dX0_hasPlace_16 : decode cX0_hasPlace 16 = .ok (.iconst 0, 1) := by decide +kernel
theorem dX0_hasPlace_17 : decode cX0_hasPlace 17 = .ok (.ireturn, 1) := by decide +kernel
theorem dX0_hasState_0 : decode cX0_hasState 0 = .ok (.iload_n 1, 1) := by decide +kernel
theorem dX0_hasState_1 : decode cX0_hasState 1 = .ok (.ifCond .lt 15, 3) := by decide +kernel
theorem dX0_hasState_4 : decode cX0_hasState 4 = .ok (.iload_n 1, 1) := by decide +kernel
theorem dX0_hasState_5 : decode cX0_hasState 5 = .ok (.aload_n 0, 1) := by decide +kernel
theorem dX0_hasState_6 : decode cX0_hasState 6 = .ok (.getfield 61, 3) := by decide +kernel
theorem dX0_hasState_9 : decode cX0_hasState 9 = .ok (.if_icmp .ge 7, 3) := by decide +kernel
theorem dX0_hasState_12 : decode cX0_hasState 12 = .ok (.iconst 1, 1) := by decide +kernel
theorem dX0_hasState_13 : decode cX0_hasState 13 = .ok (.goto 4, 3) := by decide +kernel
theorem dX0_hasState_16 : decode cX0_hasState 16 = .ok (.iconst 0, 1) := by decide +kernel
theorem dX0_hasState_17 : decode cX0_hasState 17 = .ok (.ireturn, 1) := by decide +kernel
theorem dX0_hasRank_0 : decode cX0_hasRank 0 = .ok (.iload_n 1, 1) := by decide +kernel
theorem dX0_hasRank_1 : decode cX0_hasRank 1 = .ok (.ifCond .lt 21, 3) := by decide +kernel
theorem dX0_hasRank_4 : decode cX0_hasRank 4 = .ok (.iload_n 1, 1) := by decide +kernel
theorem dX0_hasRank_5 : decode cX0_hasRank 5 = .ok (.bipush 12, 2) := by decide +kernel
theorem dX0_hasRank_7 : decode cX0_hasRank 7 = .ok (.if_icmp .ge 15, 3) := by decide +kernel
theorem dX0_hasRank_10 : decode cX0_hasRank 10 = .ok (.iload_n 1, 1) := by decide +kernel
theorem dX0_hasRank_11 : decode cX0_hasRank 11 = .ok (.aload_n 0, 1) := by decide +kernel
theorem dX0_hasRank_12 : decode cX0_hasRank 12 = .ok (.getfield 71, 3) := by decide +kernel
theorem dX0_hasRank_15 : decode cX0_hasRank 15 = .ok (.if_icmp .ge 7, 3) := by decide +kernel
theorem dX0_hasRank_18 : decode cX0_hasRank 18 = .ok (.iconst 1, 1) := by decide +kernel
theorem dX0_hasRank_19 : decode cX0_hasRank 19 = .ok (.goto 4, 3) := by decide +kernel
theorem dX0_hasRank_22 : decode cX0_hasRank 22 = .ok (.iconst 0, 1) := by decide +kernel
theorem dX0_hasRank_23 : decode cX0_hasRank 23 = .ok (.ireturn, 1) := by decide +kernel
theorem dX0_slot_0 : decode cX0_slot 0 = .ok (.iload_n 0, 1) := by decide +kernel
theorem dX0_slot_1 : decode cX0_slot 1 = .ok (.iconst 3, 1) := by decide +kernel
theorem dX0_slot_2 : decode cX0_slot 2 = .ok (.imul, 1) := by decide +kernel
theorem dX0_slot_3 : decode cX0_slot 3 = .ok (.iload_n 1, 1) := by decide +kernel
theorem dX0_slot_4 : decode cX0_slot 4 = .ok (.iadd, 1) := by decide +kernel
theorem dX0_slot_5 : decode cX0_slot 5 = .ok (.iconst 4, 1) := by decide +kernel
theorem dX0_slot_6 : decode cX0_slot 6 = .ok (.imul, 1) := by decide +kernel
theorem dX0_slot_7 : decode cX0_slot 7 = .ok (.iload_n 2, 1) := by decide +kernel
theorem dX0_slot_8 : decode cX0_slot 8 = .ok (.iadd, 1) := by decide +kernel
theorem dX0_slot_9 : decode cX0_slot 9 = .ok (.ireturn, 1) := by decide +kernel
theorem dX0_cell_0 : decode cX0_cell 0 = .ok (.iload_n 0, 1) := by decide +kernel
theorem dX0_cell_1 : decode cX0_cell 1 = .ok (.iconst 3, 1) := by decide +kernel
theorem dX0_cell_2 : decode cX0_cell 2 = .ok (.imul, 1) := by decide +kernel
theorem dX0_cell_3 : decode cX0_cell 3 = .ok (.iload_n 1, 1) := by decide +kernel
theorem dX0_cell_4 : decode cX0_cell 4 = .ok (.iadd, 1) := by decide +kernel
theorem dX0_cell_5 : decode cX0_cell 5 = .ok (.ireturn, 1) := by decide +kernel
theorem dX0_entry_0 : decode cX0_entry 0 = .ok (.iload_n 1, 1) := by decide +kernel
theorem dX0_entry_1 : decode cX0_entry 1 = .ok (.ifCond .ne 17, 3) := by decide +kernel
theorem dX0_entry_4 : decode cX0_entry 4 = .ok (.aload_n 0, 1) := by decide +kernel
theorem dX0_entry_5 : decode cX0_entry 5 = .ok (.getfield 9, 3) := by decide +kernel
theorem dX0_entry_8 : decode cX0_entry 8 = .ok (.iconst 0, 1) := by decide +kernel
theorem dX0_entry_9 : decode cX0_entry 9 = .ok (.iconst 0, 1) := by decide +kernel
theorem dX0_entry_10 : decode cX0_entry 10 = .ok (.iload_n 3, 1) := by decide +kernel
theorem dX0_entry_11 : decode cX0_entry 11 = .ok (.invokestatic 43, 3) := by decide +kernel
theorem dX0_entry_14 : decode cX0_entry 14 = .ok (.iaload, 1) := by decide +kernel
theorem dX0_entry_15 : decode cX0_entry 15 = .ok (.goto 14, 3) := by decide +kernel
theorem dX0_entry_18 : decode cX0_entry 18 = .ok (.aload_n 0, 1) := by decide +kernel
theorem dX0_entry_19 : decode cX0_entry 19 = .ok (.getfield 9, 3) := by decide +kernel
theorem dX0_entry_22 : decode cX0_entry 22 = .ok (.iconst 1, 1) := by decide +kernel
theorem dX0_entry_23 : decode cX0_entry 23 = .ok (.iload_n 2, 1) := by decide +kernel
theorem dX0_entry_24 : decode cX0_entry 24 = .ok (.iload_n 3, 1) := by decide +kernel
theorem dX0_entry_25 : decode cX0_entry 25 = .ok (.invokestatic 43, 3) := by decide +kernel
theorem dX0_entry_28 : decode cX0_entry 28 = .ok (.iaload, 1) := by decide +kernel
theorem dX0_entry_29 : decode cX0_entry 29 = .ok (.istore 4, 2) := by decide +kernel
theorem dX0_entry_31 : decode cX0_entry 31 = .ok (.iload 4, 2) := by decide +kernel
theorem dX0_entry_33 : decode cX0_entry 33 = .ok (.i2l, 1) := by decide +kernel
theorem dX0_entry_34 : decode cX0_entry 34 = .ok (.aload_n 0, 1) := by decide +kernel
theorem dX0_entry_35 : decode cX0_entry 35 = .ok (.getfield 9, 3) := by decide +kernel
theorem dX0_entry_38 : decode cX0_entry 38 = .ok (.iconst 2, 1) := by decide +kernel
theorem dX0_entry_39 : decode cX0_entry 39 = .ok (.iload_n 3, 1) := by decide +kernel
theorem dX0_entry_40 : decode cX0_entry 40 = .ok (.aload_n 0, 1) := by decide +kernel
theorem dX0_entry_41 : decode cX0_entry 41 = .ok (.getfield 16, 3) := by decide +kernel
theorem dX0_entry_44 : decode cX0_entry 44 = .ok (.iload_n 1, 1) := by decide +kernel
theorem dX0_entry_45 : decode cX0_entry 45 = .ok (.iaload, 1) := by decide +kernel
theorem dX0_entry_46 : decode cX0_entry 46 = .ok (.invokestatic 43, 3) := by decide +kernel
theorem dX0_entry_49 : decode cX0_entry 49 = .ok (.iaload, 1) := by decide +kernel
theorem dX0_entry_50 : decode cX0_entry 50 = .ok (.i2l, 1) := by decide +kernel
theorem dX0_entry_51 : decode cX0_entry 51 = .ok (.lmul, 1) := by decide +kernel
theorem dX0_entry_52 : decode cX0_entry 52 = .ok (.lreturn, 1) := by decide +kernel
theorem dX0_reckon_0 : decode cX0_reckon 0 = .ok (.aload_n 0, 1) := by decide +kernel
theorem dX0_reckon_1 : decode cX0_reckon 1 = .ok (.invokevirtual 129, 3) := by decide +kernel
theorem dX0_reckon_4 : decode cX0_reckon 4 = .ok (.aload_n 0, 1) := by decide +kernel
theorem dX0_reckon_5 : decode cX0_reckon 5 = .ok (.invokevirtual 132, 3) := by decide +kernel
theorem dX0_reckon_8 : decode cX0_reckon 8 = .ok (.aload_n 0, 1) := by decide +kernel
theorem dX0_reckon_9 : decode cX0_reckon 9 = .ok (.iconst 0, 1) := by decide +kernel
theorem dX0_reckon_10 : decode cX0_reckon 10 = .ok (.putfield 71, 3) := by decide +kernel
theorem dX0_reckon_13 : decode cX0_reckon 13 = .ok (.aload_n 0, 1) := by decide +kernel
theorem dX0_reckon_14 : decode cX0_reckon 14 = .ok (.iconst 0, 1) := by decide +kernel
theorem dX0_reckon_15 : decode cX0_reckon 15 = .ok (.iconst 0, 1) := by decide +kernel
theorem dX0_reckon_16 : decode cX0_reckon 16 = .ok (.lconst 1, 1) := by decide +kernel
theorem dX0_reckon_17 : decode cX0_reckon 17 = .ok (.invokevirtual 135, 3) := by decide +kernel
theorem dX0_reckon_20 : decode cX0_reckon 20 = .ok (.return_, 1) := by decide +kernel
theorem dX0_sumBefore_0 : decode cX0_sumBefore 0 = .ok (.iconst 0, 1) := by decide +kernel
theorem dX0_sumBefore_1 : decode cX0_sumBefore 1 = .ok (.istore_n 1, 1) := by decide +kernel
theorem dX0_sumBefore_2 : decode cX0_sumBefore 2 = .ok (.iload_n 1, 1) := by decide +kernel
theorem dX0_sumBefore_3 : decode cX0_sumBefore 3 = .ok (.aload_n 0, 1) := by decide +kernel
theorem dX0_sumBefore_4 : decode cX0_sumBefore 4 = .ok (.getfield 54, 3) := by decide +kernel
theorem dX0_sumBefore_7 : decode cX0_sumBefore 7 = .ok (.if_icmp .ge 55, 3) := by decide +kernel
theorem dX0_sumBefore_10 : decode cX0_sumBefore 10 = .ok (.iconst 0, 1) := by decide +kernel
theorem dX0_sumBefore_11 : decode cX0_sumBefore 11 = .ok (.istore_n 2, 1) := by decide +kernel
theorem dX0_sumBefore_12 : decode cX0_sumBefore 12 = .ok (.iload_n 2, 1) := by decide +kernel
theorem dX0_sumBefore_13 : decode cX0_sumBefore 13 = .ok (.aload_n 0, 1) := by decide +kernel
theorem dX0_sumBefore_14 : decode cX0_sumBefore 14 = .ok (.getfield 61, 3) := by decide +kernel
theorem dX0_sumBefore_17 : decode cX0_sumBefore 17 = .ok (.if_icmp .ge 39, 3) := by decide +kernel
theorem dX0_sumBefore_20 : decode cX0_sumBefore 20 = .ok (.aload_n 0, 1) := by decide +kernel
theorem dX0_sumBefore_21 : decode cX0_sumBefore 21 = .ok (.getfield 19, 3) := by decide +kernel
theorem dX0_sumBefore_24 : decode cX0_sumBefore 24 = .ok (.iload_n 1, 1) := by decide +kernel
theorem dX0_sumBefore_25 : decode cX0_sumBefore 25 = .ok (.iload_n 2, 1) := by decide +kernel
theorem dX0_sumBefore_26 : decode cX0_sumBefore 26 = .ok (.invokestatic 64, 3) := by decide +kernel
theorem dX0_sumBefore_29 : decode cX0_sumBefore 29 = .ok (.iload_n 1, 1) := by decide +kernel
theorem dX0_sumBefore_30 : decode cX0_sumBefore 30 = .ok (.ifCond .ne 13, 3) := by decide +kernel
theorem dX0_sumBefore_33 : decode cX0_sumBefore 33 = .ok (.aload_n 0, 1) := by decide +kernel
theorem dX0_sumBefore_34 : decode cX0_sumBefore 34 = .ok (.iconst 0, 1) := by decide +kernel
theorem dX0_sumBefore_35 : decode cX0_sumBefore 35 = .ok (.iconst 0, 1) := by decide +kernel
theorem dX0_sumBefore_36 : decode cX0_sumBefore 36 = .ok (.iload_n 2, 1) := by decide +kernel
theorem dX0_sumBefore_37 : decode cX0_sumBefore 37 = .ok (.invokevirtual 114, 3) := by decide +kernel
theorem dX0_sumBefore_40 : decode cX0_sumBefore 40 = .ok (.goto 9, 3) := by decide +kernel
theorem dX0_sumBefore_43 : decode cX0_sumBefore 43 = .ok (.aload_n 0, 1) := by decide +kernel
theorem dX0_sumBefore_44 : decode cX0_sumBefore 44 = .ok (.iload_n 1, 1) := by decide +kernel
theorem dX0_sumBefore_45 : decode cX0_sumBefore 45 = .ok (.iload_n 2, 1) := by decide +kernel
theorem dX0_sumBefore_46 : decode cX0_sumBefore 46 = .ok (.invokevirtual 139, 3) := by decide +kernel
theorem dX0_sumBefore_49 : decode cX0_sumBefore 49 = .ok (.lastore, 1) := by decide +kernel
theorem dX0_sumBefore_50 : decode cX0_sumBefore 50 = .ok (.iinc 2 1, 3) := by decide +kernel
theorem dX0_sumBefore_53 : decode cX0_sumBefore 53 = .ok (.goto (-41), 3) := by decide +kernel
theorem dX0_sumBefore_56 : decode cX0_sumBefore 56 = .ok (.iinc 1 1, 3) := by decide +kernel
theorem dX0_sumBefore_59 : decode cX0_sumBefore 59 = .ok (.goto (-57), 3) := by decide +kernel
theorem dX0_sumBefore_62 : decode cX0_sumBefore 62 = .ok (.return_, 1) := by decide +kernel
theorem dX0_sumInto_0 : decode cX0_sumInto 0 = .ok (.lconst 0, 1) := by decide +kernel
theorem dX0_sumInto_1 : decode cX0_sumInto 1 = .ok (.lstore_n 3, 1) := by decide +kernel
theorem dX0_sumInto_2 : decode cX0_sumInto 2 = .ok (.iconst 0, 1) := by decide +kernel
theorem dX0_sumInto_3 : decode cX0_sumInto 3 = .ok (.istore 5, 2) := by decide +kernel
theorem dX0_sumInto_5 : decode cX0_sumInto 5 = .ok (.iload 5, 2) := by decide +kernel
theorem dX0_sumInto_7 : decode cX0_sumInto 7 = .ok (.aload_n 0, 1) := by decide +kernel
theorem dX0_sumInto_8 : decode cX0_sumInto 8 = .ok (.getfield 61, 3) := by decide +kernel
theorem dX0_sumInto_11 : decode cX0_sumInto 11 = .ok (.if_icmp .ge 34, 3) := by decide +kernel
theorem dX0_sumInto_14 : decode cX0_sumInto 14 = .ok (.lload_n 3, 1) := by decide +kernel
theorem dX0_sumInto_15 : decode cX0_sumInto 15 = .ok (.aload_n 0, 1) := by decide +kernel
theorem dX0_sumInto_16 : decode cX0_sumInto 16 = .ok (.getfield 19, 3) := by decide +kernel
theorem dX0_sumInto_19 : decode cX0_sumInto 19 = .ok (.iload_n 1, 1) := by decide +kernel
theorem dX0_sumInto_20 : decode cX0_sumInto 20 = .ok (.iconst 1, 1) := by decide +kernel
theorem dX0_sumInto_21 : decode cX0_sumInto 21 = .ok (.isub, 1) := by decide +kernel
theorem dX0_sumInto_22 : decode cX0_sumInto 22 = .ok (.iload 5, 2) := by decide +kernel
theorem dX0_sumInto_24 : decode cX0_sumInto 24 = .ok (.invokestatic 64, 3) := by decide +kernel
theorem dX0_sumInto_27 : decode cX0_sumInto 27 = .ok (.laload, 1) := by decide +kernel
theorem dX0_sumInto_28 : decode cX0_sumInto 28 = .ok (.aload_n 0, 1) := by decide +kernel
theorem dX0_sumInto_29 : decode cX0_sumInto 29 = .ok (.iload_n 1, 1) := by decide +kernel
theorem dX0_sumInto_30 : decode cX0_sumInto 30 = .ok (.iload 5, 2) := by decide +kernel
theorem dX0_sumInto_32 : decode cX0_sumInto 32 = .ok (.iload_n 2, 1) := by decide +kernel
theorem dX0_sumInto_33 : decode cX0_sumInto 33 = .ok (.invokevirtual 114, 3) := by decide +kernel
theorem dX0_sumInto_36 : decode cX0_sumInto 36 = .ok (.lmul, 1) := by decide +kernel
theorem dX0_sumInto_37 : decode cX0_sumInto 37 = .ok (.ladd, 1) := by decide +kernel
theorem dX0_sumInto_38 : decode cX0_sumInto 38 = .ok (.lstore_n 3, 1) := by decide +kernel
theorem dX0_sumInto_39 : decode cX0_sumInto 39 = .ok (.iinc 5 1, 3) := by decide +kernel
theorem dX0_sumInto_42 : decode cX0_sumInto 42 = .ok (.goto (-37), 3) := by decide +kernel
theorem dX0_sumInto_45 : decode cX0_sumInto 45 = .ok (.lload_n 3, 1) := by decide +kernel
theorem dX0_sumInto_46 : decode cX0_sumInto 46 = .ok (.lreturn, 1) := by decide +kernel
theorem dX0_sumBehind_0 : decode cX0_sumBehind 0 = .ok (.aload_n 0, 1) := by decide +kernel
theorem dX0_sumBehind_1 : decode cX0_sumBehind 1 = .ok (.getfield 54, 3) := by decide +kernel
theorem dX0_sumBehind_4 : decode cX0_sumBehind 4 = .ok (.iconst 1, 1) := by decide +kernel
theorem dX0_sumBehind_5 : decode cX0_sumBehind 5 = .ok (.isub, 1) := by decide +kernel
theorem dX0_sumBehind_6 : decode cX0_sumBehind 6 = .ok (.istore_n 1, 1) := by decide +kernel
theorem dX0_sumBehind_7 : decode cX0_sumBehind 7 = .ok (.iload_n 1, 1) := by decide +kernel
theorem dX0_sumBehind_8 : decode cX0_sumBehind 8 = .ok (.ifCond .lt 55, 3) := by decide +kernel
theorem dX0_sumBehind_11 : decode cX0_sumBehind 11 = .ok (.iconst 0, 1) := by decide +kernel
theorem dX0_sumBehind_12 : decode cX0_sumBehind 12 = .ok (.istore_n 2, 1) := by decide +kernel
theorem dX0_sumBehind_13 : decode cX0_sumBehind 13 = .ok (.iload_n 2, 1) := by decide +kernel
theorem dX0_sumBehind_14 : decode cX0_sumBehind 14 = .ok (.aload_n 0, 1) := by decide +kernel
theorem dX0_sumBehind_15 : decode cX0_sumBehind 15 = .ok (.getfield 61, 3) := by decide +kernel
theorem dX0_sumBehind_18 : decode cX0_sumBehind 18 = .ok (.if_icmp .ge 39, 3) := by decide +kernel
theorem dX0_sumBehind_21 : decode cX0_sumBehind 21 = .ok (.aload_n 0, 1) := by decide +kernel
theorem dX0_sumBehind_22 : decode cX0_sumBehind 22 = .ok (.getfield 23, 3) := by decide +kernel
theorem dX0_sumBehind_25 : decode cX0_sumBehind 25 = .ok (.iload_n 1, 1) := by decide +kernel
theorem dX0_sumBehind_26 : decode cX0_sumBehind 26 = .ok (.iload_n 2, 1) := by decide +kernel
theorem dX0_sumBehind_27 : decode cX0_sumBehind 27 = .ok (.invokestatic 64, 3) := by decide +kernel
theorem dX0_sumBehind_30 : decode cX0_sumBehind 30 = .ok (.iload_n 1, 1) := by decide +kernel
theorem dX0_sumBehind_31 : decode cX0_sumBehind 31 = .ok (.aload_n 0, 1) := by decide +kernel
theorem dX0_sumBehind_32 : decode cX0_sumBehind 32 = .ok (.getfield 54, 3) := by decide +kernel
theorem dX0_sumBehind_35 : decode cX0_sumBehind 35 = .ok (.iconst 1, 1) := by decide +kernel
theorem dX0_sumBehind_36 : decode cX0_sumBehind 36 = .ok (.isub, 1) := by decide +kernel
theorem dX0_sumBehind_37 : decode cX0_sumBehind 37 = .ok (.if_icmp .ne 7, 3) := by decide +kernel
theorem dX0_sumBehind_40 : decode cX0_sumBehind 40 = .ok (.lconst 1, 1) := by decide +kernel
theorem dX0_sumBehind_41 : decode cX0_sumBehind 41 = .ok (.goto 9, 3) := by decide +kernel
theorem dX0_sumBehind_44 : decode cX0_sumBehind 44 = .ok (.aload_n 0, 1) := by decide +kernel
theorem dX0_sumBehind_45 : decode cX0_sumBehind 45 = .ok (.iload_n 1, 1) := by decide +kernel
theorem dX0_sumBehind_46 : decode cX0_sumBehind 46 = .ok (.iload_n 2, 1) := by decide +kernel
theorem dX0_sumBehind_47 : decode cX0_sumBehind 47 = .ok (.invokevirtual 142, 3) := by decide +kernel
theorem dX0_sumBehind_50 : decode cX0_sumBehind 50 = .ok (.lastore, 1) := by decide +kernel
theorem dX0_sumBehind_51 : decode cX0_sumBehind 51 = .ok (.iinc 2 1, 3) := by decide +kernel
theorem dX0_sumBehind_54 : decode cX0_sumBehind 54 = .ok (.goto (-41), 3) := by decide +kernel
theorem dX0_sumBehind_57 : decode cX0_sumBehind 57 = .ok (.iinc 1 (-1), 3) := by decide +kernel
theorem dX0_sumBehind_60 : decode cX0_sumBehind 60 = .ok (.goto (-53), 3) := by decide +kernel
theorem dX0_sumBehind_63 : decode cX0_sumBehind 63 = .ok (.return_, 1) := by decide +kernel
theorem dX0_sumOutOf_0 : decode cX0_sumOutOf 0 = .ok (.lconst 0, 1) := by decide +kernel
theorem dX0_sumOutOf_1 : decode cX0_sumOutOf 1 = .ok (.lstore_n 3, 1) := by decide +kernel
theorem dX0_sumOutOf_2 : decode cX0_sumOutOf 2 = .ok (.iconst 0, 1) := by decide +kernel
theorem dX0_sumOutOf_3 : decode cX0_sumOutOf 3 = .ok (.istore 5, 2) := by decide +kernel
theorem dX0_sumOutOf_5 : decode cX0_sumOutOf 5 = .ok (.iload 5, 2) := by decide +kernel
theorem dX0_sumOutOf_7 : decode cX0_sumOutOf 7 = .ok (.aload_n 0, 1) := by decide +kernel
theorem dX0_sumOutOf_8 : decode cX0_sumOutOf 8 = .ok (.getfield 61, 3) := by decide +kernel
theorem dX0_sumOutOf_11 : decode cX0_sumOutOf 11 = .ok (.if_icmp .ge 36, 3) := by decide +kernel
theorem dX0_sumOutOf_14 : decode cX0_sumOutOf 14 = .ok (.lload_n 3, 1) := by decide +kernel
theorem dX0_sumOutOf_15 : decode cX0_sumOutOf 15 = .ok (.aload_n 0, 1) := by decide +kernel
theorem dX0_sumOutOf_16 : decode cX0_sumOutOf 16 = .ok (.iload_n 1, 1) := by decide +kernel
theorem dX0_sumOutOf_17 : decode cX0_sumOutOf 17 = .ok (.iconst 1, 1) := by decide +kernel
theorem dX0_sumOutOf_18 : decode cX0_sumOutOf 18 = .ok (.iadd, 1) := by decide +kernel
theorem dX0_sumOutOf_19 : decode cX0_sumOutOf 19 = .ok (.iload_n 2, 1) := by decide +kernel
theorem dX0_sumOutOf_20 : decode cX0_sumOutOf 20 = .ok (.iload 5, 2) := by decide +kernel
theorem dX0_sumOutOf_22 : decode cX0_sumOutOf 22 = .ok (.invokevirtual 114, 3) := by decide +kernel
theorem dX0_sumOutOf_25 : decode cX0_sumOutOf 25 = .ok (.aload_n 0, 1) := by decide +kernel
theorem dX0_sumOutOf_26 : decode cX0_sumOutOf 26 = .ok (.getfield 23, 3) := by decide +kernel
theorem dX0_sumOutOf_29 : decode cX0_sumOutOf 29 = .ok (.iload_n 1, 1) := by decide +kernel
theorem dX0_sumOutOf_30 : decode cX0_sumOutOf 30 = .ok (.iconst 1, 1) := by decide +kernel
theorem dX0_sumOutOf_31 : decode cX0_sumOutOf 31 = .ok (.iadd, 1) := by decide +kernel
theorem dX0_sumOutOf_32 : decode cX0_sumOutOf 32 = .ok (.iload 5, 2) := by decide +kernel
theorem dX0_sumOutOf_34 : decode cX0_sumOutOf 34 = .ok (.invokestatic 64, 3) := by decide +kernel
theorem dX0_sumOutOf_37 : decode cX0_sumOutOf 37 = .ok (.laload, 1) := by decide +kernel
theorem dX0_sumOutOf_38 : decode cX0_sumOutOf 38 = .ok (.lmul, 1) := by decide +kernel
theorem dX0_sumOutOf_39 : decode cX0_sumOutOf 39 = .ok (.ladd, 1) := by decide +kernel
theorem dX0_sumOutOf_40 : decode cX0_sumOutOf 40 = .ok (.lstore_n 3, 1) := by decide +kernel
theorem dX0_sumOutOf_41 : decode cX0_sumOutOf 41 = .ok (.iinc 5 1, 3) := by decide +kernel
theorem dX0_sumOutOf_44 : decode cX0_sumOutOf 44 = .ok (.goto (-39), 3) := by decide +kernel
theorem dX0_sumOutOf_47 : decode cX0_sumOutOf 47 = .ok (.lload_n 3, 1) := by decide +kernel
theorem dX0_sumOutOf_48 : decode cX0_sumOutOf 48 = .ok (.lreturn, 1) := by decide +kernel
theorem dX0_rankFrom_0 : decode cX0_rankFrom 0 = .ok (.iload_n 1, 1) := by decide +kernel
theorem dX0_rankFrom_1 : decode cX0_rankFrom 1 = .ok (.aload_n 0, 1) := by decide +kernel
theorem dX0_rankFrom_2 : decode cX0_rankFrom 2 = .ok (.getfield 54, 3) := by decide +kernel
theorem dX0_rankFrom_5 : decode cX0_rankFrom 5 = .ok (.if_icmp .lt 10, 3) := by decide +kernel
theorem dX0_rankFrom_8 : decode cX0_rankFrom 8 = .ok (.aload_n 0, 1) := by decide +kernel
theorem dX0_rankFrom_9 : decode cX0_rankFrom 9 = .ok (.iload_n 2, 1) := by decide +kernel
theorem dX0_rankFrom_10 : decode cX0_rankFrom 10 = .ok (.lload_n 3, 1) := by decide +kernel
theorem dX0_rankFrom_11 : decode cX0_rankFrom 11 = .ok (.invokevirtual 145, 3) := by decide +kernel
theorem dX0_rankFrom_14 : decode cX0_rankFrom 14 = .ok (.return_, 1) := by decide +kernel
theorem dX0_rankFrom_15 : decode cX0_rankFrom 15 = .ok (.iconst 0, 1) := by decide +kernel
theorem dX0_rankFrom_16 : decode cX0_rankFrom 16 = .ok (.istore 5, 2) := by decide +kernel
theorem dX0_rankFrom_18 : decode cX0_rankFrom 18 = .ok (.iload 5, 2) := by decide +kernel
theorem dX0_rankFrom_20 : decode cX0_rankFrom 20 = .ok (.aload_n 0, 1) := by decide +kernel
theorem dX0_rankFrom_21 : decode cX0_rankFrom 21 = .ok (.getfield 61, 3) := by decide +kernel
theorem dX0_rankFrom_24 : decode cX0_rankFrom 24 = .ok (.if_icmp .ge 45, 3) := by decide +kernel
theorem dX0_rankFrom_27 : decode cX0_rankFrom 27 = .ok (.lload_n 3, 1) := by decide +kernel
theorem dX0_rankFrom_28 : decode cX0_rankFrom 28 = .ok (.aload_n 0, 1) := by decide +kernel
theorem dX0_rankFrom_29 : decode cX0_rankFrom 29 = .ok (.iload_n 1, 1) := by decide +kernel
theorem dX0_rankFrom_30 : decode cX0_rankFrom 30 = .ok (.iload_n 2, 1) := by decide +kernel
theorem dX0_rankFrom_31 : decode cX0_rankFrom 31 = .ok (.iconst 3, 1) := by decide +kernel
theorem dX0_rankFrom_32 : decode cX0_rankFrom 32 = .ok (.iand, 1) := by decide +kernel
theorem dX0_rankFrom_33 : decode cX0_rankFrom 33 = .ok (.iload 5, 2) := by decide +kernel
theorem dX0_rankFrom_35 : decode cX0_rankFrom 35 = .ok (.invokevirtual 114, 3) := by decide +kernel
theorem dX0_rankFrom_38 : decode cX0_rankFrom 38 = .ok (.lmul, 1) := by decide +kernel
theorem dX0_rankFrom_39 : decode cX0_rankFrom 39 = .ok (.lstore 6, 2) := by decide +kernel
theorem dX0_rankFrom_41 : decode cX0_rankFrom 41 = .ok (.lload 6, 2) := by decide +kernel
theorem dX0_rankFrom_43 : decode cX0_rankFrom 43 = .ok (.lconst 0, 1) := by decide +kernel
theorem dX0_rankFrom_44 : decode cX0_rankFrom 44 = .ok (.lcmp, 1) := by decide +kernel
theorem dX0_rankFrom_45 : decode cX0_rankFrom 45 = .ok (.ifCond .eq 18, 3) := by decide +kernel
theorem dX0_rankFrom_48 : decode cX0_rankFrom 48 = .ok (.aload_n 0, 1) := by decide +kernel
theorem dX0_rankFrom_49 : decode cX0_rankFrom 49 = .ok (.iload_n 1, 1) := by decide +kernel
theorem dX0_rankFrom_50 : decode cX0_rankFrom 50 = .ok (.iconst 1, 1) := by decide +kernel
theorem dX0_rankFrom_51 : decode cX0_rankFrom 51 = .ok (.iadd, 1) := by decide +kernel
theorem dX0_rankFrom_52 : decode cX0_rankFrom 52 = .ok (.iload_n 2, 1) := by decide +kernel
theorem dX0_rankFrom_53 : decode cX0_rankFrom 53 = .ok (.iconst 2, 1) := by decide +kernel
theorem dX0_rankFrom_54 : decode cX0_rankFrom 54 = .ok (.ishl, 1) := by decide +kernel
theorem dX0_rankFrom_55 : decode cX0_rankFrom 55 = .ok (.iload 5, 2) := by decide +kernel
theorem dX0_rankFrom_57 : decode cX0_rankFrom 57 = .ok (.ior, 1) := by decide +kernel
theorem dX0_rankFrom_58 : decode cX0_rankFrom 58 = .ok (.lload 6, 2) := by decide +kernel
theorem dX0_rankFrom_60 : decode cX0_rankFrom 60 = .ok (.invokevirtual 135, 3) := by decide +kernel
theorem dX0_rankFrom_63 : decode cX0_rankFrom 63 = .ok (.iinc 5 1, 3) := by decide +kernel
theorem dX0_rankFrom_66 : decode cX0_rankFrom 66 = .ok (.goto (-48), 3) := by decide +kernel
theorem dX0_rankFrom_69 : decode cX0_rankFrom 69 = .ok (.return_, 1) := by decide +kernel
theorem dX0_rankWay_0 : decode cX0_rankWay 0 = .ok (.aload_n 0, 1) := by decide +kernel
theorem dX0_rankWay_1 : decode cX0_rankWay 1 = .ok (.getfield 71, 3) := by decide +kernel
theorem dX0_rankWay_4 : decode cX0_rankWay 4 = .ok (.bipush 12, 2) := by decide +kernel
theorem dX0_rankWay_6 : decode cX0_rankWay 6 = .ok (.invokestatic 149, 3) := by decide +kernel
theorem dX0_rankWay_9 : decode cX0_rankWay 9 = .ok (.istore 4, 2) := by decide +kernel
theorem dX0_rankWay_11 : decode cX0_rankWay 11 = .ok (.iload 4, 2) := by decide +kernel
theorem dX0_rankWay_13 : decode cX0_rankWay 13 = .ok (.ifCond .le 64, 3) := by decide +kernel
theorem dX0_rankWay_16 : decode cX0_rankWay 16 = .ok (.aload_n 0, 1) := by decide +kernel
theorem dX0_rankWay_17 : decode cX0_rankWay 17 = .ok (.getfield 26, 3) := by decide +kernel
theorem dX0_rankWay_20 : decode cX0_rankWay 20 = .ok (.iload 4, 2) := by decide +kernel
theorem dX0_rankWay_22 : decode cX0_rankWay 22 = .ok (.iconst 1, 1) := by decide +kernel
theorem dX0_rankWay_23 : decode cX0_rankWay 23 = .ok (.isub, 1) := by decide +kernel
theorem dX0_rankWay_24 : decode cX0_rankWay 24 = .ok (.laload, 1) := by decide +kernel
theorem dX0_rankWay_25 : decode cX0_rankWay 25 = .ok (.lload_n 2, 1) := by decide +kernel
theorem dX0_rankWay_26 : decode cX0_rankWay 26 = .ok (.lcmp, 1) := by decide +kernel
theorem dX0_rankWay_27 : decode cX0_rankWay 27 = .ok (.ifCond .ge 50, 3) := by decide +kernel
theorem dX0_rankWay_30 : decode cX0_rankWay 30 = .ok (.iinc 4 (-1), 3) := by decide +kernel
theorem dX0_rankWay_33 : decode cX0_rankWay 33 = .ok (.iload 4, 2) := by decide +kernel
theorem dX0_rankWay_35 : decode cX0_rankWay 35 = .ok (.iconst 1, 1) := by decide +kernel
theorem dX0_rankWay_36 : decode cX0_rankWay 36 = .ok (.iadd, 1) := by decide +kernel
theorem dX0_rankWay_37 : decode cX0_rankWay 37 = .ok (.bipush 12, 2) := by decide +kernel
theorem dX0_rankWay_39 : decode cX0_rankWay 39 = .ok (.if_icmp .ge (-28), 3) := by decide +kernel
theorem dX0_rankWay_42 : decode cX0_rankWay 42 = .ok (.aload_n 0, 1) := by decide +kernel
theorem dX0_rankWay_43 : decode cX0_rankWay 43 = .ok (.getfield 26, 3) := by decide +kernel
theorem dX0_rankWay_46 : decode cX0_rankWay 46 = .ok (.iload 4, 2) := by decide +kernel
theorem dX0_rankWay_48 : decode cX0_rankWay 48 = .ok (.iconst 1, 1) := by decide +kernel
theorem dX0_rankWay_49 : decode cX0_rankWay 49 = .ok (.iadd, 1) := by decide +kernel
theorem dX0_rankWay_50 : decode cX0_rankWay 50 = .ok (.aload_n 0, 1) := by decide +kernel
theorem dX0_rankWay_51 : decode cX0_rankWay 51 = .ok (.getfield 26, 3) := by decide +kernel
theorem dX0_rankWay_54 : decode cX0_rankWay 54 = .ok (.iload 4, 2) := by decide +kernel
theorem dX0_rankWay_56 : decode cX0_rankWay 56 = .ok (.laload, 1) := by decide +kernel
theorem dX0_rankWay_57 : decode cX0_rankWay 57 = .ok (.lastore, 1) := by decide +kernel
theorem dX0_rankWay_58 : decode cX0_rankWay 58 = .ok (.aload_n 0, 1) := by decide +kernel
theorem dX0_rankWay_59 : decode cX0_rankWay 59 = .ok (.getfield 29, 3) := by decide +kernel
theorem dX0_rankWay_62 : decode cX0_rankWay 62 = .ok (.iload 4, 2) := by decide +kernel
theorem dX0_rankWay_64 : decode cX0_rankWay 64 = .ok (.iconst 1, 1) := by decide +kernel
theorem dX0_rankWay_65 : decode cX0_rankWay 65 = .ok (.iadd, 1) := by decide +kernel
theorem dX0_rankWay_66 : decode cX0_rankWay 66 = .ok (.aload_n 0, 1) := by decide +kernel
theorem dX0_rankWay_67 : decode cX0_rankWay 67 = .ok (.getfield 29, 3) := by decide +kernel
theorem dX0_rankWay_70 : decode cX0_rankWay 70 = .ok (.iload 4, 2) := by decide +kernel
theorem dX0_rankWay_72 : decode cX0_rankWay 72 = .ok (.iaload, 1) := by decide +kernel
theorem dX0_rankWay_73 : decode cX0_rankWay 73 = .ok (.iastore, 1) := by decide +kernel
theorem dX0_rankWay_74 : decode cX0_rankWay 74 = .ok (.goto (-63), 3) := by decide +kernel
theorem dX0_rankWay_77 : decode cX0_rankWay 77 = .ok (.iload 4, 2) := by decide +kernel
theorem dX0_rankWay_79 : decode cX0_rankWay 79 = .ok (.bipush 12, 2) := by decide +kernel
theorem dX0_rankWay_81 : decode cX0_rankWay 81 = .ok (.if_icmp .ge 19, 3) := by decide +kernel
theorem dX0_rankWay_84 : decode cX0_rankWay 84 = .ok (.aload_n 0, 1) := by decide +kernel
theorem dX0_rankWay_85 : decode cX0_rankWay 85 = .ok (.getfield 26, 3) := by decide +kernel
theorem dX0_rankWay_88 : decode cX0_rankWay 88 = .ok (.iload 4, 2) := by decide +kernel
theorem dX0_rankWay_90 : decode cX0_rankWay 90 = .ok (.lload_n 2, 1) := by decide +kernel
theorem dX0_rankWay_91 : decode cX0_rankWay 91 = .ok (.lastore, 1) := by decide +kernel
theorem dX0_rankWay_92 : decode cX0_rankWay 92 = .ok (.aload_n 0, 1) := by decide +kernel
theorem dX0_rankWay_93 : decode cX0_rankWay 93 = .ok (.getfield 29, 3) := by decide +kernel
theorem dX0_rankWay_96 : decode cX0_rankWay 96 = .ok (.iload 4, 2) := by decide +kernel
theorem dX0_rankWay_98 : decode cX0_rankWay 98 = .ok (.iload_n 1, 1) := by decide +kernel
theorem dX0_rankWay_99 : decode cX0_rankWay 99 = .ok (.iastore, 1) := by decide +kernel
theorem dX0_rankWay_100 : decode cX0_rankWay 100 = .ok (.aload_n 0, 1) := by decide +kernel
theorem dX0_rankWay_101 : decode cX0_rankWay 101 = .ok (.dup, 1) := by decide +kernel
theorem dX0_rankWay_102 : decode cX0_rankWay 102 = .ok (.getfield 71, 3) := by decide +kernel
theorem dX0_rankWay_105 : decode cX0_rankWay 105 = .ok (.iconst 1, 1) := by decide +kernel
theorem dX0_rankWay_106 : decode cX0_rankWay 106 = .ok (.iadd, 1) := by decide +kernel
theorem dX0_rankWay_107 : decode cX0_rankWay 107 = .ok (.putfield 71, 3) := by decide +kernel
theorem dX0_rankWay_110 : decode cX0_rankWay 110 = .ok (.return_, 1) := by decide +kernel
theorem dX0_unitsOf_0 : decode cX0_unitsOf 0 = .ok (.iload_n 1, 1) := by decide +kernel
theorem dX0_unitsOf_1 : decode cX0_unitsOf 1 = .ok (.lookupswitch 41 #[(0, 27), (1, 34)], 27) := by decide +kernel
theorem dX0_unitsOf_28 : decode cX0_unitsOf 28 = .ok (.aload_n 0, 1) := by decide +kernel
theorem dX0_unitsOf_29 : decode cX0_unitsOf 29 = .ok (.iload_n 2, 1) := by decide +kernel
theorem dX0_unitsOf_30 : decode cX0_unitsOf 30 = .ok (.iload_n 3, 1) := by decide +kernel
theorem dX0_unitsOf_31 : decode cX0_unitsOf 31 = .ok (.invokevirtual 154, 3) := by decide +kernel
theorem dX0_unitsOf_34 : decode cX0_unitsOf 34 = .ok (.lreturn, 1) := by decide +kernel
theorem dX0_unitsOf_35 : decode cX0_unitsOf 35 = .ok (.aload_n 0, 1) := by decide +kernel
theorem dX0_unitsOf_36 : decode cX0_unitsOf 36 = .ok (.iload_n 2, 1) := by decide +kernel
theorem dX0_unitsOf_37 : decode cX0_unitsOf 37 = .ok (.iload_n 3, 1) := by decide +kernel
theorem dX0_unitsOf_38 : decode cX0_unitsOf 38 = .ok (.invokevirtual 157, 3) := by decide +kernel
theorem dX0_unitsOf_41 : decode cX0_unitsOf 41 = .ok (.lreturn, 1) := by decide +kernel
theorem dX0_unitsOf_42 : decode cX0_unitsOf 42 = .ok (.aload_n 0, 1) := by decide +kernel
theorem dX0_unitsOf_43 : decode cX0_unitsOf 43 = .ok (.iload_n 2, 1) := by decide +kernel
theorem dX0_unitsOf_44 : decode cX0_unitsOf 44 = .ok (.iload_n 3, 1) := by decide +kernel
theorem dX0_unitsOf_45 : decode cX0_unitsOf 45 = .ok (.invokevirtual 160, 3) := by decide +kernel
theorem dX0_unitsOf_48 : decode cX0_unitsOf 48 = .ok (.lreturn, 1) := by decide +kernel
theorem dX0_unitsThrough_0 : decode cX0_unitsThrough 0 = .ok (.aload_n 0, 1) := by decide +kernel
theorem dX0_unitsThrough_1 : decode cX0_unitsThrough 1 = .ok (.iload_n 1, 1) := by decide +kernel
theorem dX0_unitsThrough_2 : decode cX0_unitsThrough 2 = .ok (.invokevirtual 57, 3) := by decide +kernel
theorem dX0_unitsThrough_5 : decode cX0_unitsThrough 5 = .ok (.ifCond .eq 27, 3) := by decide +kernel
theorem dX0_unitsThrough_8 : decode cX0_unitsThrough 8 = .ok (.aload_n 0, 1) := by decide +kernel
theorem dX0_unitsThrough_9 : decode cX0_unitsThrough 9 = .ok (.getfield 19, 3) := by decide +kernel
theorem dX0_unitsThrough_12 : decode cX0_unitsThrough 12 = .ok (.iload_n 1, 1) := by decide +kernel
theorem dX0_unitsThrough_13 : decode cX0_unitsThrough 13 = .ok (.iload_n 2, 1) := by decide +kernel
theorem dX0_unitsThrough_14 : decode cX0_unitsThrough 14 = .ok (.invokestatic 64, 3) := by decide +kernel
theorem dX0_unitsThrough_17 : decode cX0_unitsThrough 17 = .ok (.laload, 1) := by decide +kernel
theorem dX0_unitsThrough_18 : decode cX0_unitsThrough 18 = .ok (.aload_n 0, 1) := by decide +kernel
theorem dX0_unitsThrough_19 : decode cX0_unitsThrough 19 = .ok (.getfield 23, 3) := by decide +kernel
theorem dX0_unitsThrough_22 : decode cX0_unitsThrough 22 = .ok (.iload_n 1, 1) := by decide +kernel
theorem dX0_unitsThrough_23 : decode cX0_unitsThrough 23 = .ok (.iload_n 2, 1) := by decide +kernel
theorem dX0_unitsThrough_24 : decode cX0_unitsThrough 24 = .ok (.invokestatic 64, 3) := by decide +kernel
theorem dX0_unitsThrough_27 : decode cX0_unitsThrough 27 = .ok (.laload, 1) := by decide +kernel
theorem dX0_unitsThrough_28 : decode cX0_unitsThrough 28 = .ok (.lmul, 1) := by decide +kernel
theorem dX0_unitsThrough_29 : decode cX0_unitsThrough 29 = .ok (.goto 4, 3) := by decide +kernel
theorem dX0_unitsThrough_32 : decode cX0_unitsThrough 32 = .ok (.lconst 0, 1) := by decide +kernel
theorem dX0_unitsThrough_33 : decode cX0_unitsThrough 33 = .ok (.lreturn, 1) := by decide +kernel
theorem dX0_unitsOfStep_0 : decode cX0_unitsOfStep 0 = .ok (.lconst 0, 1) := by decide +kernel
theorem dX0_unitsOfStep_1 : decode cX0_unitsOfStep 1 = .ok (.lstore_n 3, 1) := by decide +kernel
theorem dX0_unitsOfStep_2 : decode cX0_unitsOfStep 2 = .ok (.iconst 0, 1) := by decide +kernel
theorem dX0_unitsOfStep_3 : decode cX0_unitsOfStep 3 = .ok (.istore 5, 2) := by decide +kernel
theorem dX0_unitsOfStep_5 : decode cX0_unitsOfStep 5 = .ok (.iload 5, 2) := by decide +kernel
theorem dX0_unitsOfStep_7 : decode cX0_unitsOfStep 7 = .ok (.aload_n 0, 1) := by decide +kernel
theorem dX0_unitsOfStep_8 : decode cX0_unitsOfStep 8 = .ok (.getfield 54, 3) := by decide +kernel
theorem dX0_unitsOfStep_11 : decode cX0_unitsOfStep 11 = .ok (.iconst 1, 1) := by decide +kernel
theorem dX0_unitsOfStep_12 : decode cX0_unitsOfStep 12 = .ok (.isub, 1) := by decide +kernel
theorem dX0_unitsOfStep_13 : decode cX0_unitsOfStep 13 = .ok (.if_icmp .ge 48, 3) := by decide +kernel
theorem dX0_unitsOfStep_16 : decode cX0_unitsOfStep 16 = .ok (.lload_n 3, 1) := by decide +kernel
theorem dX0_unitsOfStep_17 : decode cX0_unitsOfStep 17 = .ok (.aload_n 0, 1) := by decide +kernel
theorem dX0_unitsOfStep_18 : decode cX0_unitsOfStep 18 = .ok (.getfield 19, 3) := by decide +kernel
theorem dX0_unitsOfStep_21 : decode cX0_unitsOfStep 21 = .ok (.iload 5, 2) := by decide +kernel
theorem dX0_unitsOfStep_23 : decode cX0_unitsOfStep 23 = .ok (.iload_n 1, 1) := by decide +kernel
theorem dX0_unitsOfStep_24 : decode cX0_unitsOfStep 24 = .ok (.invokestatic 64, 3) := by decide +kernel
theorem dX0_unitsOfStep_27 : decode cX0_unitsOfStep 27 = .ok (.laload, 1) := by decide +kernel
theorem dX0_unitsOfStep_28 : decode cX0_unitsOfStep 28 = .ok (.aload_n 0, 1) := by decide +kernel
theorem dX0_unitsOfStep_29 : decode cX0_unitsOfStep 29 = .ok (.iload 5, 2) := by decide +kernel
theorem dX0_unitsOfStep_31 : decode cX0_unitsOfStep 31 = .ok (.iconst 1, 1) := by decide +kernel
theorem dX0_unitsOfStep_32 : decode cX0_unitsOfStep 32 = .ok (.iadd, 1) := by decide +kernel
theorem dX0_unitsOfStep_33 : decode cX0_unitsOfStep 33 = .ok (.iload_n 1, 1) := by decide +kernel
theorem dX0_unitsOfStep_34 : decode cX0_unitsOfStep 34 = .ok (.iload_n 2, 1) := by decide +kernel
theorem dX0_unitsOfStep_35 : decode cX0_unitsOfStep 35 = .ok (.invokevirtual 114, 3) := by decide +kernel
theorem dX0_unitsOfStep_38 : decode cX0_unitsOfStep 38 = .ok (.lmul, 1) := by decide +kernel
theorem dX0_unitsOfStep_39 : decode cX0_unitsOfStep 39 = .ok (.aload_n 0, 1) := by decide +kernel
theorem dX0_unitsOfStep_40 : decode cX0_unitsOfStep 40 = .ok (.getfield 23, 3) := by decide +kernel
theorem dX0_unitsOfStep_43 : decode cX0_unitsOfStep 43 = .ok (.iload 5, 2) := by decide +kernel
theorem dX0_unitsOfStep_45 : decode cX0_unitsOfStep 45 = .ok (.iconst 1, 1) := by decide +kernel
theorem dX0_unitsOfStep_46 : decode cX0_unitsOfStep 46 = .ok (.iadd, 1) := by decide +kernel
theorem dX0_unitsOfStep_47 : decode cX0_unitsOfStep 47 = .ok (.iload_n 2, 1) := by decide +kernel
theorem dX0_unitsOfStep_48 : decode cX0_unitsOfStep 48 = .ok (.invokestatic 64, 3) := by decide +kernel
theorem dX0_unitsOfStep_51 : decode cX0_unitsOfStep 51 = .ok (.laload, 1) := by decide +kernel
theorem dX0_unitsOfStep_52 : decode cX0_unitsOfStep 52 = .ok (.lmul, 1) := by decide +kernel
theorem dX0_unitsOfStep_53 : decode cX0_unitsOfStep 53 = .ok (.ladd, 1) := by decide +kernel
theorem dX0_unitsOfStep_54 : decode cX0_unitsOfStep 54 = .ok (.lstore_n 3, 1) := by decide +kernel
theorem dX0_unitsOfStep_55 : decode cX0_unitsOfStep 55 = .ok (.iinc 5 1, 3) := by decide +kernel
theorem dX0_unitsOfStep_58 : decode cX0_unitsOfStep 58 = .ok (.goto (-53), 3) := by decide +kernel
theorem dX0_unitsOfStep_61 : decode cX0_unitsOfStep 61 = .ok (.lload_n 3, 1) := by decide +kernel
theorem dX0_unitsOfStep_62 : decode cX0_unitsOfStep 62 = .ok (.lreturn, 1) := by decide +kernel
theorem dX0_unitsOfSymbol_0 : decode cX0_unitsOfSymbol 0 = .ok (.lconst 0, 1) := by decide +kernel
theorem dX0_unitsOfSymbol_1 : decode cX0_unitsOfSymbol 1 = .ok (.lstore_n 3, 1) := by decide +kernel
theorem dX0_unitsOfSymbol_2 : decode cX0_unitsOfSymbol 2 = .ok (.iconst 0, 1) := by decide +kernel
theorem dX0_unitsOfSymbol_3 : decode cX0_unitsOfSymbol 3 = .ok (.istore 5, 2) := by decide +kernel
theorem dX0_unitsOfSymbol_5 : decode cX0_unitsOfSymbol 5 = .ok (.iload 5, 2) := by decide +kernel
theorem dX0_unitsOfSymbol_7 : decode cX0_unitsOfSymbol 7 = .ok (.aload_n 0, 1) := by decide +kernel
theorem dX0_unitsOfSymbol_8 : decode cX0_unitsOfSymbol 8 = .ok (.getfield 54, 3) := by decide +kernel
theorem dX0_unitsOfSymbol_11 : decode cX0_unitsOfSymbol 11 = .ok (.if_icmp .ge 30, 3) := by decide +kernel
theorem dX0_unitsOfSymbol_14 : decode cX0_unitsOfSymbol 14 = .ok (.aload_n 0, 1) := by decide +kernel
theorem dX0_unitsOfSymbol_15 : decode cX0_unitsOfSymbol 15 = .ok (.getfield 16, 3) := by decide +kernel
theorem dX0_unitsOfSymbol_18 : decode cX0_unitsOfSymbol 18 = .ok (.iload 5, 2) := by decide +kernel
theorem dX0_unitsOfSymbol_20 : decode cX0_unitsOfSymbol 20 = .ok (.iaload, 1) := by decide +kernel
theorem dX0_unitsOfSymbol_21 : decode cX0_unitsOfSymbol 21 = .ok (.iload_n 2, 1) := by decide +kernel
theorem dX0_unitsOfSymbol_22 : decode cX0_unitsOfSymbol 22 = .ok (.if_icmp .ne 13, 3) := by decide +kernel
theorem dX0_unitsOfSymbol_25 : decode cX0_unitsOfSymbol 25 = .ok (.lload_n 3, 1) := by decide +kernel
theorem dX0_unitsOfSymbol_26 : decode cX0_unitsOfSymbol 26 = .ok (.aload_n 0, 1) := by decide +kernel
theorem dX0_unitsOfSymbol_27 : decode cX0_unitsOfSymbol 27 = .ok (.iload 5, 2) := by decide +kernel
theorem dX0_unitsOfSymbol_29 : decode cX0_unitsOfSymbol 29 = .ok (.iload_n 1, 1) := by decide +kernel
theorem dX0_unitsOfSymbol_30 : decode cX0_unitsOfSymbol 30 = .ok (.invokevirtual 154, 3) := by decide +kernel
theorem dX0_unitsOfSymbol_33 : decode cX0_unitsOfSymbol 33 = .ok (.ladd, 1) := by decide +kernel
theorem dX0_unitsOfSymbol_34 : decode cX0_unitsOfSymbol 34 = .ok (.lstore_n 3, 1) := by decide +kernel
theorem dX0_unitsOfSymbol_35 : decode cX0_unitsOfSymbol 35 = .ok (.iinc 5 1, 3) := by decide +kernel
theorem dX0_unitsOfSymbol_38 : decode cX0_unitsOfSymbol 38 = .ok (.goto (-33), 3) := by decide +kernel
theorem dX0_unitsOfSymbol_41 : decode cX0_unitsOfSymbol 41 = .ok (.lload_n 3, 1) := by decide +kernel
theorem dX0_unitsOfSymbol_42 : decode cX0_unitsOfSymbol 42 = .ok (.lreturn, 1) := by decide +kernel
theorem dX0_unitsOfRow_0 : decode cX0_unitsOfRow 0 = .ok (.lconst 0, 1) := by decide +kernel
theorem dX0_unitsOfRow_1 : decode cX0_unitsOfRow 1 = .ok (.lstore_n 3, 1) := by decide +kernel
theorem dX0_unitsOfRow_2 : decode cX0_unitsOfRow 2 = .ok (.iconst 0, 1) := by decide +kernel
theorem dX0_unitsOfRow_3 : decode cX0_unitsOfRow 3 = .ok (.istore 5, 2) := by decide +kernel
theorem dX0_unitsOfRow_5 : decode cX0_unitsOfRow 5 = .ok (.iload 5, 2) := by decide +kernel
theorem dX0_unitsOfRow_7 : decode cX0_unitsOfRow 7 = .ok (.aload_n 0, 1) := by decide +kernel
theorem dX0_unitsOfRow_8 : decode cX0_unitsOfRow 8 = .ok (.iload_n 1, 1) := by decide +kernel
theorem dX0_unitsOfRow_9 : decode cX0_unitsOfRow 9 = .ok (.invokevirtual 126, 3) := by decide +kernel
theorem dX0_unitsOfRow_12 : decode cX0_unitsOfRow 12 = .ok (.if_icmp .ge 20, 3) := by decide +kernel
theorem dX0_unitsOfRow_15 : decode cX0_unitsOfRow 15 = .ok (.lload_n 3, 1) := by decide +kernel
theorem dX0_unitsOfRow_16 : decode cX0_unitsOfRow 16 = .ok (.aload_n 0, 1) := by decide +kernel
theorem dX0_unitsOfRow_17 : decode cX0_unitsOfRow 17 = .ok (.iload_n 1, 1) := by decide +kernel
theorem dX0_unitsOfRow_18 : decode cX0_unitsOfRow 18 = .ok (.iload_n 2, 1) := by decide +kernel
theorem dX0_unitsOfRow_19 : decode cX0_unitsOfRow 19 = .ok (.iload 5, 2) := by decide +kernel
theorem dX0_unitsOfRow_21 : decode cX0_unitsOfRow 21 = .ok (.invokevirtual 77, 3) := by decide +kernel
theorem dX0_unitsOfRow_24 : decode cX0_unitsOfRow 24 = .ok (.ladd, 1) := by decide +kernel
theorem dX0_unitsOfRow_25 : decode cX0_unitsOfRow 25 = .ok (.lstore_n 3, 1) := by decide +kernel
theorem dX0_unitsOfRow_26 : decode cX0_unitsOfRow 26 = .ok (.iinc 5 1, 3) := by decide +kernel
theorem dX0_unitsOfRow_29 : decode cX0_unitsOfRow 29 = .ok (.goto (-24), 3) := by decide +kernel
theorem dX0_unitsOfRow_32 : decode cX0_unitsOfRow 32 = .ok (.lload_n 3, 1) := by decide +kernel
theorem dX0_unitsOfRow_33 : decode cX0_unitsOfRow 33 = .ok (.lreturn, 1) := by decide +kernel
theorem dX0_weightOfRow_0 : decode cX0_weightOfRow 0 = .ok (.lconst 0, 1) := by decide +kernel
theorem dX0_weightOfRow_1 : decode cX0_weightOfRow 1 = .ok (.lstore_n 3, 1) := by decide +kernel
theorem dX0_weightOfRow_2 : decode cX0_weightOfRow 2 = .ok (.iconst 0, 1) := by decide +kernel
theorem dX0_weightOfRow_3 : decode cX0_weightOfRow 3 = .ok (.istore 5, 2) := by decide +kernel
theorem dX0_weightOfRow_5 : decode cX0_weightOfRow 5 = .ok (.iload 5, 2) := by decide +kernel
theorem dX0_weightOfRow_7 : decode cX0_weightOfRow 7 = .ok (.aload_n 0, 1) := by decide +kernel
theorem dX0_weightOfRow_8 : decode cX0_weightOfRow 8 = .ok (.iload_n 1, 1) := by decide +kernel
theorem dX0_weightOfRow_9 : decode cX0_weightOfRow 9 = .ok (.invokevirtual 126, 3) := by decide +kernel
theorem dX0_weightOfRow_12 : decode cX0_weightOfRow 12 = .ok (.if_icmp .ge 25, 3) := by decide +kernel
theorem dX0_weightOfRow_15 : decode cX0_weightOfRow 15 = .ok (.lload_n 3, 1) := by decide +kernel
theorem dX0_weightOfRow_16 : decode cX0_weightOfRow 16 = .ok (.aload_n 0, 1) := by decide +kernel
theorem dX0_weightOfRow_17 : decode cX0_weightOfRow 17 = .ok (.getfield 9, 3) := by decide +kernel
theorem dX0_weightOfRow_20 : decode cX0_weightOfRow 20 = .ok (.iload_n 1, 1) := by decide +kernel
theorem dX0_weightOfRow_21 : decode cX0_weightOfRow 21 = .ok (.iload_n 2, 1) := by decide +kernel
theorem dX0_weightOfRow_22 : decode cX0_weightOfRow 22 = .ok (.iload 5, 2) := by decide +kernel
theorem dX0_weightOfRow_24 : decode cX0_weightOfRow 24 = .ok (.invokestatic 43, 3) := by decide +kernel
theorem dX0_weightOfRow_27 : decode cX0_weightOfRow 27 = .ok (.iaload, 1) := by decide +kernel
theorem dX0_weightOfRow_28 : decode cX0_weightOfRow 28 = .ok (.i2l, 1) := by decide +kernel
theorem dX0_weightOfRow_29 : decode cX0_weightOfRow 29 = .ok (.ladd, 1) := by decide +kernel
theorem dX0_weightOfRow_30 : decode cX0_weightOfRow 30 = .ok (.lstore_n 3, 1) := by decide +kernel
theorem dX0_weightOfRow_31 : decode cX0_weightOfRow 31 = .ok (.iinc 5 1, 3) := by decide +kernel
theorem dX0_weightOfRow_34 : decode cX0_weightOfRow 34 = .ok (.goto (-29), 3) := by decide +kernel
theorem dX0_weightOfRow_37 : decode cX0_weightOfRow 37 = .ok (.lload_n 3, 1) := by decide +kernel
theorem dX0_weightOfRow_38 : decode cX0_weightOfRow 38 = .ok (.lreturn, 1) := by decide +kernel
theorem dX0_learnedPortion_0 : decode cX0_learnedPortion 0 = .ok (.lload 4, 2) := by decide +kernel
theorem dX0_learnedPortion_2 : decode cX0_learnedPortion 2 = .ok (.lconst 0, 1) := by decide +kernel
theorem dX0_learnedPortion_3 : decode cX0_learnedPortion 3 = .ok (.lcmp, 1) := by decide +kernel
theorem dX0_learnedPortion_4 : decode cX0_learnedPortion 4 = .ok (.ifCond .eq 13, 3) := by decide +kernel
theorem dX0_learnedPortion_7 : decode cX0_learnedPortion 7 = .ok (.aload_n 0, 1) := by decide +kernel
theorem dX0_learnedPortion_8 : decode cX0_learnedPortion 8 = .ok (.iload_n 1, 1) := by decide +kernel
theorem dX0_learnedPortion_9 : decode cX0_learnedPortion 9 = .ok (.iload_n 2, 1) := by decide +kernel
theorem dX0_learnedPortion_10 : decode cX0_learnedPortion 10 = .ok (.iload_n 3, 1) := by decide +kernel
theorem dX0_learnedPortion_11 : decode cX0_learnedPortion 11 = .ok (.invokevirtual 77, 3) := by decide +kernel
theorem dX0_learnedPortion_14 : decode cX0_learnedPortion 14 = .ok (.goto 15, 3) := by decide +kernel
theorem dX0_learnedPortion_17 : decode cX0_learnedPortion 17 = .ok (.aload_n 0, 1) := by decide +kernel
theorem dX0_learnedPortion_18 : decode cX0_learnedPortion 18 = .ok (.getfield 9, 3) := by decide +kernel
theorem dX0_learnedPortion_21 : decode cX0_learnedPortion 21 = .ok (.iload_n 1, 1) := by decide +kernel
theorem dX0_learnedPortion_22 : decode cX0_learnedPortion 22 = .ok (.iload_n 2, 1) := by decide +kernel
theorem dX0_learnedPortion_23 : decode cX0_learnedPortion 23 = .ok (.iload_n 3, 1) := by decide +kernel
theorem dX0_learnedPortion_24 : decode cX0_learnedPortion 24 = .ok (.invokestatic 43, 3) := by decide +kernel
theorem dX0_learnedPortion_27 : decode cX0_learnedPortion 27 = .ok (.iaload, 1) := by decide +kernel
theorem dX0_learnedPortion_28 : decode cX0_learnedPortion 28 = .ok (.i2l, 1) := by decide +kernel
theorem dX0_learnedPortion_29 : decode cX0_learnedPortion 29 = .ok (.lreturn, 1) := by decide +kernel
theorem dX0_learnedWhole_0 : decode cX0_learnedWhole 0 = .ok (.lload_n 3, 1) := by decide +kernel
theorem dX0_learnedWhole_1 : decode cX0_learnedWhole 1 = .ok (.lconst 0, 1) := by decide +kernel
theorem dX0_learnedWhole_2 : decode cX0_learnedWhole 2 = .ok (.lcmp, 1) := by decide +kernel
theorem dX0_learnedWhole_3 : decode cX0_learnedWhole 3 = .ok (.ifCond .eq 7, 3) := by decide +kernel
theorem dX0_learnedWhole_6 : decode cX0_learnedWhole 6 = .ok (.lload_n 3, 1) := by decide +kernel
theorem dX0_learnedWhole_7 : decode cX0_learnedWhole 7 = .ok (.goto 9, 3) := by decide +kernel
theorem dX0_learnedWhole_10 : decode cX0_learnedWhole 10 = .ok (.aload_n 0, 1) := by decide +kernel
theorem dX0_learnedWhole_11 : decode cX0_learnedWhole 11 = .ok (.iload_n 1, 1) := by decide +kernel
theorem dX0_learnedWhole_12 : decode cX0_learnedWhole 12 = .ok (.iload_n 2, 1) := by decide +kernel
theorem dX0_learnedWhole_13 : decode cX0_learnedWhole 13 = .ok (.invokevirtual 163, 3) := by decide +kernel
theorem dX0_learnedWhole_16 : decode cX0_learnedWhole 16 = .ok (.lreturn, 1) := by decide +kernel
theorem dX0_learnRow_0 : decode cX0_learnRow 0 = .ok (.iconst 0, 1) := by decide +kernel
theorem dX0_learnRow_1 : decode cX0_learnRow 1 = .ok (.istore_n 3, 1) := by decide +kernel
theorem dX0_learnRow_2 : decode cX0_learnRow 2 = .ok (.aload_n 0, 1) := by decide +kernel
theorem dX0_learnRow_3 : decode cX0_learnRow 3 = .ok (.iload_n 1, 1) := by decide +kernel
theorem dX0_learnRow_4 : decode cX0_learnRow 4 = .ok (.iload_n 2, 1) := by decide +kernel
theorem dX0_learnRow_5 : decode cX0_learnRow 5 = .ok (.invokevirtual 89, 3) := by decide +kernel
theorem dX0_learnRow_8 : decode cX0_learnRow 8 = .ok (.lstore 4, 2) := by decide +kernel
theorem dX0_learnRow_10 : decode cX0_learnRow 10 = .ok (.aload_n 0, 1) := by decide +kernel
theorem dX0_learnRow_11 : decode cX0_learnRow 11 = .ok (.iload_n 1, 1) := by decide +kernel
theorem dX0_learnRow_12 : decode cX0_learnRow 12 = .ok (.iload_n 2, 1) := by decide +kernel
theorem dX0_learnRow_13 : decode cX0_learnRow 13 = .ok (.lload 4, 2) := by decide +kernel
theorem dX0_learnRow_15 : decode cX0_learnRow 15 = .ok (.invokevirtual 97, 3) := by decide +kernel
theorem dX0_learnRow_18 : decode cX0_learnRow 18 = .ok (.lstore 6, 2) := by decide +kernel
theorem dX0_learnRow_20 : decode cX0_learnRow 20 = .ok (.iconst 0, 1) := by decide +kernel
theorem dX0_learnRow_21 : decode cX0_learnRow 21 = .ok (.istore 8, 2) := by decide +kernel
theorem dX0_learnRow_23 : decode cX0_learnRow 23 = .ok (.iload 8, 2) := by decide +kernel
theorem dX0_learnRow_25 : decode cX0_learnRow 25 = .ok (.aload_n 0, 1) := by decide +kernel
theorem dX0_learnRow_26 : decode cX0_learnRow 26 = .ok (.iload_n 1, 1) := by decide +kernel
theorem dX0_learnRow_27 : decode cX0_learnRow 27 = .ok (.invokevirtual 126, 3) := by decide +kernel
theorem dX0_learnRow_30 : decode cX0_learnRow 30 = .ok (.if_icmp .ge 49, 3) := by decide +kernel
theorem dX0_learnRow_33 : decode cX0_learnRow 33 = .ok (.ldc2_w 166, 3) := by decide +kernel
theorem dX0_learnRow_36 : decode cX0_learnRow 36 = .ok (.aload_n 0, 1) := by decide +kernel
theorem dX0_learnRow_37 : decode cX0_learnRow 37 = .ok (.iload_n 1, 1) := by decide +kernel
theorem dX0_learnRow_38 : decode cX0_learnRow 38 = .ok (.iload_n 2, 1) := by decide +kernel
theorem dX0_learnRow_39 : decode cX0_learnRow 39 = .ok (.iload 8, 2) := by decide +kernel
theorem dX0_learnRow_41 : decode cX0_learnRow 41 = .ok (.lload 4, 2) := by decide +kernel
theorem dX0_learnRow_43 : decode cX0_learnRow 43 = .ok (.invokevirtual 93, 3) := by decide +kernel
theorem dX0_learnRow_46 : decode cX0_learnRow 46 = .ok (.lmul, 1) := by decide +kernel
theorem dX0_learnRow_47 : decode cX0_learnRow 47 = .ok (.lload 6, 2) := by decide +kernel
theorem dX0_learnRow_49 : decode cX0_learnRow 49 = .ok (.invokestatic 168, 3) := by decide +kernel
theorem dX0_learnRow_52 : decode cX0_learnRow 52 = .ok (.istore 9, 2) := by decide +kernel
theorem dX0_learnRow_54 : decode cX0_learnRow 54 = .ok (.aload_n 0, 1) := by decide +kernel
theorem dX0_learnRow_55 : decode cX0_learnRow 55 = .ok (.getfield 13, 3) := by decide +kernel
theorem dX0_learnRow_58 : decode cX0_learnRow 58 = .ok (.iload_n 1, 1) := by decide +kernel
theorem dX0_learnRow_59 : decode cX0_learnRow 59 = .ok (.iload_n 2, 1) := by decide +kernel
theorem dX0_learnRow_60 : decode cX0_learnRow 60 = .ok (.iload 8, 2) := by decide +kernel
theorem dX0_learnRow_62 : decode cX0_learnRow 62 = .ok (.invokestatic 43, 3) := by decide +kernel
theorem dX0_learnRow_65 : decode cX0_learnRow 65 = .ok (.iload 9, 2) := by decide +kernel
theorem dX0_learnRow_67 : decode cX0_learnRow 67 = .ok (.iastore, 1) := by decide +kernel
theorem dX0_learnRow_68 : decode cX0_learnRow 68 = .ok (.iload_n 3, 1) := by decide +kernel
theorem dX0_learnRow_69 : decode cX0_learnRow 69 = .ok (.iload 9, 2) := by decide +kernel
theorem dX0_learnRow_71 : decode cX0_learnRow 71 = .ok (.iadd, 1) := by decide +kernel
theorem dX0_learnRow_72 : decode cX0_learnRow 72 = .ok (.istore_n 3, 1) := by decide +kernel
theorem dX0_learnRow_73 : decode cX0_learnRow 73 = .ok (.iinc 8 1, 3) := by decide +kernel
theorem dX0_learnRow_76 : decode cX0_learnRow 76 = .ok (.goto (-53), 3) := by decide +kernel
theorem dX0_learnRow_79 : decode cX0_learnRow 79 = .ok (.iload_n 3, 1) := by decide +kernel
theorem dX0_learnRow_80 : decode cX0_learnRow 80 = .ok (.ireturn, 1) := by decide +kernel
theorem dX0_nearest_0 : decode cX0_nearest 0 = .ok (.lload_n 2, 1) := by decide +kernel
theorem dX0_nearest_1 : decode cX0_nearest 1 = .ok (.lconst 0, 1) := by decide +kernel
theorem dX0_nearest_2 : decode cX0_nearest 2 = .ok (.lcmp, 1) := by decide +kernel
theorem dX0_nearest_3 : decode cX0_nearest 3 = .ok (.ifCond .le 20, 3) := by decide +kernel
theorem dX0_nearest_6 : decode cX0_nearest 6 = .ok (.ldc2_w 172, 3) := by decide +kernel
theorem dX0_nearest_9 : decode cX0_nearest 9 = .ok (.lload_n 0, 1) := by decide +kernel
theorem dX0_nearest_10 : decode cX0_nearest 10 = .ok (.lmul, 1) := by decide +kernel
theorem dX0_nearest_11 : decode cX0_nearest 11 = .ok (.lload_n 2, 1) := by decide +kernel
theorem dX0_nearest_12 : decode cX0_nearest 12 = .ok (.ladd, 1) := by decide +kernel
theorem dX0_nearest_13 : decode cX0_nearest 13 = .ok (.ldc2_w 172, 3) := by decide +kernel
theorem dX0_nearest_16 : decode cX0_nearest 16 = .ok (.lload_n 2, 1) := by decide +kernel
theorem dX0_nearest_17 : decode cX0_nearest 17 = .ok (.lmul, 1) := by decide +kernel
theorem dX0_nearest_18 : decode cX0_nearest 18 = .ok (.ldiv, 1) := by decide +kernel
theorem dX0_nearest_19 : decode cX0_nearest 19 = .ok (.l2i, 1) := by decide +kernel
theorem dX0_nearest_20 : decode cX0_nearest 20 = .ok (.goto 4, 3) := by decide +kernel
theorem dX0_nearest_23 : decode cX0_nearest 23 = .ok (.iconst 0, 1) := by decide +kernel
theorem dX0_nearest_24 : decode cX0_nearest 24 = .ok (.ireturn, 1) := by decide +kernel
theorem dX0_partOf_0 : decode cX0_partOf 0 = .ok (.iload 4, 2) := by decide +kernel
theorem dX0_partOf_2 : decode cX0_partOf 2 = .ok (.ifCond .eq 11, 3) := by decide +kernel
theorem dX0_partOf_5 : decode cX0_partOf 5 = .ok (.iload 4, 2) := by decide +kernel
theorem dX0_partOf_7 : decode cX0_partOf 7 = .ok (.iconst 1, 1) := by decide +kernel
theorem dX0_partOf_8 : decode cX0_partOf 8 = .ok (.if_icmp .eq 5, 3) := by decide +kernel
theorem dX0_partOf_11 : decode cX0_partOf 11 = .ok (.lconst 0, 1) := by decide +kernel
theorem dX0_partOf_12 : decode cX0_partOf 12 = .ok (.lreturn, 1) := by decide +kernel
theorem dX0_partOf_13 : decode cX0_partOf 13 = .ok (.lload_n 0, 1) := by decide +kernel
theorem dX0_partOf_14 : decode cX0_partOf 14 = .ok (.lload_n 2, 1) := by decide +kernel
theorem dX0_partOf_15 : decode cX0_partOf 15 = .ok (.invokestatic 174, 3) := by decide +kernel
theorem dX0_partOf_18 : decode cX0_partOf 18 = .ok (.lstore 5, 2) := by decide +kernel
theorem dX0_partOf_20 : decode cX0_partOf 20 = .ok (.lload_n 0, 1) := by decide +kernel
theorem dX0_partOf_21 : decode cX0_partOf 21 = .ok (.lconst 0, 1) := by decide +kernel
theorem dX0_partOf_22 : decode cX0_partOf 22 = .ok (.lcmp, 1) := by decide +kernel
theorem dX0_partOf_23 : decode cX0_partOf 23 = .ok (.ifCond .eq 10, 3) := by decide +kernel
theorem dX0_partOf_26 : decode cX0_partOf 26 = .ok (.lload 5, 2) := by decide +kernel
theorem dX0_partOf_28 : decode cX0_partOf 28 = .ok (.lconst 0, 1) := by decide +kernel
theorem dX0_partOf_29 : decode cX0_partOf 29 = .ok (.lcmp, 1) := by decide +kernel
theorem dX0_partOf_30 : decode cX0_partOf 30 = .ok (.ifCond .ne 7, 3) := by decide +kernel
theorem dX0_partOf_33 : decode cX0_partOf 33 = .ok (.iload 4, 2) := by decide +kernel
theorem dX0_partOf_35 : decode cX0_partOf 35 = .ok (.i2l, 1) := by decide +kernel
theorem dX0_partOf_36 : decode cX0_partOf 36 = .ok (.lreturn, 1) := by decide +kernel
theorem dX0_partOf_37 : decode cX0_partOf 37 = .ok (.iload 4, 2) := by decide +kernel
theorem dX0_partOf_39 : decode cX0_partOf 39 = .ok (.ifCond .ne 7, 3) := by decide +kernel
theorem dX0_partOf_42 : decode cX0_partOf 42 = .ok (.lload_n 0, 1) := by decide +kernel
theorem dX0_partOf_43 : decode cX0_partOf 43 = .ok (.goto 4, 3) := by decide +kernel
theorem dX0_partOf_46 : decode cX0_partOf 46 = .ok (.lload_n 2, 1) := by decide +kernel
theorem dX0_partOf_47 : decode cX0_partOf 47 = .ok (.lload 5, 2) := by decide +kernel
theorem dX0_partOf_49 : decode cX0_partOf 49 = .ok (.ldiv, 1) := by decide +kernel
theorem dX0_partOf_50 : decode cX0_partOf 50 = .ok (.lreturn, 1) := by decide +kernel
theorem dX0_commonDivisor_0 : decode cX0_commonDivisor 0 = .ok (.lload_n 0, 1) := by decide +kernel
theorem dX0_commonDivisor_1 : decode cX0_commonDivisor 1 = .ok (.lstore 4, 2) := by decide +kernel
theorem dX0_commonDivisor_3 : decode cX0_commonDivisor 3 = .ok (.lload_n 2, 1) := by decide +kernel
theorem dX0_commonDivisor_4 : decode cX0_commonDivisor 4 = .ok (.lstore 6, 2) := by decide +kernel
theorem dX0_commonDivisor_6 : decode cX0_commonDivisor 6 = .ok (.iconst 0, 1) := by decide +kernel
theorem dX0_commonDivisor_7 : decode cX0_commonDivisor 7 = .ok (.istore 8, 2) := by decide +kernel
theorem dX0_commonDivisor_9 : decode cX0_commonDivisor 9 = .ok (.iload 8, 2) := by decide +kernel
theorem dX0_commonDivisor_11 : decode cX0_commonDivisor 11 = .ok (.sipush 1000, 3) := by decide +kernel
theorem dX0_commonDivisor_14 : decode cX0_commonDivisor 14 = .ok (.if_icmp .ge 31, 3) := by decide +kernel
theorem dX0_commonDivisor_17 : decode cX0_commonDivisor 17 = .ok (.lload 6, 2) := by decide +kernel
theorem dX0_commonDivisor_19 : decode cX0_commonDivisor 19 = .ok (.lconst 0, 1) := by decide +kernel
theorem dX0_commonDivisor_20 : decode cX0_commonDivisor 20 = .ok (.lcmp, 1) := by decide +kernel
theorem dX0_commonDivisor_21 : decode cX0_commonDivisor 21 = .ok (.ifCond .eq 24, 3) := by decide +kernel
theorem dX0_commonDivisor_24 : decode cX0_commonDivisor 24 = .ok (.lload 4, 2) := by decide +kernel
theorem dX0_commonDivisor_26 : decode cX0_commonDivisor 26 = .ok (.lload 6, 2) := by decide +kernel
theorem dX0_commonDivisor_28 : decode cX0_commonDivisor 28 = .ok (.lrem, 1) := by decide +kernel
theorem dX0_commonDivisor_29 : decode cX0_commonDivisor 29 = .ok (.lstore 9, 2) := by decide +kernel
theorem dX0_commonDivisor_31 : decode cX0_commonDivisor 31 = .ok (.lload 6, 2) := by decide +kernel
theorem dX0_commonDivisor_33 : decode cX0_commonDivisor 33 = .ok (.lstore 4, 2) := by decide +kernel
theorem dX0_commonDivisor_35 : decode cX0_commonDivisor 35 = .ok (.lload 9, 2) := by decide +kernel
theorem dX0_commonDivisor_37 : decode cX0_commonDivisor 37 = .ok (.lstore 6, 2) := by decide +kernel
theorem dX0_commonDivisor_39 : decode cX0_commonDivisor 39 = .ok (.iinc 8 1, 3) := by decide +kernel
theorem dX0_commonDivisor_42 : decode cX0_commonDivisor 42 = .ok (.goto (-33), 3) := by decide +kernel
theorem dX0_commonDivisor_45 : decode cX0_commonDivisor 45 = .ok (.lload 4, 2) := by decide +kernel
theorem dX0_commonDivisor_47 : decode cX0_commonDivisor 47 = .ok (.lreturn, 1) := by decide +kernel
theorem dJ7_fill_0 : decode cJ7_fill 0 = .ok (.iconst 0, 1) := by decide +kernel
theorem dJ7_fill_1 : decode cJ7_fill 1 = .ok (.istore_n 2, 1) := by decide +kernel
theorem dJ7_fill_2 : decode cJ7_fill 2 = .ok (.aload_n 0, 1) := by decide +kernel
theorem dJ7_fill_3 : decode cJ7_fill 3 = .ok (.arraylength, 1) := by decide +kernel
theorem dJ7_fill_4 : decode cJ7_fill 4 = .ok (.istore_n 3, 1) := by decide +kernel
theorem dJ7_fill_5 : decode cJ7_fill 5 = .ok (.iload_n 2, 1) := by decide +kernel
theorem dJ7_fill_6 : decode cJ7_fill 6 = .ok (.iload_n 3, 1) := by decide +kernel
theorem dJ7_fill_7 : decode cJ7_fill 7 = .ok (.if_icmp .ge 13, 3) := by decide +kernel
theorem dJ7_fill_10 : decode cJ7_fill 10 = .ok (.aload_n 0, 1) := by decide +kernel
theorem dJ7_fill_11 : decode cJ7_fill 11 = .ok (.iload_n 2, 1) := by decide +kernel
theorem dJ7_fill_12 : decode cJ7_fill 12 = .ok (.iload_n 1, 1) := by decide +kernel
theorem dJ7_fill_13 : decode cJ7_fill 13 = .ok (.iastore, 1) := by decide +kernel
theorem dJ7_fill_14 : decode cJ7_fill 14 = .ok (.iinc 2 1, 3) := by decide +kernel
theorem dJ7_fill_17 : decode cJ7_fill 17 = .ok (.goto (-12), 3) := by decide +kernel
theorem dJ7_fill_20 : decode cJ7_fill 20 = .ok (.return_, 1) := by decide +kernel
end
section
theorem dX1_init_0 : decode cX1_init 0 = .ok (.aload_n 0, 1) := by decide +kernel
theorem dX1_init_1 : decode cX1_init 1 = .ok (.invokespecial 1, 3) := by decide +kernel
theorem dX1_init_4 : decode cX1_init 4 = .ok (.aload_n 0, 1) := by decide +kernel
theorem dX1_init_5 : decode cX1_init 5 = .ok (.iconst 1, 1) := by decide +kernel
theorem dX1_init_6 : decode cX1_init 6 = .ok (.putfield 7, 3) := by decide +kernel
theorem dX1_init_9 : decode cX1_init 9 = .ok (.aload_n 0, 1) := by decide +kernel
theorem dX1_init_10 : decode cX1_init 10 = .ok (.iconst 1, 1) := by decide +kernel
theorem dX1_init_11 : decode cX1_init 11 = .ok (.putfield 13, 3) := by decide +kernel
theorem dX1_init_14 : decode cX1_init 14 = .ok (.aload_n 0, 1) := by decide +kernel
theorem dX1_init_15 : decode cX1_init 15 = .ok (.bipush 24, 2) := by decide +kernel
theorem dX1_init_17 : decode cX1_init 17 = .ok (.newarray .int, 2) := by decide +kernel
theorem dX1_init_19 : decode cX1_init 19 = .ok (.putfield 16, 3) := by decide +kernel
theorem dX1_init_22 : decode cX1_init 22 = .ok (.aload_n 0, 1) := by decide +kernel
theorem dX1_init_23 : decode cX1_init 23 = .ok (.bipush 6, 2) := by decide +kernel
theorem dX1_init_25 : decode cX1_init 25 = .ok (.newarray .int, 2) := by decide +kernel
theorem dX1_init_27 : decode cX1_init 27 = .ok (.putfield 20, 3) := by decide +kernel
theorem dX1_init_30 : decode cX1_init 30 = .ok (.aload_n 0, 1) := by decide +kernel
theorem dX1_init_31 : decode cX1_init 31 = .ok (.bipush 6, 2) := by decide +kernel
theorem dX1_init_33 : decode cX1_init 33 = .ok (.newarray .int, 2) := by decide +kernel
theorem dX1_init_35 : decode cX1_init 35 = .ok (.putfield 23, 3) := by decide +kernel
theorem dX1_init_38 : decode cX1_init 38 = .ok (.aload_n 0, 1) := by decide +kernel
theorem dX1_init_39 : decode cX1_init 39 = .ok (.bipush 6, 2) := by decide +kernel
theorem dX1_init_41 : decode cX1_init 41 = .ok (.newarray .int, 2) := by decide +kernel
theorem dX1_init_43 : decode cX1_init 43 = .ok (.putfield 26, 3) := by decide +kernel
theorem dX1_init_46 : decode cX1_init 46 = .ok (.aload_n 0, 1) := by decide +kernel
theorem dX1_init_47 : decode cX1_init 47 = .ok (.sipush 729, 3) := by decide +kernel
theorem dX1_init_50 : decode cX1_init 50 = .ok (.newarray .long, 2) := by decide +kernel
theorem dX1_init_52 : decode cX1_init 52 = .ok (.putfield 29, 3) := by decide +kernel
theorem dX1_init_55 : decode cX1_init 55 = .ok (.aload_n 0, 1) := by decide +kernel
theorem dX1_init_56 : decode cX1_init 56 = .ok (.bipush 24, 2) := by decide +kernel
theorem dX1_init_58 : decode cX1_init 58 = .ok (.newarray .int, 2) := by decide +kernel
theorem dX1_init_60 : decode cX1_init 60 = .ok (.putfield 33, 3) := by decide +kernel
theorem dX1_init_63 : decode cX1_init 63 = .ok (.aload_n 0, 1) := by decide +kernel
theorem dX1_init_64 : decode cX1_init 64 = .ok (.invokevirtual 36, 3) := by decide +kernel
theorem dX1_init_67 : decode cX1_init 67 = .ok (.return_, 1) := by decide +kernel
theorem dX1_clear_0 : decode cX1_clear 0 = .ok (.iconst 0, 1) := by decide +kernel
theorem dX1_clear_1 : decode cX1_clear 1 = .ok (.istore_n 1, 1) := by decide +kernel
theorem dX1_clear_2 : decode cX1_clear 2 = .ok (.iload_n 1, 1) := by decide +kernel
theorem dX1_clear_3 : decode cX1_clear 3 = .ok (.bipush 24, 2) := by decide +kernel
theorem dX1_clear_5 : decode cX1_clear 5 = .ok (.if_icmp .ge 16, 3) := by decide +kernel
theorem dX1_clear_8 : decode cX1_clear 8 = .ok (.aload_n 0, 1) := by decide +kernel
theorem dX1_clear_9 : decode cX1_clear 9 = .ok (.getfield 16, 3) := by decide +kernel
theorem dX1_clear_12 : decode cX1_clear 12 = .ok (.iload_n 1, 1) := by decide +kernel
theorem dX1_clear_13 : decode cX1_clear 13 = .ok (.iconst 1, 1) := by decide +kernel
theorem dX1_clear_14 : decode cX1_clear 14 = .ok (.iastore, 1) := by decide +kernel
theorem dX1_clear_15 : decode cX1_clear 15 = .ok (.iinc 1 1, 3) := by decide +kernel
theorem dX1_clear_18 : decode cX1_clear 18 = .ok (.goto (-16), 3) := by decide +kernel
theorem dX1_clear_21 : decode cX1_clear 21 = .ok (.aload_n 0, 1) := by decide +kernel
theorem dX1_clear_22 : decode cX1_clear 22 = .ok (.iconst 0, 1) := by decide +kernel
theorem dX1_clear_23 : decode cX1_clear 23 = .ok (.putfield 39, 3) := by decide +kernel
theorem dX1_clear_26 : decode cX1_clear 26 = .ok (.aload_n 0, 1) := by decide +kernel
theorem dX1_clear_27 : decode cX1_clear 27 = .ok (.iconst 0, 1) := by decide +kernel
theorem dX1_clear_28 : decode cX1_clear 28 = .ok (.putfield 42, 3) := by decide +kernel
theorem dX1_clear_31 : decode cX1_clear 31 = .ok (.return_, 1) := by decide +kernel
theorem dX1_size_0 : decode cX1_size 0 = .ok (.iload_n 1, 1) := by decide +kernel
theorem dX1_size_1 : decode cX1_size 1 = .ok (.iconst 1, 1) := by decide +kernel
theorem dX1_size_2 : decode cX1_size 2 = .ok (.if_icmp .lt 18, 3) := by decide +kernel
theorem dX1_size_5 : decode cX1_size 5 = .ok (.iload_n 1, 1) := by decide +kernel
theorem dX1_size_6 : decode cX1_size 6 = .ok (.iconst 3, 1) := by decide +kernel
theorem dX1_size_7 : decode cX1_size 7 = .ok (.if_icmp .gt 13, 3) := by decide +kernel
theorem dX1_size_10 : decode cX1_size 10 = .ok (.iload_n 2, 1) := by decide +kernel
theorem dX1_size_11 : decode cX1_size 11 = .ok (.iconst 1, 1) := by decide +kernel
theorem dX1_size_12 : decode cX1_size 12 = .ok (.if_icmp .lt 8, 3) := by decide +kernel
theorem dX1_size_15 : decode cX1_size 15 = .ok (.iload_n 2, 1) := by decide +kernel
theorem dX1_size_16 : decode cX1_size 16 = .ok (.iconst 4, 1) := by decide +kernel
theorem dX1_size_17 : decode cX1_size 17 = .ok (.if_icmp .le 5, 3) := by decide +kernel
theorem dX1_size_20 : decode cX1_size 20 = .ok (.iconst 0, 1) := by decide +kernel
theorem dX1_size_21 : decode cX1_size 21 = .ok (.ireturn, 1) := by decide +kernel
theorem dX1_size_22 : decode cX1_size 22 = .ok (.aload_n 0, 1) := by decide +kernel
theorem dX1_size_23 : decode cX1_size 23 = .ok (.iload_n 1, 1) := by decide +kernel
theorem dX1_size_24 : decode cX1_size 24 = .ok (.putfield 7, 3) := by decide +kernel
theorem dX1_size_27 : decode cX1_size 27 = .ok (.aload_n 0, 1) := by decide +kernel
theorem dX1_size_28 : decode cX1_size 28 = .ok (.iload_n 2, 1) := by decide +kernel
theorem dX1_size_29 : decode cX1_size 29 = .ok (.putfield 13, 3) := by decide +kernel
theorem dX1_size_32 : decode cX1_size 32 = .ok (.aload_n 0, 1) := by decide +kernel
theorem dX1_size_33 : decode cX1_size 33 = .ok (.invokevirtual 36, 3) := by decide +kernel
theorem dX1_size_36 : decode cX1_size 36 = .ok (.iconst 1, 1) := by decide +kernel
theorem dX1_size_37 : decode cX1_size 37 = .ok (.ireturn, 1) := by decide +kernel
theorem dX1_state_0 : decode cX1_state 0 = .ok (.iload_n 1, 1) := by decide +kernel
theorem dX1_state_1 : decode cX1_state 1 = .ok (.ifCond .lt 15, 3) := by decide +kernel
theorem dX1_state_4 : decode cX1_state 4 = .ok (.iload_n 1, 1) := by decide +kernel
theorem dX1_state_5 : decode cX1_state 5 = .ok (.aload_n 0, 1) := by decide +kernel
theorem dX1_state_6 : decode cX1_state 6 = .ok (.getfield 7, 3) := by decide +kernel
theorem dX1_state_9 : decode cX1_state 9 = .ok (.if_icmp .ge 7, 3) := by decide +kernel
theorem dX1_state_12 : decode cX1_state 12 = .ok (.iconst 1, 1) := by decide +kernel
theorem dX1_state_13 : decode cX1_state 13 = .ok (.goto 4, 3) := by decide +kernel
theorem dX1_state_16 : decode cX1_state 16 = .ok (.iconst 0, 1) := by decide +kernel
theorem dX1_state_17 : decode cX1_state 17 = .ok (.ireturn, 1) := by decide +kernel
theorem dX1_isSymbol_0 : decode cX1_isSymbol 0 = .ok (.iload_n 1, 1) := by decide +kernel
theorem dX1_isSymbol_1 : decode cX1_isSymbol 1 = .ok (.ifCond .lt 15, 3) := by decide +kernel
theorem dX1_isSymbol_4 : decode cX1_isSymbol 4 = .ok (.iload_n 1, 1) := by decide +kernel
theorem dX1_isSymbol_5 : decode cX1_isSymbol 5 = .ok (.aload_n 0, 1) := by decide +kernel
theorem dX1_isSymbol_6 : decode cX1_isSymbol 6 = .ok (.getfield 13, 3) := by decide +kernel
theorem dX1_isSymbol_9 : decode cX1_isSymbol 9 = .ok (.if_icmp .ge 7, 3) := by decide +kernel
theorem dX1_isSymbol_12 : decode cX1_isSymbol 12 = .ok (.iconst 1, 1) := by decide +kernel
theorem dX1_isSymbol_13 : decode cX1_isSymbol 13 = .ok (.goto 4, 3) := by decide +kernel
theorem dX1_isSymbol_16 : decode cX1_isSymbol 16 = .ok (.iconst 0, 1) := by decide +kernel
theorem dX1_isSymbol_17 : decode cX1_isSymbol 17 = .ok (.ireturn, 1) := by decide +kernel
theorem dX1_slot_0 : decode cX1_slot 0 = .ok (.iload_n 1, 1) := by decide +kernel
theorem dX1_slot_1 : decode cX1_slot 1 = .ok (.ifCond .ne 21, 3) := by decide +kernel
theorem dX1_slot_4 : decode cX1_slot 4 = .ok (.iload_n 2, 1) := by decide +kernel
theorem dX1_slot_5 : decode cX1_slot 5 = .ok (.ifCond .ne 15, 3) := by decide +kernel
theorem dX1_slot_8 : decode cX1_slot 8 = .ok (.aload_n 0, 1) := by decide +kernel
theorem dX1_slot_9 : decode cX1_slot 9 = .ok (.iload_n 3, 1) := by decide +kernel
theorem dX1_slot_10 : decode cX1_slot 10 = .ok (.invokevirtual 46, 3) := by decide +kernel
theorem dX1_slot_13 : decode cX1_slot 13 = .ok (.ifCond .eq 7, 3) := by decide +kernel
theorem dX1_slot_16 : decode cX1_slot 16 = .ok (.iload_n 3, 1) := by decide +kernel
theorem dX1_slot_17 : decode cX1_slot 17 = .ok (.goto 4, 3) := by decide +kernel
theorem dX1_slot_20 : decode cX1_slot 20 = .ok (.iconst (-1), 1) := by decide +kernel
theorem dX1_slot_21 : decode cX1_slot 21 = .ok (.ireturn, 1) := by decide +kernel
theorem dX1_slot_22 : decode cX1_slot 22 = .ok (.aload_n 0, 1) := by decide +kernel
theorem dX1_slot_23 : decode cX1_slot 23 = .ok (.iload_n 2, 1) := by decide +kernel
theorem dX1_slot_24 : decode cX1_slot 24 = .ok (.invokevirtual 46, 3) := by decide +kernel
theorem dX1_slot_27 : decode cX1_slot 27 = .ok (.ifCond .ne 5, 3) := by decide +kernel
theorem dX1_slot_30 : decode cX1_slot 30 = .ok (.iconst (-1), 1) := by decide +kernel
theorem dX1_slot_31 : decode cX1_slot 31 = .ok (.ireturn, 1) := by decide +kernel
theorem dX1_slot_32 : decode cX1_slot 32 = .ok (.iload_n 1, 1) := by decide +kernel
theorem dX1_slot_33 : decode cX1_slot 33 = .ok (.iconst 1, 1) := by decide +kernel
theorem dX1_slot_34 : decode cX1_slot 34 = .ok (.if_icmp .ne 23, 3) := by decide +kernel
theorem dX1_slot_37 : decode cX1_slot 37 = .ok (.aload_n 0, 1) := by decide +kernel
theorem dX1_slot_38 : decode cX1_slot 38 = .ok (.iload_n 3, 1) := by decide +kernel
theorem dX1_slot_39 : decode cX1_slot 39 = .ok (.invokevirtual 46, 3) := by decide +kernel
theorem dX1_slot_42 : decode cX1_slot 42 = .ok (.ifCond .eq 13, 3) := by decide +kernel
theorem dX1_slot_45 : decode cX1_slot 45 = .ok (.iconst 3, 1) := by decide +kernel
theorem dX1_slot_46 : decode cX1_slot 46 = .ok (.iconst 3, 1) := by decide +kernel
theorem dX1_slot_47 : decode cX1_slot 47 = .ok (.iload_n 2, 1) := by decide +kernel
theorem dX1_slot_48 : decode cX1_slot 48 = .ok (.imul, 1) := by decide +kernel
theorem dX1_slot_49 : decode cX1_slot 49 = .ok (.iadd, 1) := by decide +kernel
theorem dX1_slot_50 : decode cX1_slot 50 = .ok (.iload_n 3, 1) := by decide +kernel
theorem dX1_slot_51 : decode cX1_slot 51 = .ok (.iadd, 1) := by decide +kernel
theorem dX1_slot_52 : decode cX1_slot 52 = .ok (.goto 4, 3) := by decide +kernel
theorem dX1_slot_55 : decode cX1_slot 55 = .ok (.iconst (-1), 1) := by decide +kernel
theorem dX1_slot_56 : decode cX1_slot 56 = .ok (.ireturn, 1) := by decide +kernel
theorem dX1_slot_57 : decode cX1_slot 57 = .ok (.iload_n 1, 1) := by decide +kernel
theorem dX1_slot_58 : decode cX1_slot 58 = .ok (.iconst 2, 1) := by decide +kernel
theorem dX1_slot_59 : decode cX1_slot 59 = .ok (.if_icmp .ne 22, 3) := by decide +kernel
theorem dX1_slot_62 : decode cX1_slot 62 = .ok (.aload_n 0, 1) := by decide +kernel
theorem dX1_slot_63 : decode cX1_slot 63 = .ok (.iload_n 3, 1) := by decide +kernel
theorem dX1_slot_64 : decode cX1_slot 64 = .ok (.invokevirtual 50, 3) := by decide +kernel
theorem dX1_slot_67 : decode cX1_slot 67 = .ok (.ifCond .eq 14, 3) := by decide +kernel
theorem dX1_slot_70 : decode cX1_slot 70 = .ok (.bipush 12, 2) := by decide +kernel
theorem dX1_slot_72 : decode cX1_slot 72 = .ok (.iconst 4, 1) := by decide +kernel
theorem dX1_slot_73 : decode cX1_slot 73 = .ok (.iload_n 2, 1) := by decide +kernel
theorem dX1_slot_74 : decode cX1_slot 74 = .ok (.imul, 1) := by decide +kernel
theorem dX1_slot_75 : decode cX1_slot 75 = .ok (.iadd, 1) := by decide +kernel
theorem dX1_slot_76 : decode cX1_slot 76 = .ok (.iload_n 3, 1) := by decide +kernel
theorem dX1_slot_77 : decode cX1_slot 77 = .ok (.iadd, 1) := by decide +kernel
theorem dX1_slot_78 : decode cX1_slot 78 = .ok (.goto 4, 3) := by decide +kernel
theorem dX1_slot_81 : decode cX1_slot 81 = .ok (.iconst (-1), 1) := by decide +kernel
theorem dX1_slot_82 : decode cX1_slot 82 = .ok (.ireturn, 1) := by decide +kernel
theorem dX1_weigh_0 : decode cX1_weigh 0 = .ok (.aload_n 0, 1) := by decide +kernel
theorem dX1_weigh_1 : decode cX1_weigh 1 = .ok (.iload_n 1, 1) := by decide +kernel
theorem dX1_weigh_2 : decode cX1_weigh 2 = .ok (.iload_n 2, 1) := by decide +kernel
theorem dX1_weigh_3 : decode cX1_weigh 3 = .ok (.iload_n 3, 1) := by decide +kernel
theorem dX1_weigh_4 : decode cX1_weigh 4 = .ok (.invokevirtual 53, 3) := by decide +kernel
theorem dX1_weigh_7 : decode cX1_weigh 7 = .ok (.istore 5, 2) := by decide +kernel
theorem dX1_weigh_9 : decode cX1_weigh 9 = .ok (.iload 5, 2) := by decide +kernel
theorem dX1_weigh_11 : decode cX1_weigh 11 = .ok (.ifCond .lt 15, 3) := by decide +kernel
theorem dX1_weigh_14 : decode cX1_weigh 14 = .ok (.iload 4, 2) := by decide +kernel
theorem dX1_weigh_16 : decode cX1_weigh 16 = .ok (.ifCond .lt 10, 3) := by decide +kernel
theorem dX1_weigh_19 : decode cX1_weigh 19 = .ok (.iload 4, 2) := by decide +kernel
theorem dX1_weigh_21 : decode cX1_weigh 21 = .ok (.bipush 9, 2) := by decide +kernel
theorem dX1_weigh_23 : decode cX1_weigh 23 = .ok (.if_icmp .le 5, 3) := by decide +kernel
theorem dX1_weigh_26 : decode cX1_weigh 26 = .ok (.iconst 0, 1) := by decide +kernel
theorem dX1_weigh_27 : decode cX1_weigh 27 = .ok (.ireturn, 1) := by decide +kernel
theorem dX1_weigh_28 : decode cX1_weigh 28 = .ok (.aload_n 0, 1) := by decide +kernel
theorem dX1_weigh_29 : decode cX1_weigh 29 = .ok (.getfield 16, 3) := by decide +kernel
theorem dX1_weigh_32 : decode cX1_weigh 32 = .ok (.iload 5, 2) := by decide +kernel
theorem dX1_weigh_34 : decode cX1_weigh 34 = .ok (.iload 4, 2) := by decide +kernel
theorem dX1_weigh_36 : decode cX1_weigh 36 = .ok (.iastore, 1) := by decide +kernel
theorem dX1_weigh_37 : decode cX1_weigh 37 = .ok (.iconst 1, 1) := by decide +kernel
theorem dX1_weigh_38 : decode cX1_weigh 38 = .ok (.ireturn, 1) := by decide +kernel
theorem dX1_weight_0 : decode cX1_weight 0 = .ok (.aload_n 0, 1) := by decide +kernel
theorem dX1_weight_1 : decode cX1_weight 1 = .ok (.iload_n 1, 1) := by decide +kernel
theorem dX1_weight_2 : decode cX1_weight 2 = .ok (.iload_n 2, 1) := by decide +kernel
theorem dX1_weight_3 : decode cX1_weight 3 = .ok (.iload_n 3, 1) := by decide +kernel
theorem dX1_weight_4 : decode cX1_weight 4 = .ok (.invokevirtual 53, 3) := by decide +kernel
theorem dX1_weight_7 : decode cX1_weight 7 = .ok (.istore 4, 2) := by decide +kernel
theorem dX1_weight_9 : decode cX1_weight 9 = .ok (.iload 4, 2) := by decide +kernel
theorem dX1_weight_11 : decode cX1_weight 11 = .ok (.ifCond .ge 7, 3) := by decide +kernel
theorem dX1_weight_14 : decode cX1_weight 14 = .ok (.iconst (-1), 1) := by decide +kernel
theorem dX1_weight_15 : decode cX1_weight 15 = .ok (.goto 10, 3) := by decide +kernel
theorem dX1_weight_18 : decode cX1_weight 18 = .ok (.aload_n 0, 1) := by decide +kernel
theorem dX1_weight_19 : decode cX1_weight 19 = .ok (.getfield 16, 3) := by decide +kernel
theorem dX1_weight_22 : decode cX1_weight 22 = .ok (.iload 4, 2) := by decide +kernel
theorem dX1_weight_24 : decode cX1_weight 24 = .ok (.iaload, 1) := by decide +kernel
theorem dX1_weight_25 : decode cX1_weight 25 = .ok (.ireturn, 1) := by decide +kernel
theorem dX1_see_0 : decode cX1_see 0 = .ok (.aload_n 0, 1) := by decide +kernel
theorem dX1_see_1 : decode cX1_see 1 = .ok (.iload_n 1, 1) := by decide +kernel
theorem dX1_see_2 : decode cX1_see 2 = .ok (.invokevirtual 50, 3) := by decide +kernel
theorem dX1_see_5 : decode cX1_see 5 = .ok (.ifCond .eq 12, 3) := by decide +kernel
theorem dX1_see_8 : decode cX1_see 8 = .ok (.aload_n 0, 1) := by decide +kernel
theorem dX1_see_9 : decode cX1_see 9 = .ok (.getfield 39, 3) := by decide +kernel
theorem dX1_see_12 : decode cX1_see 12 = .ok (.bipush 6, 2) := by decide +kernel
theorem dX1_see_14 : decode cX1_see 14 = .ok (.if_icmp .ne 5, 3) := by decide +kernel
theorem dX1_see_17 : decode cX1_see 17 = .ok (.iconst (-1), 1) := by decide +kernel
theorem dX1_see_18 : decode cX1_see 18 = .ok (.ireturn, 1) := by decide +kernel
theorem dX1_see_19 : decode cX1_see 19 = .ok (.aload_n 0, 1) := by decide +kernel
theorem dX1_see_20 : decode cX1_see 20 = .ok (.getfield 20, 3) := by decide +kernel
theorem dX1_see_23 : decode cX1_see 23 = .ok (.aload_n 0, 1) := by decide +kernel
theorem dX1_see_24 : decode cX1_see 24 = .ok (.getfield 39, 3) := by decide +kernel
theorem dX1_see_27 : decode cX1_see 27 = .ok (.iload_n 1, 1) := by decide +kernel
theorem dX1_see_28 : decode cX1_see 28 = .ok (.iastore, 1) := by decide +kernel
theorem dX1_see_29 : decode cX1_see 29 = .ok (.aload_n 0, 1) := by decide +kernel
theorem dX1_see_30 : decode cX1_see 30 = .ok (.dup, 1) := by decide +kernel
theorem dX1_see_31 : decode cX1_see 31 = .ok (.getfield 39, 3) := by decide +kernel
theorem dX1_see_34 : decode cX1_see 34 = .ok (.iconst 1, 1) := by decide +kernel
theorem dX1_see_35 : decode cX1_see 35 = .ok (.iadd, 1) := by decide +kernel
theorem dX1_see_36 : decode cX1_see 36 = .ok (.putfield 39, 3) := by decide +kernel
theorem dX1_see_39 : decode cX1_see 39 = .ok (.aload_n 0, 1) := by decide +kernel
theorem dX1_see_40 : decode cX1_see 40 = .ok (.getfield 39, 3) := by decide +kernel
theorem dX1_see_43 : decode cX1_see 43 = .ok (.ireturn, 1) := by decide +kernel
theorem dX1_forget_0 : decode cX1_forget 0 = .ok (.iload_n 1, 1) := by decide +kernel
theorem dX1_forget_1 : decode cX1_forget 1 = .ok (.ifCond .lt 11, 3) := by decide +kernel
theorem dX1_forget_4 : decode cX1_forget 4 = .ok (.iload_n 1, 1) := by decide +kernel
theorem dX1_forget_5 : decode cX1_forget 5 = .ok (.aload_n 0, 1) := by decide +kernel
theorem dX1_forget_6 : decode cX1_forget 6 = .ok (.getfield 39, 3) := by decide +kernel
theorem dX1_forget_9 : decode cX1_forget 9 = .ok (.if_icmp .le 5, 3) := by decide +kernel
theorem dX1_forget_12 : decode cX1_forget 12 = .ok (.iconst (-1), 1) := by decide +kernel
theorem dX1_forget_13 : decode cX1_forget 13 = .ok (.ireturn, 1) := by decide +kernel
theorem dX1_forget_14 : decode cX1_forget 14 = .ok (.aload_n 0, 1) := by decide +kernel
theorem dX1_forget_15 : decode cX1_forget 15 = .ok (.getfield 39, 3) := by decide +kernel
theorem dX1_forget_18 : decode cX1_forget 18 = .ok (.iload_n 1, 1) := by decide +kernel
theorem dX1_forget_19 : decode cX1_forget 19 = .ok (.isub, 1) := by decide +kernel
theorem dX1_forget_20 : decode cX1_forget 20 = .ok (.istore_n 2, 1) := by decide +kernel
theorem dX1_forget_21 : decode cX1_forget 21 = .ok (.aload_n 0, 1) := by decide +kernel
theorem dX1_forget_22 : decode cX1_forget 22 = .ok (.iload_n 1, 1) := by decide +kernel
theorem dX1_forget_23 : decode cX1_forget 23 = .ok (.putfield 39, 3) := by decide +kernel
theorem dX1_forget_26 : decode cX1_forget 26 = .ok (.iload_n 2, 1) := by decide +kernel
theorem dX1_forget_27 : decode cX1_forget 27 = .ok (.ireturn, 1) := by decide +kernel
theorem dX1_seen_0 : decode cX1_seen 0 = .ok (.aload_n 0, 1) := by decide +kernel
theorem dX1_seen_1 : decode cX1_seen 1 = .ok (.getfield 39, 3) := by decide +kernel
theorem dX1_seen_4 : decode cX1_seen 4 = .ok (.ireturn, 1) := by decide +kernel
theorem dX1_symbol_0 : decode cX1_symbol 0 = .ok (.iload_n 1, 1) := by decide +kernel
theorem dX1_symbol_1 : decode cX1_symbol 1 = .ok (.ifCond .lt 11, 3) := by decide +kernel
theorem dX1_symbol_4 : decode cX1_symbol 4 = .ok (.iload_n 1, 1) := by decide +kernel
theorem dX1_symbol_5 : decode cX1_symbol 5 = .ok (.aload_n 0, 1) := by decide +kernel
theorem dX1_symbol_6 : decode cX1_symbol 6 = .ok (.getfield 39, 3) := by decide +kernel
theorem dX1_symbol_9 : decode cX1_symbol 9 = .ok (.if_icmp .lt 7, 3) := by decide +kernel
theorem dX1_symbol_12 : decode cX1_symbol 12 = .ok (.iconst (-1), 1) := by decide +kernel
theorem dX1_symbol_13 : decode cX1_symbol 13 = .ok (.goto 9, 3) := by decide +kernel
theorem dX1_symbol_16 : decode cX1_symbol 16 = .ok (.aload_n 0, 1) := by decide +kernel
theorem dX1_symbol_17 : decode cX1_symbol 17 = .ok (.getfield 20, 3) := by decide +kernel
theorem dX1_symbol_20 : decode cX1_symbol 20 = .ok (.iload_n 1, 1) := by decide +kernel
theorem dX1_symbol_21 : decode cX1_symbol 21 = .ok (.iaload, 1) := by decide +kernel
theorem dX1_symbol_22 : decode cX1_symbol 22 = .ok (.ireturn, 1) := by decide +kernel
theorem dX1_power_0 : decode cX1_power 0 = .ok (.iconst 1, 1) := by decide +kernel
theorem dX1_power_1 : decode cX1_power 1 = .ok (.istore_n 2, 1) := by decide +kernel
theorem dX1_power_2 : decode cX1_power 2 = .ok (.iconst 0, 1) := by decide +kernel
theorem dX1_power_3 : decode cX1_power 3 = .ok (.istore_n 3, 1) := by decide +kernel
theorem dX1_power_4 : decode cX1_power 4 = .ok (.iload_n 3, 1) := by decide +kernel
theorem dX1_power_5 : decode cX1_power 5 = .ok (.iload_n 1, 1) := by decide +kernel
theorem dX1_power_6 : decode cX1_power 6 = .ok (.if_icmp .ge 16, 3) := by decide +kernel
theorem dX1_power_9 : decode cX1_power 9 = .ok (.iload_n 2, 1) := by decide +kernel
theorem dX1_power_10 : decode cX1_power 10 = .ok (.aload_n 0, 1) := by decide +kernel
theorem dX1_power_11 : decode cX1_power 11 = .ok (.getfield 7, 3) := by decide +kernel
theorem dX1_power_14 : decode cX1_power 14 = .ok (.imul, 1) := by decide +kernel
theorem dX1_power_15 : decode cX1_power 15 = .ok (.istore_n 2, 1) := by decide +kernel
theorem dX1_power_16 : decode cX1_power 16 = .ok (.iinc 3 1, 3) := by decide +kernel
theorem dX1_power_19 : decode cX1_power 19 = .ok (.goto (-15), 3) := by decide +kernel
theorem dX1_power_22 : decode cX1_power 22 = .ok (.iload_n 2, 1) := by decide +kernel
theorem dX1_power_23 : decode cX1_power 23 = .ok (.ireturn, 1) := by decide +kernel
theorem dX1_spell_0 : decode cX1_spell 0 = .ok (.iload_n 1, 1) := by decide +kernel
theorem dX1_spell_1 : decode cX1_spell 1 = .ok (.istore 4, 2) := by decide +kernel
theorem dX1_spell_3 : decode cX1_spell 3 = .ok (.iload_n 3, 1) := by decide +kernel
theorem dX1_spell_4 : decode cX1_spell 4 = .ok (.istore 5, 2) := by decide +kernel
theorem dX1_spell_6 : decode cX1_spell 6 = .ok (.iload 5, 2) := by decide +kernel
theorem dX1_spell_8 : decode cX1_spell 8 = .ok (.iload_n 2, 1) := by decide +kernel
theorem dX1_spell_9 : decode cX1_spell 9 = .ok (.if_icmp .lt 32, 3) := by decide +kernel
theorem dX1_spell_12 : decode cX1_spell 12 = .ok (.aload_n 0, 1) := by decide +kernel
theorem dX1_spell_13 : decode cX1_spell 13 = .ok (.getfield 23, 3) := by decide +kernel
theorem dX1_spell_16 : decode cX1_spell 16 = .ok (.iload 5, 2) := by decide +kernel
theorem dX1_spell_18 : decode cX1_spell 18 = .ok (.iload 4, 2) := by decide +kernel
theorem dX1_spell_20 : decode cX1_spell 20 = .ok (.aload_n 0, 1) := by decide +kernel
theorem dX1_spell_21 : decode cX1_spell 21 = .ok (.getfield 7, 3) := by decide +kernel
theorem dX1_spell_24 : decode cX1_spell 24 = .ok (.irem, 1) := by decide +kernel
theorem dX1_spell_25 : decode cX1_spell 25 = .ok (.iastore, 1) := by decide +kernel
theorem dX1_spell_26 : decode cX1_spell 26 = .ok (.iload 4, 2) := by decide +kernel
theorem dX1_spell_28 : decode cX1_spell 28 = .ok (.aload_n 0, 1) := by decide +kernel
theorem dX1_spell_29 : decode cX1_spell 29 = .ok (.getfield 7, 3) := by decide +kernel
theorem dX1_spell_32 : decode cX1_spell 32 = .ok (.idiv, 1) := by decide +kernel
theorem dX1_spell_33 : decode cX1_spell 33 = .ok (.istore 4, 2) := by decide +kernel
theorem dX1_spell_35 : decode cX1_spell 35 = .ok (.iinc 5 (-1), 3) := by decide +kernel
theorem dX1_spell_38 : decode cX1_spell 38 = .ok (.goto (-32), 3) := by decide +kernel
theorem dX1_spell_41 : decode cX1_spell 41 = .ok (.return_, 1) := by decide +kernel
theorem dX1_product_0 : decode cX1_product 0 = .ok (.lconst 1, 1) := by decide +kernel
theorem dX1_product_1 : decode cX1_product 1 = .ok (.lstore_n 3, 1) := by decide +kernel
theorem dX1_product_2 : decode cX1_product 2 = .ok (.iload_n 1, 1) := by decide +kernel
theorem dX1_product_3 : decode cX1_product 3 = .ok (.istore 5, 2) := by decide +kernel
theorem dX1_product_5 : decode cX1_product 5 = .ok (.iload 5, 2) := by decide +kernel
theorem dX1_product_7 : decode cX1_product 7 = .ok (.iload_n 2, 1) := by decide +kernel
theorem dX1_product_8 : decode cX1_product 8 = .ok (.if_icmp .gt 84, 3) := by decide +kernel
theorem dX1_product_11 : decode cX1_product 11 = .ok (.iload 5, 2) := by decide +kernel
theorem dX1_product_13 : decode cX1_product 13 = .ok (.ifCond .ne 12, 3) := by decide +kernel
theorem dX1_product_16 : decode cX1_product 16 = .ok (.aload_n 0, 1) := by decide +kernel
theorem dX1_product_17 : decode cX1_product 17 = .ok (.getfield 23, 3) := by decide +kernel
theorem dX1_product_20 : decode cX1_product 20 = .ok (.iconst 0, 1) := by decide +kernel
theorem dX1_product_21 : decode cX1_product 21 = .ok (.iaload, 1) := by decide +kernel
theorem dX1_product_22 : decode cX1_product 22 = .ok (.goto 24, 3) := by decide +kernel
theorem dX1_product_25 : decode cX1_product 25 = .ok (.iconst 3, 1) := by decide +kernel
theorem dX1_product_26 : decode cX1_product 26 = .ok (.iconst 3, 1) := by decide +kernel
theorem dX1_product_27 : decode cX1_product 27 = .ok (.aload_n 0, 1) := by decide +kernel
theorem dX1_product_28 : decode cX1_product 28 = .ok (.getfield 23, 3) := by decide +kernel
theorem dX1_product_31 : decode cX1_product 31 = .ok (.iload 5, 2) := by decide +kernel
theorem dX1_product_33 : decode cX1_product 33 = .ok (.iconst 1, 1) := by decide +kernel
theorem dX1_product_34 : decode cX1_product 34 = .ok (.isub, 1) := by decide +kernel
theorem dX1_product_35 : decode cX1_product 35 = .ok (.iaload, 1) := by decide +kernel
theorem dX1_product_36 : decode cX1_product 36 = .ok (.imul, 1) := by decide +kernel
theorem dX1_product_37 : decode cX1_product 37 = .ok (.iadd, 1) := by decide +kernel
theorem dX1_product_38 : decode cX1_product 38 = .ok (.aload_n 0, 1) := by decide +kernel
theorem dX1_product_39 : decode cX1_product 39 = .ok (.getfield 23, 3) := by decide +kernel
theorem dX1_product_42 : decode cX1_product 42 = .ok (.iload 5, 2) := by decide +kernel
theorem dX1_product_44 : decode cX1_product 44 = .ok (.iaload, 1) := by decide +kernel
theorem dX1_product_45 : decode cX1_product 45 = .ok (.iadd, 1) := by decide +kernel
theorem dX1_product_46 : decode cX1_product 46 = .ok (.istore 6, 2) := by decide +kernel
theorem dX1_product_48 : decode cX1_product 48 = .ok (.lload_n 3, 1) := by decide +kernel
theorem dX1_product_49 : decode cX1_product 49 = .ok (.aload_n 0, 1) := by decide +kernel
theorem dX1_product_50 : decode cX1_product 50 = .ok (.getfield 16, 3) := by decide +kernel
theorem dX1_product_53 : decode cX1_product 53 = .ok (.iload 6, 2) := by decide +kernel
theorem dX1_product_55 : decode cX1_product 55 = .ok (.iaload, 1) := by decide +kernel
theorem dX1_product_56 : decode cX1_product 56 = .ok (.i2l, 1) := by decide +kernel
theorem dX1_product_57 : decode cX1_product 57 = .ok (.lmul, 1) := by decide +kernel
theorem dX1_product_58 : decode cX1_product 58 = .ok (.aload_n 0, 1) := by decide +kernel
theorem dX1_product_59 : decode cX1_product 59 = .ok (.getfield 16, 3) := by decide +kernel
theorem dX1_product_62 : decode cX1_product 62 = .ok (.bipush 12, 2) := by decide +kernel
theorem dX1_product_64 : decode cX1_product 64 = .ok (.iconst 4, 1) := by decide +kernel
theorem dX1_product_65 : decode cX1_product 65 = .ok (.aload_n 0, 1) := by decide +kernel
theorem dX1_product_66 : decode cX1_product 66 = .ok (.getfield 23, 3) := by decide +kernel
theorem dX1_product_69 : decode cX1_product 69 = .ok (.iload 5, 2) := by decide +kernel
theorem dX1_product_71 : decode cX1_product 71 = .ok (.iaload, 1) := by decide +kernel
theorem dX1_product_72 : decode cX1_product 72 = .ok (.imul, 1) := by decide +kernel
theorem dX1_product_73 : decode cX1_product 73 = .ok (.iadd, 1) := by decide +kernel
theorem dX1_product_74 : decode cX1_product 74 = .ok (.aload_n 0, 1) := by decide +kernel
theorem dX1_product_75 : decode cX1_product 75 = .ok (.getfield 20, 3) := by decide +kernel
theorem dX1_product_78 : decode cX1_product 78 = .ok (.iload 5, 2) := by decide +kernel
theorem dX1_product_80 : decode cX1_product 80 = .ok (.iaload, 1) := by decide +kernel
theorem dX1_product_81 : decode cX1_product 81 = .ok (.iadd, 1) := by decide +kernel
theorem dX1_product_82 : decode cX1_product 82 = .ok (.iaload, 1) := by decide +kernel
theorem dX1_product_83 : decode cX1_product 83 = .ok (.i2l, 1) := by decide +kernel
theorem dX1_product_84 : decode cX1_product 84 = .ok (.lmul, 1) := by decide +kernel
theorem dX1_product_85 : decode cX1_product 85 = .ok (.lstore_n 3, 1) := by decide +kernel
theorem dX1_product_86 : decode cX1_product 86 = .ok (.iinc 5 1, 3) := by decide +kernel
theorem dX1_product_89 : decode cX1_product 89 = .ok (.goto (-84), 3) := by decide +kernel
theorem dX1_product_92 : decode cX1_product 92 = .ok (.lload_n 3, 1) := by decide +kernel
theorem dX1_product_93 : decode cX1_product 93 = .ok (.lreturn, 1) := by decide +kernel
theorem dX1_weightOf_0 : decode cX1_weightOf 0 = .ok (.aload_n 0, 1) := by decide +kernel
theorem dX1_weightOf_1 : decode cX1_weightOf 1 = .ok (.iload_n 1, 1) := by decide +kernel
theorem dX1_weightOf_2 : decode cX1_weightOf 2 = .ok (.iconst 0, 1) := by decide +kernel
theorem dX1_weightOf_3 : decode cX1_weightOf 3 = .ok (.aload_n 0, 1) := by decide +kernel
theorem dX1_weightOf_4 : decode cX1_weightOf 4 = .ok (.getfield 39, 3) := by decide +kernel
theorem dX1_weightOf_7 : decode cX1_weightOf 7 = .ok (.iconst 1, 1) := by decide +kernel
theorem dX1_weightOf_8 : decode cX1_weightOf 8 = .ok (.isub, 1) := by decide +kernel
theorem dX1_weightOf_9 : decode cX1_weightOf 9 = .ok (.invokevirtual 57, 3) := by decide +kernel
theorem dX1_weightOf_12 : decode cX1_weightOf 12 = .ok (.aload_n 0, 1) := by decide +kernel
theorem dX1_weightOf_13 : decode cX1_weightOf 13 = .ok (.iconst 0, 1) := by decide +kernel
theorem dX1_weightOf_14 : decode cX1_weightOf 14 = .ok (.aload_n 0, 1) := by decide +kernel
theorem dX1_weightOf_15 : decode cX1_weightOf 15 = .ok (.getfield 39, 3) := by decide +kernel
theorem dX1_weightOf_18 : decode cX1_weightOf 18 = .ok (.iconst 1, 1) := by decide +kernel
theorem dX1_weightOf_19 : decode cX1_weightOf 19 = .ok (.isub, 1) := by decide +kernel
theorem dX1_weightOf_20 : decode cX1_weightOf 20 = .ok (.invokevirtual 61, 3) := by decide +kernel
theorem dX1_weightOf_23 : decode cX1_weightOf 23 = .ok (.lreturn, 1) := by decide +kernel
theorem dX1_total_0 : decode cX1_total 0 = .ok (.lconst 0, 1) := by decide +kernel
theorem dX1_total_1 : decode cX1_total 1 = .ok (.lstore_n 1, 1) := by decide +kernel
theorem dX1_total_2 : decode cX1_total 2 = .ok (.aload_n 0, 1) := by decide +kernel
theorem dX1_total_3 : decode cX1_total 3 = .ok (.aload_n 0, 1) := by decide +kernel
theorem dX1_total_4 : decode cX1_total 4 = .ok (.getfield 39, 3) := by decide +kernel
theorem dX1_total_7 : decode cX1_total 7 = .ok (.invokevirtual 65, 3) := by decide +kernel
theorem dX1_total_10 : decode cX1_total 10 = .ok (.istore_n 3, 1) := by decide +kernel
theorem dX1_total_11 : decode cX1_total 11 = .ok (.iconst 0, 1) := by decide +kernel
theorem dX1_total_12 : decode cX1_total 12 = .ok (.istore 4, 2) := by decide +kernel
theorem dX1_total_14 : decode cX1_total 14 = .ok (.iload 4, 2) := by decide +kernel
theorem dX1_total_16 : decode cX1_total 16 = .ok (.iload_n 3, 1) := by decide +kernel
theorem dX1_total_17 : decode cX1_total 17 = .ok (.if_icmp .ge 18, 3) := by decide +kernel
theorem dX1_total_20 : decode cX1_total 20 = .ok (.lload_n 1, 1) := by decide +kernel
theorem dX1_total_21 : decode cX1_total 21 = .ok (.aload_n 0, 1) := by decide +kernel
theorem dX1_total_22 : decode cX1_total 22 = .ok (.iload 4, 2) := by decide +kernel
theorem dX1_total_24 : decode cX1_total 24 = .ok (.invokevirtual 69, 3) := by decide +kernel
theorem dX1_total_27 : decode cX1_total 27 = .ok (.ladd, 1) := by decide +kernel
theorem dX1_total_28 : decode cX1_total 28 = .ok (.lstore_n 1, 1) := by decide +kernel
theorem dX1_total_29 : decode cX1_total 29 = .ok (.iinc 4 1, 3) := by decide +kernel
theorem dX1_total_32 : decode cX1_total 32 = .ok (.goto (-18), 3) := by decide +kernel
theorem dX1_total_35 : decode cX1_total 35 = .ok (.lload_n 1, 1) := by decide +kernel
theorem dX1_total_36 : decode cX1_total 36 = .ok (.lreturn, 1) := by decide +kernel
theorem dX1_before_0 : decode cX1_before 0 = .ok (.iload_n 1, 1) := by decide +kernel
theorem dX1_before_1 : decode cX1_before 1 = .ok (.ifCond .lt 19, 3) := by decide +kernel
theorem dX1_before_4 : decode cX1_before 4 = .ok (.iload_n 1, 1) := by decide +kernel
theorem dX1_before_5 : decode cX1_before 5 = .ok (.aload_n 0, 1) := by decide +kernel
theorem dX1_before_6 : decode cX1_before 6 = .ok (.getfield 39, 3) := by decide +kernel
theorem dX1_before_9 : decode cX1_before 9 = .ok (.if_icmp .ge 11, 3) := by decide +kernel
theorem dX1_before_12 : decode cX1_before 12 = .ok (.aload_n 0, 1) := by decide +kernel
theorem dX1_before_13 : decode cX1_before 13 = .ok (.iload_n 2, 1) := by decide +kernel
theorem dX1_before_14 : decode cX1_before 14 = .ok (.invokevirtual 46, 3) := by decide +kernel
theorem dX1_before_17 : decode cX1_before 17 = .ok (.ifCond .ne 5, 3) := by decide +kernel
theorem dX1_before_20 : decode cX1_before 20 = .ok (.lconst 0, 1) := by decide +kernel
theorem dX1_before_21 : decode cX1_before 21 = .ok (.lreturn, 1) := by decide +kernel
theorem dX1_before_22 : decode cX1_before 22 = .ok (.lconst 0, 1) := by decide +kernel
theorem dX1_before_23 : decode cX1_before 23 = .ok (.lstore_n 3, 1) := by decide +kernel
theorem dX1_before_24 : decode cX1_before 24 = .ok (.aload_n 0, 1) := by decide +kernel
theorem dX1_before_25 : decode cX1_before 25 = .ok (.iload_n 1, 1) := by decide +kernel
theorem dX1_before_26 : decode cX1_before 26 = .ok (.invokevirtual 65, 3) := by decide +kernel
theorem dX1_before_29 : decode cX1_before 29 = .ok (.istore 5, 2) := by decide +kernel
theorem dX1_before_31 : decode cX1_before 31 = .ok (.iconst 0, 1) := by decide +kernel
theorem dX1_before_32 : decode cX1_before 32 = .ok (.istore 6, 2) := by decide +kernel
theorem dX1_before_34 : decode cX1_before 34 = .ok (.iload 6, 2) := by decide +kernel
theorem dX1_before_36 : decode cX1_before 36 = .ok (.iload 5, 2) := by decide +kernel
theorem dX1_before_38 : decode cX1_before 38 = .ok (.if_icmp .ge 35, 3) := by decide +kernel
theorem dX1_before_41 : decode cX1_before 41 = .ok (.aload_n 0, 1) := by decide +kernel
theorem dX1_before_42 : decode cX1_before 42 = .ok (.iload 6, 2) := by decide +kernel
theorem dX1_before_44 : decode cX1_before 44 = .ok (.iconst 0, 1) := by decide +kernel
theorem dX1_before_45 : decode cX1_before 45 = .ok (.iload_n 1, 1) := by decide +kernel
theorem dX1_before_46 : decode cX1_before 46 = .ok (.iconst 1, 1) := by decide +kernel
theorem dX1_before_47 : decode cX1_before 47 = .ok (.isub, 1) := by decide +kernel
theorem dX1_before_48 : decode cX1_before 48 = .ok (.invokevirtual 57, 3) := by decide +kernel
theorem dX1_before_51 : decode cX1_before 51 = .ok (.aload_n 0, 1) := by decide +kernel
theorem dX1_before_52 : decode cX1_before 52 = .ok (.getfield 23, 3) := by decide +kernel
theorem dX1_before_55 : decode cX1_before 55 = .ok (.iload_n 1, 1) := by decide +kernel
theorem dX1_before_56 : decode cX1_before 56 = .ok (.iload_n 2, 1) := by decide +kernel
theorem dX1_before_57 : decode cX1_before 57 = .ok (.iastore, 1) := by decide +kernel
theorem dX1_before_58 : decode cX1_before 58 = .ok (.lload_n 3, 1) := by decide +kernel
theorem dX1_before_59 : decode cX1_before 59 = .ok (.aload_n 0, 1) := by decide +kernel
theorem dX1_before_60 : decode cX1_before 60 = .ok (.iconst 0, 1) := by decide +kernel
theorem dX1_before_61 : decode cX1_before 61 = .ok (.iload_n 1, 1) := by decide +kernel
theorem dX1_before_62 : decode cX1_before 62 = .ok (.invokevirtual 61, 3) := by decide +kernel
theorem dX1_before_65 : decode cX1_before 65 = .ok (.ladd, 1) := by decide +kernel
theorem dX1_before_66 : decode cX1_before 66 = .ok (.lstore_n 3, 1) := by decide +kernel
theorem dX1_before_67 : decode cX1_before 67 = .ok (.iinc 6 1, 3) := by decide +kernel
theorem dX1_before_70 : decode cX1_before 70 = .ok (.goto (-36), 3) := by decide +kernel
theorem dX1_before_73 : decode cX1_before 73 = .ok (.lload_n 3, 1) := by decide +kernel
theorem dX1_before_74 : decode cX1_before 74 = .ok (.lreturn, 1) := by decide +kernel
theorem dX1_behind_0 : decode cX1_behind 0 = .ok (.iload_n 1, 1) := by decide +kernel
theorem dX1_behind_1 : decode cX1_behind 1 = .ok (.ifCond .lt 19, 3) := by decide +kernel
theorem dX1_behind_4 : decode cX1_behind 4 = .ok (.iload_n 1, 1) := by decide +kernel
theorem dX1_behind_5 : decode cX1_behind 5 = .ok (.aload_n 0, 1) := by decide +kernel
theorem dX1_behind_6 : decode cX1_behind 6 = .ok (.getfield 39, 3) := by decide +kernel
theorem dX1_behind_9 : decode cX1_behind 9 = .ok (.if_icmp .ge 11, 3) := by decide +kernel
theorem dX1_behind_12 : decode cX1_behind 12 = .ok (.aload_n 0, 1) := by decide +kernel
theorem dX1_behind_13 : decode cX1_behind 13 = .ok (.iload_n 2, 1) := by decide +kernel
theorem dX1_behind_14 : decode cX1_behind 14 = .ok (.invokevirtual 46, 3) := by decide +kernel
theorem dX1_behind_17 : decode cX1_behind 17 = .ok (.ifCond .ne 5, 3) := by decide +kernel
theorem dX1_behind_20 : decode cX1_behind 20 = .ok (.lconst 0, 1) := by decide +kernel
theorem dX1_behind_21 : decode cX1_behind 21 = .ok (.lreturn, 1) := by decide +kernel
theorem dX1_behind_22 : decode cX1_behind 22 = .ok (.lconst 0, 1) := by decide +kernel
theorem dX1_behind_23 : decode cX1_behind 23 = .ok (.lstore_n 3, 1) := by decide +kernel
theorem dX1_behind_24 : decode cX1_behind 24 = .ok (.aload_n 0, 1) := by decide +kernel
theorem dX1_behind_25 : decode cX1_behind 25 = .ok (.aload_n 0, 1) := by decide +kernel
theorem dX1_behind_26 : decode cX1_behind 26 = .ok (.getfield 39, 3) := by decide +kernel
theorem dX1_behind_29 : decode cX1_behind 29 = .ok (.iconst 1, 1) := by decide +kernel
theorem dX1_behind_30 : decode cX1_behind 30 = .ok (.isub, 1) := by decide +kernel
theorem dX1_behind_31 : decode cX1_behind 31 = .ok (.iload_n 1, 1) := by decide +kernel
theorem dX1_behind_32 : decode cX1_behind 32 = .ok (.isub, 1) := by decide +kernel
theorem dX1_behind_33 : decode cX1_behind 33 = .ok (.invokevirtual 65, 3) := by decide +kernel
theorem dX1_behind_36 : decode cX1_behind 36 = .ok (.istore 5, 2) := by decide +kernel
theorem dX1_behind_38 : decode cX1_behind 38 = .ok (.iconst 0, 1) := by decide +kernel
theorem dX1_behind_39 : decode cX1_behind 39 = .ok (.istore 6, 2) := by decide +kernel
theorem dX1_behind_41 : decode cX1_behind 41 = .ok (.iload 6, 2) := by decide +kernel
theorem dX1_behind_43 : decode cX1_behind 43 = .ok (.iload 5, 2) := by decide +kernel
theorem dX1_behind_45 : decode cX1_behind 45 = .ok (.if_icmp .ge 47, 3) := by decide +kernel
theorem dX1_behind_48 : decode cX1_behind 48 = .ok (.aload_n 0, 1) := by decide +kernel
theorem dX1_behind_49 : decode cX1_behind 49 = .ok (.iload 6, 2) := by decide +kernel
theorem dX1_behind_51 : decode cX1_behind 51 = .ok (.iload_n 1, 1) := by decide +kernel
theorem dX1_behind_52 : decode cX1_behind 52 = .ok (.iconst 1, 1) := by decide +kernel
theorem dX1_behind_53 : decode cX1_behind 53 = .ok (.iadd, 1) := by decide +kernel
theorem dX1_behind_54 : decode cX1_behind 54 = .ok (.aload_n 0, 1) := by decide +kernel
theorem dX1_behind_55 : decode cX1_behind 55 = .ok (.getfield 39, 3) := by decide +kernel
theorem dX1_behind_58 : decode cX1_behind 58 = .ok (.iconst 1, 1) := by decide +kernel
theorem dX1_behind_59 : decode cX1_behind 59 = .ok (.isub, 1) := by decide +kernel
theorem dX1_behind_60 : decode cX1_behind 60 = .ok (.invokevirtual 57, 3) := by decide +kernel
theorem dX1_behind_63 : decode cX1_behind 63 = .ok (.aload_n 0, 1) := by decide +kernel
theorem dX1_behind_64 : decode cX1_behind 64 = .ok (.getfield 23, 3) := by decide +kernel
theorem dX1_behind_67 : decode cX1_behind 67 = .ok (.iload_n 1, 1) := by decide +kernel
theorem dX1_behind_68 : decode cX1_behind 68 = .ok (.iload_n 2, 1) := by decide +kernel
theorem dX1_behind_69 : decode cX1_behind 69 = .ok (.iastore, 1) := by decide +kernel
theorem dX1_behind_70 : decode cX1_behind 70 = .ok (.lload_n 3, 1) := by decide +kernel
theorem dX1_behind_71 : decode cX1_behind 71 = .ok (.aload_n 0, 1) := by decide +kernel
theorem dX1_behind_72 : decode cX1_behind 72 = .ok (.iload_n 1, 1) := by decide +kernel
theorem dX1_behind_73 : decode cX1_behind 73 = .ok (.iconst 1, 1) := by decide +kernel
theorem dX1_behind_74 : decode cX1_behind 74 = .ok (.iadd, 1) := by decide +kernel
theorem dX1_behind_75 : decode cX1_behind 75 = .ok (.aload_n 0, 1) := by decide +kernel
theorem dX1_behind_76 : decode cX1_behind 76 = .ok (.getfield 39, 3) := by decide +kernel
theorem dX1_behind_79 : decode cX1_behind 79 = .ok (.iconst 1, 1) := by decide +kernel
theorem dX1_behind_80 : decode cX1_behind 80 = .ok (.isub, 1) := by decide +kernel
theorem dX1_behind_81 : decode cX1_behind 81 = .ok (.invokevirtual 61, 3) := by decide +kernel
theorem dX1_behind_84 : decode cX1_behind 84 = .ok (.ladd, 1) := by decide +kernel
theorem dX1_behind_85 : decode cX1_behind 85 = .ok (.lstore_n 3, 1) := by decide +kernel
theorem dX1_behind_86 : decode cX1_behind 86 = .ok (.iinc 6 1, 3) := by decide +kernel
theorem dX1_behind_89 : decode cX1_behind 89 = .ok (.goto (-48), 3) := by decide +kernel
theorem dX1_behind_92 : decode cX1_behind 92 = .ok (.lload_n 3, 1) := by decide +kernel
theorem dX1_behind_93 : decode cX1_behind 93 = .ok (.lreturn, 1) := by decide +kernel
theorem dX1_ways_0 : decode cX1_ways 0 = .ok (.iconst 0, 1) := by decide +kernel
theorem dX1_ways_1 : decode cX1_ways 1 = .ok (.istore_n 1, 1) := by decide +kernel
theorem dX1_ways_2 : decode cX1_ways 2 = .ok (.aload_n 0, 1) := by decide +kernel
theorem dX1_ways_3 : decode cX1_ways 3 = .ok (.aload_n 0, 1) := by decide +kernel
theorem dX1_ways_4 : decode cX1_ways 4 = .ok (.getfield 39, 3) := by decide +kernel
theorem dX1_ways_7 : decode cX1_ways 7 = .ok (.invokevirtual 65, 3) := by decide +kernel
theorem dX1_ways_10 : decode cX1_ways 10 = .ok (.istore_n 2, 1) := by decide +kernel
theorem dX1_ways_11 : decode cX1_ways 11 = .ok (.iconst 0, 1) := by decide +kernel
theorem dX1_ways_12 : decode cX1_ways 12 = .ok (.istore_n 3, 1) := by decide +kernel
theorem dX1_ways_13 : decode cX1_ways 13 = .ok (.iload_n 3, 1) := by decide +kernel
theorem dX1_ways_14 : decode cX1_ways 14 = .ok (.iload_n 2, 1) := by decide +kernel
theorem dX1_ways_15 : decode cX1_ways 15 = .ok (.if_icmp .ge 27, 3) := by decide +kernel
theorem dX1_ways_18 : decode cX1_ways 18 = .ok (.aload_n 0, 1) := by decide +kernel
theorem dX1_ways_19 : decode cX1_ways 19 = .ok (.iload_n 3, 1) := by decide +kernel
theorem dX1_ways_20 : decode cX1_ways 20 = .ok (.invokevirtual 69, 3) := by decide +kernel
theorem dX1_ways_23 : decode cX1_ways 23 = .ok (.lconst 0, 1) := by decide +kernel
theorem dX1_ways_24 : decode cX1_ways 24 = .ok (.lcmp, 1) := by decide +kernel
theorem dX1_ways_25 : decode cX1_ways 25 = .ok (.ifCond .le 9, 3) := by decide +kernel
theorem dX1_ways_28 : decode cX1_ways 28 = .ok (.iload_n 1, 1) := by decide +kernel
theorem dX1_ways_29 : decode cX1_ways 29 = .ok (.iconst 1, 1) := by decide +kernel
theorem dX1_ways_30 : decode cX1_ways 30 = .ok (.iadd, 1) := by decide +kernel
theorem dX1_ways_31 : decode cX1_ways 31 = .ok (.goto 4, 3) := by decide +kernel
theorem dX1_ways_34 : decode cX1_ways 34 = .ok (.iload_n 1, 1) := by decide +kernel
theorem dX1_ways_35 : decode cX1_ways 35 = .ok (.istore_n 1, 1) := by decide +kernel
theorem dX1_ways_36 : decode cX1_ways 36 = .ok (.iinc 3 1, 3) := by decide +kernel
theorem dX1_ways_39 : decode cX1_ways 39 = .ok (.goto (-26), 3) := by decide +kernel
theorem dX1_ways_42 : decode cX1_ways 42 = .ok (.iload_n 1, 1) := by decide +kernel
theorem dX1_ways_43 : decode cX1_ways 43 = .ok (.ireturn, 1) := by decide +kernel
theorem dX1_rank_0 : decode cX1_rank 0 = .ok (.aload_n 0, 1) := by decide +kernel
theorem dX1_rank_1 : decode cX1_rank 1 = .ok (.aload_n 0, 1) := by decide +kernel
theorem dX1_rank_2 : decode cX1_rank 2 = .ok (.getfield 39, 3) := by decide +kernel
theorem dX1_rank_5 : decode cX1_rank 5 = .ok (.invokevirtual 65, 3) := by decide +kernel
theorem dX1_rank_8 : decode cX1_rank 8 = .ok (.istore_n 2, 1) := by decide +kernel
theorem dX1_rank_9 : decode cX1_rank 9 = .ok (.iload_n 1, 1) := by decide +kernel
theorem dX1_rank_10 : decode cX1_rank 10 = .ok (.ifCond .lt 9, 3) := by decide +kernel
theorem dX1_rank_13 : decode cX1_rank 13 = .ok (.iload_n 1, 1) := by decide +kernel
theorem dX1_rank_14 : decode cX1_rank 14 = .ok (.bipush 11, 2) := by decide +kernel
theorem dX1_rank_16 : decode cX1_rank 16 = .ok (.if_icmp .le 5, 3) := by decide +kernel
theorem dX1_rank_19 : decode cX1_rank 19 = .ok (.iconst (-1), 1) := by decide +kernel
theorem dX1_rank_20 : decode cX1_rank 20 = .ok (.ireturn, 1) := by decide +kernel
theorem dX1_rank_21 : decode cX1_rank 21 = .ok (.iconst 0, 1) := by decide +kernel
theorem dX1_rank_22 : decode cX1_rank 22 = .ok (.istore_n 3, 1) := by decide +kernel
theorem dX1_rank_23 : decode cX1_rank 23 = .ok (.iload_n 3, 1) := by decide +kernel
theorem dX1_rank_24 : decode cX1_rank 24 = .ok (.iload_n 2, 1) := by decide +kernel
theorem dX1_rank_25 : decode cX1_rank 25 = .ok (.if_icmp .ge 20, 3) := by decide +kernel
theorem dX1_rank_28 : decode cX1_rank 28 = .ok (.aload_n 0, 1) := by decide +kernel
theorem dX1_rank_29 : decode cX1_rank 29 = .ok (.getfield 29, 3) := by decide +kernel
theorem dX1_rank_32 : decode cX1_rank 32 = .ok (.iload_n 3, 1) := by decide +kernel
theorem dX1_rank_33 : decode cX1_rank 33 = .ok (.aload_n 0, 1) := by decide +kernel
theorem dX1_rank_34 : decode cX1_rank 34 = .ok (.iload_n 3, 1) := by decide +kernel
theorem dX1_rank_35 : decode cX1_rank 35 = .ok (.invokevirtual 69, 3) := by decide +kernel
theorem dX1_rank_38 : decode cX1_rank 38 = .ok (.lastore, 1) := by decide +kernel
theorem dX1_rank_39 : decode cX1_rank 39 = .ok (.iinc 3 1, 3) := by decide +kernel
theorem dX1_rank_42 : decode cX1_rank 42 = .ok (.goto (-19), 3) := by decide +kernel
theorem dX1_rank_45 : decode cX1_rank 45 = .ok (.iconst (-1), 1) := by decide +kernel
theorem dX1_rank_46 : decode cX1_rank 46 = .ok (.istore_n 3, 1) := by decide +kernel
theorem dX1_rank_47 : decode cX1_rank 47 = .ok (.iconst 0, 1) := by decide +kernel
theorem dX1_rank_48 : decode cX1_rank 48 = .ok (.istore 4, 2) := by decide +kernel
theorem dX1_rank_50 : decode cX1_rank 50 = .ok (.iload 4, 2) := by decide +kernel
theorem dX1_rank_52 : decode cX1_rank 52 = .ok (.iload_n 1, 1) := by decide +kernel
theorem dX1_rank_53 : decode cX1_rank 53 = .ok (.if_icmp .gt 84, 3) := by decide +kernel
theorem dX1_rank_56 : decode cX1_rank 56 = .ok (.iconst (-1), 1) := by decide +kernel
theorem dX1_rank_57 : decode cX1_rank 57 = .ok (.istore 5, 2) := by decide +kernel
theorem dX1_rank_59 : decode cX1_rank 59 = .ok (.iconst 0, 1) := by decide +kernel
theorem dX1_rank_60 : decode cX1_rank 60 = .ok (.istore 6, 2) := by decide +kernel
theorem dX1_rank_62 : decode cX1_rank 62 = .ok (.iload 6, 2) := by decide +kernel
theorem dX1_rank_64 : decode cX1_rank 64 = .ok (.iload_n 2, 1) := by decide +kernel
theorem dX1_rank_65 : decode cX1_rank 65 = .ok (.if_icmp .ge 48, 3) := by decide +kernel
theorem dX1_rank_68 : decode cX1_rank 68 = .ok (.aload_n 0, 1) := by decide +kernel
theorem dX1_rank_69 : decode cX1_rank 69 = .ok (.getfield 29, 3) := by decide +kernel
theorem dX1_rank_72 : decode cX1_rank 72 = .ok (.iload 6, 2) := by decide +kernel
theorem dX1_rank_74 : decode cX1_rank 74 = .ok (.laload, 1) := by decide +kernel
theorem dX1_rank_75 : decode cX1_rank 75 = .ok (.lconst 0, 1) := by decide +kernel
theorem dX1_rank_76 : decode cX1_rank 76 = .ok (.lcmp, 1) := by decide +kernel
theorem dX1_rank_77 : decode cX1_rank 77 = .ok (.ifCond .le 30, 3) := by decide +kernel
theorem dX1_rank_80 : decode cX1_rank 80 = .ok (.iload 5, 2) := by decide +kernel
theorem dX1_rank_82 : decode cX1_rank 82 = .ok (.ifCond .lt 21, 3) := by decide +kernel
theorem dX1_rank_85 : decode cX1_rank 85 = .ok (.aload_n 0, 1) := by decide +kernel
theorem dX1_rank_86 : decode cX1_rank 86 = .ok (.getfield 29, 3) := by decide +kernel
theorem dX1_rank_89 : decode cX1_rank 89 = .ok (.iload 6, 2) := by decide +kernel
theorem dX1_rank_91 : decode cX1_rank 91 = .ok (.laload, 1) := by decide +kernel
theorem dX1_rank_92 : decode cX1_rank 92 = .ok (.aload_n 0, 1) := by decide +kernel
theorem dX1_rank_93 : decode cX1_rank 93 = .ok (.getfield 29, 3) := by decide +kernel
theorem dX1_rank_96 : decode cX1_rank 96 = .ok (.iload 5, 2) := by decide +kernel
theorem dX1_rank_98 : decode cX1_rank 98 = .ok (.laload, 1) := by decide +kernel
theorem dX1_rank_99 : decode cX1_rank 99 = .ok (.lcmp, 1) := by decide +kernel
theorem dX1_rank_100 : decode cX1_rank 100 = .ok (.ifCond .le 7, 3) := by decide +kernel
theorem dX1_rank_103 : decode cX1_rank 103 = .ok (.iload 6, 2) := by decide +kernel
theorem dX1_rank_105 : decode cX1_rank 105 = .ok (.istore 5, 2) := by decide +kernel
theorem dX1_rank_107 : decode cX1_rank 107 = .ok (.iinc 6 1, 3) := by decide +kernel
theorem dX1_rank_110 : decode cX1_rank 110 = .ok (.goto (-48), 3) := by decide +kernel
theorem dX1_rank_113 : decode cX1_rank 113 = .ok (.iload 5, 2) := by decide +kernel
theorem dX1_rank_115 : decode cX1_rank 115 = .ok (.ifCond .ge 5, 3) := by decide +kernel
theorem dX1_rank_118 : decode cX1_rank 118 = .ok (.iconst (-1), 1) := by decide +kernel
theorem dX1_rank_119 : decode cX1_rank 119 = .ok (.ireturn, 1) := by decide +kernel
theorem dX1_rank_120 : decode cX1_rank 120 = .ok (.aload_n 0, 1) := by decide +kernel
theorem dX1_rank_121 : decode cX1_rank 121 = .ok (.getfield 29, 3) := by decide +kernel
theorem dX1_rank_124 : decode cX1_rank 124 = .ok (.iload 5, 2) := by decide +kernel
theorem dX1_rank_126 : decode cX1_rank 126 = .ok (.lconst 0, 1) := by decide +kernel
theorem dX1_rank_127 : decode cX1_rank 127 = .ok (.lastore, 1) := by decide +kernel
theorem dX1_rank_128 : decode cX1_rank 128 = .ok (.iload 5, 2) := by decide +kernel
theorem dX1_rank_130 : decode cX1_rank 130 = .ok (.istore_n 3, 1) := by decide +kernel
theorem dX1_rank_131 : decode cX1_rank 131 = .ok (.iinc 4 1, 3) := by decide +kernel
theorem dX1_rank_134 : decode cX1_rank 134 = .ok (.goto (-84), 3) := by decide +kernel
theorem dX1_rank_137 : decode cX1_rank 137 = .ok (.iload_n 3, 1) := by decide +kernel
theorem dX1_rank_138 : decode cX1_rank 138 = .ok (.ireturn, 1) := by decide +kernel
theorem dX1_ranked_0 : decode cX1_ranked 0 = .ok (.aload_n 0, 1) := by decide +kernel
theorem dX1_ranked_1 : decode cX1_ranked 1 = .ok (.iload_n 1, 1) := by decide +kernel
theorem dX1_ranked_2 : decode cX1_ranked 2 = .ok (.invokevirtual 73, 3) := by decide +kernel
theorem dX1_ranked_5 : decode cX1_ranked 5 = .ok (.istore_n 2, 1) := by decide +kernel
theorem dX1_ranked_6 : decode cX1_ranked 6 = .ok (.iload_n 2, 1) := by decide +kernel
theorem dX1_ranked_7 : decode cX1_ranked 7 = .ok (.ifCond .ge 7, 3) := by decide +kernel
theorem dX1_ranked_10 : decode cX1_ranked 10 = .ok (.lconst 0, 1) := by decide +kernel
theorem dX1_ranked_11 : decode cX1_ranked 11 = .ok (.goto 8, 3) := by decide +kernel
theorem dX1_ranked_14 : decode cX1_ranked 14 = .ok (.aload_n 0, 1) := by decide +kernel
theorem dX1_ranked_15 : decode cX1_ranked 15 = .ok (.iload_n 2, 1) := by decide +kernel
theorem dX1_ranked_16 : decode cX1_ranked 16 = .ok (.invokevirtual 69, 3) := by decide +kernel
theorem dX1_ranked_19 : decode cX1_ranked 19 = .ok (.lreturn, 1) := by decide +kernel
theorem dX1_stateOf_0 : decode cX1_stateOf 0 = .ok (.aload_n 0, 1) := by decide +kernel
theorem dX1_stateOf_1 : decode cX1_stateOf 1 = .ok (.iload_n 1, 1) := by decide +kernel
theorem dX1_stateOf_2 : decode cX1_stateOf 2 = .ok (.invokevirtual 73, 3) := by decide +kernel
theorem dX1_stateOf_5 : decode cX1_stateOf 5 = .ok (.istore_n 3, 1) := by decide +kernel
theorem dX1_stateOf_6 : decode cX1_stateOf 6 = .ok (.iload_n 3, 1) := by decide +kernel
theorem dX1_stateOf_7 : decode cX1_stateOf 7 = .ok (.ifCond .lt 15, 3) := by decide +kernel
theorem dX1_stateOf_10 : decode cX1_stateOf 10 = .ok (.iload_n 2, 1) := by decide +kernel
theorem dX1_stateOf_11 : decode cX1_stateOf 11 = .ok (.ifCond .lt 11, 3) := by decide +kernel
theorem dX1_stateOf_14 : decode cX1_stateOf 14 = .ok (.iload_n 2, 1) := by decide +kernel
theorem dX1_stateOf_15 : decode cX1_stateOf 15 = .ok (.aload_n 0, 1) := by decide +kernel
theorem dX1_stateOf_16 : decode cX1_stateOf 16 = .ok (.getfield 39, 3) := by decide +kernel
theorem dX1_stateOf_19 : decode cX1_stateOf 19 = .ok (.if_icmp .lt 5, 3) := by decide +kernel
theorem dX1_stateOf_22 : decode cX1_stateOf 22 = .ok (.iconst (-1), 1) := by decide +kernel
theorem dX1_stateOf_23 : decode cX1_stateOf 23 = .ok (.ireturn, 1) := by decide +kernel
theorem dX1_stateOf_24 : decode cX1_stateOf 24 = .ok (.aload_n 0, 1) := by decide +kernel
theorem dX1_stateOf_25 : decode cX1_stateOf 25 = .ok (.iload_n 3, 1) := by decide +kernel
theorem dX1_stateOf_26 : decode cX1_stateOf 26 = .ok (.iconst 0, 1) := by decide +kernel
theorem dX1_stateOf_27 : decode cX1_stateOf 27 = .ok (.aload_n 0, 1) := by decide +kernel
theorem dX1_stateOf_28 : decode cX1_stateOf 28 = .ok (.getfield 39, 3) := by decide +kernel
theorem dX1_stateOf_31 : decode cX1_stateOf 31 = .ok (.iconst 1, 1) := by decide +kernel
theorem dX1_stateOf_32 : decode cX1_stateOf 32 = .ok (.isub, 1) := by decide +kernel
theorem dX1_stateOf_33 : decode cX1_stateOf 33 = .ok (.invokevirtual 57, 3) := by decide +kernel
theorem dX1_stateOf_36 : decode cX1_stateOf 36 = .ok (.aload_n 0, 1) := by decide +kernel
theorem dX1_stateOf_37 : decode cX1_stateOf 37 = .ok (.getfield 23, 3) := by decide +kernel
theorem dX1_stateOf_40 : decode cX1_stateOf 40 = .ok (.iload_n 2, 1) := by decide +kernel
theorem dX1_stateOf_41 : decode cX1_stateOf 41 = .ok (.iaload, 1) := by decide +kernel
theorem dX1_stateOf_42 : decode cX1_stateOf 42 = .ok (.ireturn, 1) := by decide +kernel
theorem dX1_fraction_0 : decode cX1_fraction 0 = .ok (.lload_n 1, 1) := by decide +kernel
theorem dX1_fraction_1 : decode cX1_fraction 1 = .ok (.lstore 5, 2) := by decide +kernel
theorem dX1_fraction_3 : decode cX1_fraction 3 = .ok (.lload_n 3, 1) := by decide +kernel
theorem dX1_fraction_4 : decode cX1_fraction 4 = .ok (.lstore 7, 2) := by decide +kernel
theorem dX1_fraction_6 : decode cX1_fraction 6 = .ok (.lload 7, 2) := by decide +kernel
theorem dX1_fraction_8 : decode cX1_fraction 8 = .ok (.lconst 0, 1) := by decide +kernel
theorem dX1_fraction_9 : decode cX1_fraction 9 = .ok (.lcmp, 1) := by decide +kernel
theorem dX1_fraction_10 : decode cX1_fraction 10 = .ok (.ifCond .eq 21, 3) := by decide +kernel
theorem dX1_fraction_13 : decode cX1_fraction 13 = .ok (.lload 5, 2) := by decide +kernel
theorem dX1_fraction_15 : decode cX1_fraction 15 = .ok (.lload 7, 2) := by decide +kernel
theorem dX1_fraction_17 : decode cX1_fraction 17 = .ok (.lrem, 1) := by decide +kernel
theorem dX1_fraction_18 : decode cX1_fraction 18 = .ok (.lstore 9, 2) := by decide +kernel
theorem dX1_fraction_20 : decode cX1_fraction 20 = .ok (.lload 7, 2) := by decide +kernel
theorem dX1_fraction_22 : decode cX1_fraction 22 = .ok (.lstore 5, 2) := by decide +kernel
theorem dX1_fraction_24 : decode cX1_fraction 24 = .ok (.lload 9, 2) := by decide +kernel
theorem dX1_fraction_26 : decode cX1_fraction 26 = .ok (.lstore 7, 2) := by decide +kernel
theorem dX1_fraction_28 : decode cX1_fraction 28 = .ok (.goto (-22), 3) := by decide +kernel
theorem dX1_fraction_31 : decode cX1_fraction 31 = .ok (.aload_n 0, 1) := by decide +kernel
theorem dX1_fraction_32 : decode cX1_fraction 32 = .ok (.lload_n 1, 1) := by decide +kernel
theorem dX1_fraction_33 : decode cX1_fraction 33 = .ok (.lload 5, 2) := by decide +kernel
theorem dX1_fraction_35 : decode cX1_fraction 35 = .ok (.ldiv, 1) := by decide +kernel
theorem dX1_fraction_36 : decode cX1_fraction 36 = .ok (.putfield 76, 3) := by decide +kernel
theorem dX1_fraction_39 : decode cX1_fraction 39 = .ok (.aload_n 0, 1) := by decide +kernel
theorem dX1_fraction_40 : decode cX1_fraction 40 = .ok (.lload_n 3, 1) := by decide +kernel
theorem dX1_fraction_41 : decode cX1_fraction 41 = .ok (.lload 5, 2) := by decide +kernel
theorem dX1_fraction_43 : decode cX1_fraction 43 = .ok (.ldiv, 1) := by decide +kernel
theorem dX1_fraction_44 : decode cX1_fraction 44 = .ok (.putfield 80, 3) := by decide +kernel
theorem dX1_fraction_47 : decode cX1_fraction 47 = .ok (.return_, 1) := by decide +kernel
theorem dX1_part_0 : decode cX1_part 0 = .ok (.iload_n 1, 1) := by decide +kernel
theorem dX1_part_1 : decode cX1_part 1 = .ok (.ifCond .ne 10, 3) := by decide +kernel
theorem dX1_part_4 : decode cX1_part 4 = .ok (.aload_n 0, 1) := by decide +kernel
theorem dX1_part_5 : decode cX1_part 5 = .ok (.getfield 76, 3) := by decide +kernel
theorem dX1_part_8 : decode cX1_part 8 = .ok (.goto 16, 3) := by decide +kernel
theorem dX1_part_11 : decode cX1_part 11 = .ok (.iload_n 1, 1) := by decide +kernel
theorem dX1_part_12 : decode cX1_part 12 = .ok (.iconst 1, 1) := by decide +kernel
theorem dX1_part_13 : decode cX1_part 13 = .ok (.if_icmp .ne 10, 3) := by decide +kernel
theorem dX1_part_16 : decode cX1_part 16 = .ok (.aload_n 0, 1) := by decide +kernel
theorem dX1_part_17 : decode cX1_part 17 = .ok (.getfield 80, 3) := by decide +kernel
theorem dX1_part_20 : decode cX1_part 20 = .ok (.goto 4, 3) := by decide +kernel
theorem dX1_part_23 : decode cX1_part 23 = .ok (.lconst 0, 1) := by decide +kernel
theorem dX1_part_24 : decode cX1_part 24 = .ok (.lreturn, 1) := by decide +kernel
theorem dX1_times_0 : decode cX1_times 0 = .ok (.iconst 0, 1) := by decide +kernel
theorem dX1_times_1 : decode cX1_times 1 = .ok (.istore 4, 2) := by decide +kernel
theorem dX1_times_3 : decode cX1_times 3 = .ok (.iconst 0, 1) := by decide +kernel
theorem dX1_times_4 : decode cX1_times 4 = .ok (.istore 5, 2) := by decide +kernel
theorem dX1_times_6 : decode cX1_times 6 = .ok (.iload 5, 2) := by decide +kernel
theorem dX1_times_8 : decode cX1_times 8 = .ok (.aload_n 0, 1) := by decide +kernel
theorem dX1_times_9 : decode cX1_times 9 = .ok (.getfield 39, 3) := by decide +kernel
theorem dX1_times_12 : decode cX1_times 12 = .ok (.if_icmp .ge 131, 3) := by decide +kernel
theorem dX1_times_15 : decode cX1_times 15 = .ok (.iload_n 1, 1) := by decide +kernel
theorem dX1_times_16 : decode cX1_times 16 = .ok (.ifCond .ne 28, 3) := by decide +kernel
theorem dX1_times_19 : decode cX1_times 19 = .ok (.iload 5, 2) := by decide +kernel
theorem dX1_times_21 : decode cX1_times 21 = .ok (.iload_n 2, 1) := by decide +kernel
theorem dX1_times_22 : decode cX1_times 22 = .ok (.if_icmp .ne 18, 3) := by decide +kernel
theorem dX1_times_25 : decode cX1_times 25 = .ok (.aload_n 0, 1) := by decide +kernel
theorem dX1_times_26 : decode cX1_times 26 = .ok (.getfield 23, 3) := by decide +kernel
theorem dX1_times_29 : decode cX1_times 29 = .ok (.iload 5, 2) := by decide +kernel
theorem dX1_times_31 : decode cX1_times 31 = .ok (.iaload, 1) := by decide +kernel
theorem dX1_times_32 : decode cX1_times 32 = .ok (.iload_n 3, 1) := by decide +kernel
theorem dX1_times_33 : decode cX1_times 33 = .ok (.if_icmp .ne 7, 3) := by decide +kernel
theorem dX1_times_36 : decode cX1_times 36 = .ok (.iconst 1, 1) := by decide +kernel
theorem dX1_times_37 : decode cX1_times 37 = .ok (.goto 82, 3) := by decide +kernel
theorem dX1_times_40 : decode cX1_times 40 = .ok (.iconst 0, 1) := by decide +kernel
theorem dX1_times_41 : decode cX1_times 41 = .ok (.goto 78, 3) := by decide +kernel
theorem dX1_times_44 : decode cX1_times 44 = .ok (.iload_n 1, 1) := by decide +kernel
theorem dX1_times_45 : decode cX1_times 45 = .ok (.iconst 1, 1) := by decide +kernel
theorem dX1_times_46 : decode cX1_times 46 = .ok (.if_icmp .ne 46, 3) := by decide +kernel
theorem dX1_times_49 : decode cX1_times 49 = .ok (.iload 5, 2) := by decide +kernel
theorem dX1_times_51 : decode cX1_times 51 = .ok (.iconst 1, 1) := by decide +kernel
theorem dX1_times_52 : decode cX1_times 52 = .ok (.iadd, 1) := by decide +kernel
theorem dX1_times_53 : decode cX1_times 53 = .ok (.aload_n 0, 1) := by decide +kernel
theorem dX1_times_54 : decode cX1_times 54 = .ok (.getfield 39, 3) := by decide +kernel
theorem dX1_times_57 : decode cX1_times 57 = .ok (.if_icmp .ge 31, 3) := by decide +kernel
theorem dX1_times_60 : decode cX1_times 60 = .ok (.aload_n 0, 1) := by decide +kernel
theorem dX1_times_61 : decode cX1_times 61 = .ok (.getfield 23, 3) := by decide +kernel
theorem dX1_times_64 : decode cX1_times 64 = .ok (.iload 5, 2) := by decide +kernel
theorem dX1_times_66 : decode cX1_times 66 = .ok (.iaload, 1) := by decide +kernel
theorem dX1_times_67 : decode cX1_times 67 = .ok (.iload_n 2, 1) := by decide +kernel
theorem dX1_times_68 : decode cX1_times 68 = .ok (.if_icmp .ne 20, 3) := by decide +kernel
theorem dX1_times_71 : decode cX1_times 71 = .ok (.aload_n 0, 1) := by decide +kernel
theorem dX1_times_72 : decode cX1_times 72 = .ok (.getfield 23, 3) := by decide +kernel
theorem dX1_times_75 : decode cX1_times 75 = .ok (.iload 5, 2) := by decide +kernel
theorem dX1_times_77 : decode cX1_times 77 = .ok (.iconst 1, 1) := by decide +kernel
theorem dX1_times_78 : decode cX1_times 78 = .ok (.iadd, 1) := by decide +kernel
theorem dX1_times_79 : decode cX1_times 79 = .ok (.iaload, 1) := by decide +kernel
theorem dX1_times_80 : decode cX1_times 80 = .ok (.iload_n 3, 1) := by decide +kernel
theorem dX1_times_81 : decode cX1_times 81 = .ok (.if_icmp .ne 7, 3) := by decide +kernel
theorem dX1_times_84 : decode cX1_times 84 = .ok (.iconst 1, 1) := by decide +kernel
theorem dX1_times_85 : decode cX1_times 85 = .ok (.goto 34, 3) := by decide +kernel
theorem dX1_times_88 : decode cX1_times 88 = .ok (.iconst 0, 1) := by decide +kernel
theorem dX1_times_89 : decode cX1_times 89 = .ok (.goto 30, 3) := by decide +kernel
theorem dX1_times_92 : decode cX1_times 92 = .ok (.aload_n 0, 1) := by decide +kernel
theorem dX1_times_93 : decode cX1_times 93 = .ok (.getfield 23, 3) := by decide +kernel
theorem dX1_times_96 : decode cX1_times 96 = .ok (.iload 5, 2) := by decide +kernel
theorem dX1_times_98 : decode cX1_times 98 = .ok (.iaload, 1) := by decide +kernel
theorem dX1_times_99 : decode cX1_times 99 = .ok (.iload_n 2, 1) := by decide +kernel
theorem dX1_times_100 : decode cX1_times 100 = .ok (.if_icmp .ne 18, 3) := by decide +kernel
theorem dX1_times_103 : decode cX1_times 103 = .ok (.aload_n 0, 1) := by decide +kernel
theorem dX1_times_104 : decode cX1_times 104 = .ok (.getfield 20, 3) := by decide +kernel
theorem dX1_times_107 : decode cX1_times 107 = .ok (.iload 5, 2) := by decide +kernel
theorem dX1_times_109 : decode cX1_times 109 = .ok (.iaload, 1) := by decide +kernel
theorem dX1_times_110 : decode cX1_times 110 = .ok (.iload_n 3, 1) := by decide +kernel
theorem dX1_times_111 : decode cX1_times 111 = .ok (.if_icmp .ne 7, 3) := by decide +kernel
theorem dX1_times_114 : decode cX1_times 114 = .ok (.iconst 1, 1) := by decide +kernel
theorem dX1_times_115 : decode cX1_times 115 = .ok (.goto 4, 3) := by decide +kernel
theorem dX1_times_118 : decode cX1_times 118 = .ok (.iconst 0, 1) := by decide +kernel
theorem dX1_times_119 : decode cX1_times 119 = .ok (.istore 6, 2) := by decide +kernel
theorem dX1_times_121 : decode cX1_times 121 = .ok (.iload 6, 2) := by decide +kernel
theorem dX1_times_123 : decode cX1_times 123 = .ok (.ifCond .eq 10, 3) := by decide +kernel
theorem dX1_times_126 : decode cX1_times 126 = .ok (.iload 4, 2) := by decide +kernel
theorem dX1_times_128 : decode cX1_times 128 = .ok (.iconst 1, 1) := by decide +kernel
theorem dX1_times_129 : decode cX1_times 129 = .ok (.iadd, 1) := by decide +kernel
theorem dX1_times_130 : decode cX1_times 130 = .ok (.goto 5, 3) := by decide +kernel
theorem dX1_times_133 : decode cX1_times 133 = .ok (.iload 4, 2) := by decide +kernel
theorem dX1_times_135 : decode cX1_times 135 = .ok (.istore 4, 2) := by decide +kernel
theorem dX1_times_137 : decode cX1_times 137 = .ok (.iinc 5 1, 3) := by decide +kernel
theorem dX1_times_140 : decode cX1_times 140 = .ok (.goto (-134), 3) := by decide +kernel
theorem dX1_times_143 : decode cX1_times 143 = .ok (.iload 4, 2) := by decide +kernel
theorem dX1_times_145 : decode cX1_times 145 = .ok (.ireturn, 1) := by decide +kernel
theorem dX1_sum_0 : decode cX1_sum 0 = .ok (.lconst 0, 1) := by decide +kernel
theorem dX1_sum_1 : decode cX1_sum 1 = .ok (.lstore 4, 2) := by decide +kernel
theorem dX1_sum_3 : decode cX1_sum 3 = .ok (.aload_n 0, 1) := by decide +kernel
theorem dX1_sum_4 : decode cX1_sum 4 = .ok (.aload_n 0, 1) := by decide +kernel
theorem dX1_sum_5 : decode cX1_sum 5 = .ok (.getfield 39, 3) := by decide +kernel
theorem dX1_sum_8 : decode cX1_sum 8 = .ok (.invokevirtual 65, 3) := by decide +kernel
theorem dX1_sum_11 : decode cX1_sum 11 = .ok (.istore 6, 2) := by decide +kernel
theorem dX1_sum_13 : decode cX1_sum 13 = .ok (.iconst 0, 1) := by decide +kernel
theorem dX1_sum_14 : decode cX1_sum 14 = .ok (.istore 7, 2) := by decide +kernel
theorem dX1_sum_16 : decode cX1_sum 16 = .ok (.iload 7, 2) := by decide +kernel
theorem dX1_sum_18 : decode cX1_sum 18 = .ok (.iload 6, 2) := by decide +kernel
theorem dX1_sum_20 : decode cX1_sum 20 = .ok (.if_icmp .ge 33, 3) := by decide +kernel
theorem dX1_sum_23 : decode cX1_sum 23 = .ok (.aload_n 0, 1) := by decide +kernel
theorem dX1_sum_24 : decode cX1_sum 24 = .ok (.iload 7, 2) := by decide +kernel
theorem dX1_sum_26 : decode cX1_sum 26 = .ok (.invokevirtual 69, 3) := by decide +kernel
theorem dX1_sum_29 : decode cX1_sum 29 = .ok (.lstore 8, 2) := by decide +kernel
theorem dX1_sum_31 : decode cX1_sum 31 = .ok (.lload 4, 2) := by decide +kernel
theorem dX1_sum_33 : decode cX1_sum 33 = .ok (.lload 8, 2) := by decide +kernel
theorem dX1_sum_35 : decode cX1_sum 35 = .ok (.aload_n 0, 1) := by decide +kernel
theorem dX1_sum_36 : decode cX1_sum 36 = .ok (.iload_n 1, 1) := by decide +kernel
theorem dX1_sum_37 : decode cX1_sum 37 = .ok (.iload_n 2, 1) := by decide +kernel
theorem dX1_sum_38 : decode cX1_sum 38 = .ok (.iload_n 3, 1) := by decide +kernel
theorem dX1_sum_39 : decode cX1_sum 39 = .ok (.invokevirtual 83, 3) := by decide +kernel
theorem dX1_sum_42 : decode cX1_sum 42 = .ok (.i2l, 1) := by decide +kernel
theorem dX1_sum_43 : decode cX1_sum 43 = .ok (.lmul, 1) := by decide +kernel
theorem dX1_sum_44 : decode cX1_sum 44 = .ok (.ladd, 1) := by decide +kernel
theorem dX1_sum_45 : decode cX1_sum 45 = .ok (.lstore 4, 2) := by decide +kernel
theorem dX1_sum_47 : decode cX1_sum 47 = .ok (.iinc 7 1, 3) := by decide +kernel
theorem dX1_sum_50 : decode cX1_sum 50 = .ok (.goto (-34), 3) := by decide +kernel
theorem dX1_sum_53 : decode cX1_sum 53 = .ok (.lload 4, 2) := by decide +kernel
theorem dX1_sum_55 : decode cX1_sum 55 = .ok (.lreturn, 1) := by decide +kernel
theorem dX1_share_0 : decode cX1_share 0 = .ok (.iload_n 1, 1) := by decide +kernel
theorem dX1_share_1 : decode cX1_share 1 = .ok (.ifCond .ne 31, 3) := by decide +kernel
theorem dX1_share_4 : decode cX1_share 4 = .ok (.iload_n 2, 1) := by decide +kernel
theorem dX1_share_5 : decode cX1_share 5 = .ok (.ifCond .lt 23, 3) := by decide +kernel
theorem dX1_share_8 : decode cX1_share 8 = .ok (.iload_n 2, 1) := by decide +kernel
theorem dX1_share_9 : decode cX1_share 9 = .ok (.aload_n 0, 1) := by decide +kernel
theorem dX1_share_10 : decode cX1_share 10 = .ok (.getfield 39, 3) := by decide +kernel
theorem dX1_share_13 : decode cX1_share 13 = .ok (.if_icmp .ge 15, 3) := by decide +kernel
theorem dX1_share_16 : decode cX1_share 16 = .ok (.aload_n 0, 1) := by decide +kernel
theorem dX1_share_17 : decode cX1_share 17 = .ok (.iload_n 3, 1) := by decide +kernel
theorem dX1_share_18 : decode cX1_share 18 = .ok (.invokevirtual 46, 3) := by decide +kernel
theorem dX1_share_21 : decode cX1_share 21 = .ok (.ifCond .eq 7, 3) := by decide +kernel
theorem dX1_share_24 : decode cX1_share 24 = .ok (.iconst 1, 1) := by decide +kernel
theorem dX1_share_25 : decode cX1_share 25 = .ok (.goto 22, 3) := by decide +kernel
theorem dX1_share_28 : decode cX1_share 28 = .ok (.iconst 0, 1) := by decide +kernel
theorem dX1_share_29 : decode cX1_share 29 = .ok (.goto 18, 3) := by decide +kernel
theorem dX1_share_32 : decode cX1_share 32 = .ok (.aload_n 0, 1) := by decide +kernel
theorem dX1_share_33 : decode cX1_share 33 = .ok (.iload_n 1, 1) := by decide +kernel
theorem dX1_share_34 : decode cX1_share 34 = .ok (.iload_n 2, 1) := by decide +kernel
theorem dX1_share_35 : decode cX1_share 35 = .ok (.iload_n 3, 1) := by decide +kernel
theorem dX1_share_36 : decode cX1_share 36 = .ok (.invokevirtual 53, 3) := by decide +kernel
theorem dX1_share_39 : decode cX1_share 39 = .ok (.ifCond .lt 7, 3) := by decide +kernel
theorem dX1_share_42 : decode cX1_share 42 = .ok (.iconst 1, 1) := by decide +kernel
theorem dX1_share_43 : decode cX1_share 43 = .ok (.goto 4, 3) := by decide +kernel
theorem dX1_share_46 : decode cX1_share 46 = .ok (.iconst 0, 1) := by decide +kernel
theorem dX1_share_47 : decode cX1_share 47 = .ok (.istore 5, 2) := by decide +kernel
theorem dX1_share_49 : decode cX1_share 49 = .ok (.iload 5, 2) := by decide +kernel
theorem dX1_share_51 : decode cX1_share 51 = .ok (.ifCond .ne 5, 3) := by decide +kernel
theorem dX1_share_54 : decode cX1_share 54 = .ok (.lconst 0, 1) := by decide +kernel
theorem dX1_share_55 : decode cX1_share 55 = .ok (.lreturn, 1) := by decide +kernel
theorem dX1_share_56 : decode cX1_share 56 = .ok (.aload_n 0, 1) := by decide +kernel
theorem dX1_share_57 : decode cX1_share 57 = .ok (.invokevirtual 86, 3) := by decide +kernel
theorem dX1_share_60 : decode cX1_share 60 = .ok (.lstore 6, 2) := by decide +kernel
theorem dX1_share_62 : decode cX1_share 62 = .ok (.aload_n 0, 1) := by decide +kernel
theorem dX1_share_63 : decode cX1_share 63 = .ok (.lload 6, 2) := by decide +kernel
theorem dX1_share_65 : decode cX1_share 65 = .ok (.lconst 0, 1) := by decide +kernel
theorem dX1_share_66 : decode cX1_share 66 = .ok (.lcmp, 1) := by decide +kernel
theorem dX1_share_67 : decode cX1_share 67 = .ok (.ifCond .ne 7, 3) := by decide +kernel
theorem dX1_share_70 : decode cX1_share 70 = .ok (.lconst 0, 1) := by decide +kernel
theorem dX1_share_71 : decode cX1_share 71 = .ok (.goto 10, 3) := by decide +kernel
theorem dX1_share_74 : decode cX1_share 74 = .ok (.aload_n 0, 1) := by decide +kernel
theorem dX1_share_75 : decode cX1_share 75 = .ok (.iload_n 1, 1) := by decide +kernel
theorem dX1_share_76 : decode cX1_share 76 = .ok (.iload_n 2, 1) := by decide +kernel
theorem dX1_share_77 : decode cX1_share 77 = .ok (.iload_n 3, 1) := by decide +kernel
theorem dX1_share_78 : decode cX1_share 78 = .ok (.invokevirtual 90, 3) := by decide +kernel
theorem dX1_share_81 : decode cX1_share 81 = .ok (.lload 6, 2) := by decide +kernel
theorem dX1_share_83 : decode cX1_share 83 = .ok (.lconst 0, 1) := by decide +kernel
theorem dX1_share_84 : decode cX1_share 84 = .ok (.lcmp, 1) := by decide +kernel
theorem dX1_share_85 : decode cX1_share 85 = .ok (.ifCond .ne 7, 3) := by decide +kernel
theorem dX1_share_88 : decode cX1_share 88 = .ok (.lconst 1, 1) := by decide +kernel
theorem dX1_share_89 : decode cX1_share 89 = .ok (.goto 5, 3) := by decide +kernel
theorem dX1_share_92 : decode cX1_share 92 = .ok (.lload 6, 2) := by decide +kernel
theorem dX1_share_94 : decode cX1_share 94 = .ok (.invokevirtual 94, 3) := by decide +kernel
theorem dX1_share_97 : decode cX1_share 97 = .ok (.aload_n 0, 1) := by decide +kernel
theorem dX1_share_98 : decode cX1_share 98 = .ok (.iload 4, 2) := by decide +kernel
theorem dX1_share_100 : decode cX1_share 100 = .ok (.invokevirtual 98, 3) := by decide +kernel
theorem dX1_share_103 : decode cX1_share 103 = .ok (.lreturn, 1) := by decide +kernel
theorem dX1_columns_0 : decode cX1_columns 0 = .ok (.iload_n 1, 1) := by decide +kernel
theorem dX1_columns_1 : decode cX1_columns 1 = .ok (.iconst 2, 1) := by decide +kernel
theorem dX1_columns_2 : decode cX1_columns 2 = .ok (.if_icmp .ne 10, 3) := by decide +kernel
theorem dX1_columns_5 : decode cX1_columns 5 = .ok (.aload_n 0, 1) := by decide +kernel
theorem dX1_columns_6 : decode cX1_columns 6 = .ok (.getfield 13, 3) := by decide +kernel
theorem dX1_columns_9 : decode cX1_columns 9 = .ok (.goto 7, 3) := by decide +kernel
theorem dX1_columns_12 : decode cX1_columns 12 = .ok (.aload_n 0, 1) := by decide +kernel
theorem dX1_columns_13 : decode cX1_columns 13 = .ok (.getfield 7, 3) := by decide +kernel
theorem dX1_columns_16 : decode cX1_columns 16 = .ok (.ireturn, 1) := by decide +kernel
theorem dX1_learnOne_0 : decode cX1_learnOne 0 = .ok (.lconst 0, 1) := by decide +kernel
theorem dX1_learnOne_1 : decode cX1_learnOne 1 = .ok (.lstore 4, 2) := by decide +kernel
theorem dX1_learnOne_3 : decode cX1_learnOne 3 = .ok (.iload_n 1, 1) := by decide +kernel
theorem dX1_learnOne_4 : decode cX1_learnOne 4 = .ok (.ifCond .ne 14, 3) := by decide +kernel
theorem dX1_learnOne_7 : decode cX1_learnOne 7 = .ok (.aload_n 0, 1) := by decide +kernel
theorem dX1_learnOne_8 : decode cX1_learnOne 8 = .ok (.getfield 39, 3) := by decide +kernel
theorem dX1_learnOne_11 : decode cX1_learnOne 11 = .ok (.ifCond .ne 7, 3) := by decide +kernel
theorem dX1_learnOne_14 : decode cX1_learnOne 14 = .ok (.lconst 0, 1) := by decide +kernel
theorem dX1_learnOne_15 : decode cX1_learnOne 15 = .ok (.goto 10, 3) := by decide +kernel
theorem dX1_learnOne_18 : decode cX1_learnOne 18 = .ok (.aload_n 0, 1) := by decide +kernel
theorem dX1_learnOne_19 : decode cX1_learnOne 19 = .ok (.iload_n 1, 1) := by decide +kernel
theorem dX1_learnOne_20 : decode cX1_learnOne 20 = .ok (.iload_n 2, 1) := by decide +kernel
theorem dX1_learnOne_21 : decode cX1_learnOne 21 = .ok (.iload_n 3, 1) := by decide +kernel
theorem dX1_learnOne_22 : decode cX1_learnOne 22 = .ok (.invokevirtual 90, 3) := by decide +kernel
theorem dX1_learnOne_25 : decode cX1_learnOne 25 = .ok (.lstore 6, 2) := by decide +kernel
theorem dX1_learnOne_27 : decode cX1_learnOne 27 = .ok (.lconst 0, 1) := by decide +kernel
theorem dX1_learnOne_28 : decode cX1_learnOne 28 = .ok (.lstore 8, 2) := by decide +kernel
theorem dX1_learnOne_30 : decode cX1_learnOne 30 = .ok (.iconst 0, 1) := by decide +kernel
theorem dX1_learnOne_31 : decode cX1_learnOne 31 = .ok (.istore 10, 2) := by decide +kernel
theorem dX1_learnOne_33 : decode cX1_learnOne 33 = .ok (.iload 10, 2) := by decide +kernel
theorem dX1_learnOne_35 : decode cX1_learnOne 35 = .ok (.aload_n 0, 1) := by decide +kernel
theorem dX1_learnOne_36 : decode cX1_learnOne 36 = .ok (.iload_n 1, 1) := by decide +kernel
theorem dX1_learnOne_37 : decode cX1_learnOne 37 = .ok (.invokevirtual 101, 3) := by decide +kernel
theorem dX1_learnOne_40 : decode cX1_learnOne 40 = .ok (.if_icmp .ge 56, 3) := by decide +kernel
theorem dX1_learnOne_43 : decode cX1_learnOne 43 = .ok (.lload 4, 2) := by decide +kernel
theorem dX1_learnOne_45 : decode cX1_learnOne 45 = .ok (.aload_n 0, 1) := by decide +kernel
theorem dX1_learnOne_46 : decode cX1_learnOne 46 = .ok (.getfield 16, 3) := by decide +kernel
theorem dX1_learnOne_49 : decode cX1_learnOne 49 = .ok (.aload_n 0, 1) := by decide +kernel
theorem dX1_learnOne_50 : decode cX1_learnOne 50 = .ok (.iload_n 1, 1) := by decide +kernel
theorem dX1_learnOne_51 : decode cX1_learnOne 51 = .ok (.iload_n 2, 1) := by decide +kernel
theorem dX1_learnOne_52 : decode cX1_learnOne 52 = .ok (.iload 10, 2) := by decide +kernel
theorem dX1_learnOne_54 : decode cX1_learnOne 54 = .ok (.invokevirtual 53, 3) := by decide +kernel
theorem dX1_learnOne_57 : decode cX1_learnOne 57 = .ok (.iaload, 1) := by decide +kernel
theorem dX1_learnOne_58 : decode cX1_learnOne 58 = .ok (.i2l, 1) := by decide +kernel
theorem dX1_learnOne_59 : decode cX1_learnOne 59 = .ok (.ladd, 1) := by decide +kernel
theorem dX1_learnOne_60 : decode cX1_learnOne 60 = .ok (.lstore 4, 2) := by decide +kernel
theorem dX1_learnOne_62 : decode cX1_learnOne 62 = .ok (.lload 8, 2) := by decide +kernel
theorem dX1_learnOne_64 : decode cX1_learnOne 64 = .ok (.iload_n 1, 1) := by decide +kernel
theorem dX1_learnOne_65 : decode cX1_learnOne 65 = .ok (.ifCond .ne 14, 3) := by decide +kernel
theorem dX1_learnOne_68 : decode cX1_learnOne 68 = .ok (.aload_n 0, 1) := by decide +kernel
theorem dX1_learnOne_69 : decode cX1_learnOne 69 = .ok (.getfield 39, 3) := by decide +kernel
theorem dX1_learnOne_72 : decode cX1_learnOne 72 = .ok (.ifCond .ne 7, 3) := by decide +kernel
theorem dX1_learnOne_75 : decode cX1_learnOne 75 = .ok (.lconst 0, 1) := by decide +kernel
theorem dX1_learnOne_76 : decode cX1_learnOne 76 = .ok (.goto 11, 3) := by decide +kernel
theorem dX1_learnOne_79 : decode cX1_learnOne 79 = .ok (.aload_n 0, 1) := by decide +kernel
theorem dX1_learnOne_80 : decode cX1_learnOne 80 = .ok (.iload_n 1, 1) := by decide +kernel
theorem dX1_learnOne_81 : decode cX1_learnOne 81 = .ok (.iload_n 2, 1) := by decide +kernel
theorem dX1_learnOne_82 : decode cX1_learnOne 82 = .ok (.iload 10, 2) := by decide +kernel
theorem dX1_learnOne_84 : decode cX1_learnOne 84 = .ok (.invokevirtual 90, 3) := by decide +kernel
theorem dX1_learnOne_87 : decode cX1_learnOne 87 = .ok (.ladd, 1) := by decide +kernel
theorem dX1_learnOne_88 : decode cX1_learnOne 88 = .ok (.lstore 8, 2) := by decide +kernel
theorem dX1_learnOne_90 : decode cX1_learnOne 90 = .ok (.iinc 10 1, 3) := by decide +kernel
theorem dX1_learnOne_93 : decode cX1_learnOne 93 = .ok (.goto (-60), 3) := by decide +kernel
theorem dX1_learnOne_96 : decode cX1_learnOne 96 = .ok (.lload 8, 2) := by decide +kernel
theorem dX1_learnOne_98 : decode cX1_learnOne 98 = .ok (.lconst 0, 1) := by decide +kernel
theorem dX1_learnOne_99 : decode cX1_learnOne 99 = .ok (.lcmp, 1) := by decide +kernel
theorem dX1_learnOne_100 : decode cX1_learnOne 100 = .ok (.ifCond .le 14, 3) := by decide +kernel
theorem dX1_learnOne_103 : decode cX1_learnOne 103 = .ok (.aload_n 0, 1) := by decide +kernel
theorem dX1_learnOne_104 : decode cX1_learnOne 104 = .ok (.lload 6, 2) := by decide +kernel
theorem dX1_learnOne_106 : decode cX1_learnOne 106 = .ok (.lload 8, 2) := by decide +kernel
theorem dX1_learnOne_108 : decode cX1_learnOne 108 = .ok (.invokevirtual 94, 3) := by decide +kernel
theorem dX1_learnOne_111 : decode cX1_learnOne 111 = .ok (.goto 44, 3) := by decide +kernel
theorem dX1_learnOne_114 : decode cX1_learnOne 114 = .ok (.aload_n 0, 1) := by decide +kernel
theorem dX1_learnOne_115 : decode cX1_learnOne 115 = .ok (.lload 4, 2) := by decide +kernel
theorem dX1_learnOne_117 : decode cX1_learnOne 117 = .ok (.lconst 0, 1) := by decide +kernel
theorem dX1_learnOne_118 : decode cX1_learnOne 118 = .ok (.lcmp, 1) := by decide +kernel
theorem dX1_learnOne_119 : decode cX1_learnOne 119 = .ok (.ifCond .ne 7, 3) := by decide +kernel
theorem dX1_learnOne_122 : decode cX1_learnOne 122 = .ok (.lconst 0, 1) := by decide +kernel
theorem dX1_learnOne_123 : decode cX1_learnOne 123 = .ok (.goto 16, 3) := by decide +kernel
theorem dX1_learnOne_126 : decode cX1_learnOne 126 = .ok (.aload_n 0, 1) := by decide +kernel
theorem dX1_learnOne_127 : decode cX1_learnOne 127 = .ok (.getfield 16, 3) := by decide +kernel
theorem dX1_learnOne_130 : decode cX1_learnOne 130 = .ok (.aload_n 0, 1) := by decide +kernel
theorem dX1_learnOne_131 : decode cX1_learnOne 131 = .ok (.iload_n 1, 1) := by decide +kernel
theorem dX1_learnOne_132 : decode cX1_learnOne 132 = .ok (.iload_n 2, 1) := by decide +kernel
theorem dX1_learnOne_133 : decode cX1_learnOne 133 = .ok (.iload_n 3, 1) := by decide +kernel
theorem dX1_learnOne_134 : decode cX1_learnOne 134 = .ok (.invokevirtual 53, 3) := by decide +kernel
theorem dX1_learnOne_137 : decode cX1_learnOne 137 = .ok (.iaload, 1) := by decide +kernel
theorem dX1_learnOne_138 : decode cX1_learnOne 138 = .ok (.i2l, 1) := by decide +kernel
theorem dX1_learnOne_139 : decode cX1_learnOne 139 = .ok (.lload 4, 2) := by decide +kernel
theorem dX1_learnOne_141 : decode cX1_learnOne 141 = .ok (.lconst 0, 1) := by decide +kernel
theorem dX1_learnOne_142 : decode cX1_learnOne 142 = .ok (.lcmp, 1) := by decide +kernel
theorem dX1_learnOne_143 : decode cX1_learnOne 143 = .ok (.ifCond .ne 7, 3) := by decide +kernel
theorem dX1_learnOne_146 : decode cX1_learnOne 146 = .ok (.lconst 1, 1) := by decide +kernel
theorem dX1_learnOne_147 : decode cX1_learnOne 147 = .ok (.goto 5, 3) := by decide +kernel
theorem dX1_learnOne_150 : decode cX1_learnOne 150 = .ok (.lload 4, 2) := by decide +kernel
theorem dX1_learnOne_152 : decode cX1_learnOne 152 = .ok (.invokevirtual 94, 3) := by decide +kernel
theorem dX1_learnOne_155 : decode cX1_learnOne 155 = .ok (.return_, 1) := by decide +kernel
theorem dX1_learned_0 : decode cX1_learned 0 = .ok (.aload_n 0, 1) := by decide +kernel
theorem dX1_learned_1 : decode cX1_learned 1 = .ok (.iload_n 1, 1) := by decide +kernel
theorem dX1_learned_2 : decode cX1_learned 2 = .ok (.iload_n 2, 1) := by decide +kernel
theorem dX1_learned_3 : decode cX1_learned 3 = .ok (.iload_n 3, 1) := by decide +kernel
theorem dX1_learned_4 : decode cX1_learned 4 = .ok (.invokevirtual 53, 3) := by decide +kernel
theorem dX1_learned_7 : decode cX1_learned 7 = .ok (.ifCond .ge 5, 3) := by decide +kernel
theorem dX1_learned_10 : decode cX1_learned 10 = .ok (.lconst 0, 1) := by decide +kernel
theorem dX1_learned_11 : decode cX1_learned 11 = .ok (.lreturn, 1) := by decide +kernel
theorem dX1_learned_12 : decode cX1_learned 12 = .ok (.aload_n 0, 1) := by decide +kernel
theorem dX1_learned_13 : decode cX1_learned 13 = .ok (.iload_n 1, 1) := by decide +kernel
theorem dX1_learned_14 : decode cX1_learned 14 = .ok (.iload_n 2, 1) := by decide +kernel
theorem dX1_learned_15 : decode cX1_learned 15 = .ok (.iload_n 3, 1) := by decide +kernel
theorem dX1_learned_16 : decode cX1_learned 16 = .ok (.invokevirtual 104, 3) := by decide +kernel
theorem dX1_learned_19 : decode cX1_learned 19 = .ok (.aload_n 0, 1) := by decide +kernel
theorem dX1_learned_20 : decode cX1_learned 20 = .ok (.iload 4, 2) := by decide +kernel
theorem dX1_learned_22 : decode cX1_learned 22 = .ok (.invokevirtual 98, 3) := by decide +kernel
theorem dX1_learned_25 : decode cX1_learned 25 = .ok (.lreturn, 1) := by decide +kernel
theorem dX1_learn_0 : decode cX1_learn 0 = .ok (.iconst 0, 1) := by decide +kernel
theorem dX1_learn_1 : decode cX1_learn 1 = .ok (.istore_n 1, 1) := by decide +kernel
theorem dX1_learn_2 : decode cX1_learn 2 = .ok (.iconst 0, 1) := by decide +kernel
theorem dX1_learn_3 : decode cX1_learn 3 = .ok (.istore_n 2, 1) := by decide +kernel
theorem dX1_learn_4 : decode cX1_learn 4 = .ok (.iload_n 2, 1) := by decide +kernel
theorem dX1_learn_5 : decode cX1_learn 5 = .ok (.iconst 3, 1) := by decide +kernel
theorem dX1_learn_6 : decode cX1_learn 6 = .ok (.if_icmp .ge 105, 3) := by decide +kernel
theorem dX1_learn_9 : decode cX1_learn 9 = .ok (.iconst 0, 1) := by decide +kernel
theorem dX1_learn_10 : decode cX1_learn 10 = .ok (.istore_n 3, 1) := by decide +kernel
theorem dX1_learn_11 : decode cX1_learn 11 = .ok (.iload_n 3, 1) := by decide +kernel
theorem dX1_learn_12 : decode cX1_learn 12 = .ok (.aload_n 0, 1) := by decide +kernel
theorem dX1_learn_13 : decode cX1_learn 13 = .ok (.getfield 7, 3) := by decide +kernel
theorem dX1_learn_16 : decode cX1_learn 16 = .ok (.if_icmp .ge 89, 3) := by decide +kernel
theorem dX1_learn_19 : decode cX1_learn 19 = .ok (.iload_n 2, 1) := by decide +kernel
theorem dX1_learn_20 : decode cX1_learn 20 = .ok (.ifCond .gt 7, 3) := by decide +kernel
theorem dX1_learn_23 : decode cX1_learn 23 = .ok (.iload_n 3, 1) := by decide +kernel
theorem dX1_learn_24 : decode cX1_learn 24 = .ok (.ifCond .ne 81, 3) := by decide +kernel
theorem dX1_learn_27 : decode cX1_learn 27 = .ok (.iconst 0, 1) := by decide +kernel
theorem dX1_learn_28 : decode cX1_learn 28 = .ok (.istore 4, 2) := by decide +kernel
theorem dX1_learn_30 : decode cX1_learn 30 = .ok (.iload 4, 2) := by decide +kernel
theorem dX1_learn_32 : decode cX1_learn 32 = .ok (.aload_n 0, 1) := by decide +kernel
theorem dX1_learn_33 : decode cX1_learn 33 = .ok (.iload_n 2, 1) := by decide +kernel
theorem dX1_learn_34 : decode cX1_learn 34 = .ok (.invokevirtual 101, 3) := by decide +kernel
theorem dX1_learn_37 : decode cX1_learn 37 = .ok (.if_icmp .ge 62, 3) := by decide +kernel
theorem dX1_learn_40 : decode cX1_learn 40 = .ok (.aload_n 0, 1) := by decide +kernel
theorem dX1_learn_41 : decode cX1_learn 41 = .ok (.iload_n 2, 1) := by decide +kernel
theorem dX1_learn_42 : decode cX1_learn 42 = .ok (.iload_n 3, 1) := by decide +kernel
theorem dX1_learn_43 : decode cX1_learn 43 = .ok (.iload 4, 2) := by decide +kernel
theorem dX1_learn_45 : decode cX1_learn 45 = .ok (.invokevirtual 104, 3) := by decide +kernel
theorem dX1_learn_48 : decode cX1_learn 48 = .ok (.ldc2_w 107, 3) := by decide +kernel
theorem dX1_learn_51 : decode cX1_learn 51 = .ok (.aload_n 0, 1) := by decide +kernel
theorem dX1_learn_52 : decode cX1_learn 52 = .ok (.getfield 76, 3) := by decide +kernel
theorem dX1_learn_55 : decode cX1_learn 55 = .ok (.lmul, 1) := by decide +kernel
theorem dX1_learn_56 : decode cX1_learn 56 = .ok (.aload_n 0, 1) := by decide +kernel
theorem dX1_learn_57 : decode cX1_learn 57 = .ok (.getfield 80, 3) := by decide +kernel
theorem dX1_learn_60 : decode cX1_learn 60 = .ok (.ladd, 1) := by decide +kernel
theorem dX1_learn_61 : decode cX1_learn 61 = .ok (.ldc2_w 109, 3) := by decide +kernel
theorem dX1_learn_64 : decode cX1_learn 64 = .ok (.aload_n 0, 1) := by decide +kernel
theorem dX1_learn_65 : decode cX1_learn 65 = .ok (.getfield 80, 3) := by decide +kernel
theorem dX1_learn_68 : decode cX1_learn 68 = .ok (.lmul, 1) := by decide +kernel
theorem dX1_learn_69 : decode cX1_learn 69 = .ok (.ldiv, 1) := by decide +kernel
theorem dX1_learn_70 : decode cX1_learn 70 = .ok (.l2i, 1) := by decide +kernel
theorem dX1_learn_71 : decode cX1_learn 71 = .ok (.istore 5, 2) := by decide +kernel
theorem dX1_learn_73 : decode cX1_learn 73 = .ok (.aload_n 0, 1) := by decide +kernel
theorem dX1_learn_74 : decode cX1_learn 74 = .ok (.getfield 33, 3) := by decide +kernel
theorem dX1_learn_77 : decode cX1_learn 77 = .ok (.aload_n 0, 1) := by decide +kernel
theorem dX1_learn_78 : decode cX1_learn 78 = .ok (.iload_n 2, 1) := by decide +kernel
theorem dX1_learn_79 : decode cX1_learn 79 = .ok (.iload_n 3, 1) := by decide +kernel
theorem dX1_learn_80 : decode cX1_learn 80 = .ok (.iload 4, 2) := by decide +kernel
theorem dX1_learn_82 : decode cX1_learn 82 = .ok (.invokevirtual 53, 3) := by decide +kernel
theorem dX1_learn_85 : decode cX1_learn 85 = .ok (.iload 5, 2) := by decide +kernel
theorem dX1_learn_87 : decode cX1_learn 87 = .ok (.iastore, 1) := by decide +kernel
theorem dX1_learn_88 : decode cX1_learn 88 = .ok (.iload_n 1, 1) := by decide +kernel
theorem dX1_learn_89 : decode cX1_learn 89 = .ok (.iload 5, 2) := by decide +kernel
theorem dX1_learn_91 : decode cX1_learn 91 = .ok (.iadd, 1) := by decide +kernel
theorem dX1_learn_92 : decode cX1_learn 92 = .ok (.istore_n 1, 1) := by decide +kernel
theorem dX1_learn_93 : decode cX1_learn 93 = .ok (.iinc 4 1, 3) := by decide +kernel
theorem dX1_learn_96 : decode cX1_learn 96 = .ok (.goto (-66), 3) := by decide +kernel
theorem dX1_learn_99 : decode cX1_learn 99 = .ok (.iinc 3 1, 3) := by decide +kernel
theorem dX1_learn_102 : decode cX1_learn 102 = .ok (.goto (-91), 3) := by decide +kernel
theorem dX1_learn_105 : decode cX1_learn 105 = .ok (.iinc 2 1, 3) := by decide +kernel
theorem dX1_learn_108 : decode cX1_learn 108 = .ok (.goto (-104), 3) := by decide +kernel
theorem dX1_learn_111 : decode cX1_learn 111 = .ok (.iconst 0, 1) := by decide +kernel
theorem dX1_learn_112 : decode cX1_learn 112 = .ok (.istore_n 2, 1) := by decide +kernel
theorem dX1_learn_113 : decode cX1_learn 113 = .ok (.iload_n 2, 1) := by decide +kernel
theorem dX1_learn_114 : decode cX1_learn 114 = .ok (.iconst 3, 1) := by decide +kernel
theorem dX1_learn_115 : decode cX1_learn 115 = .ok (.if_icmp .ge 78, 3) := by decide +kernel
theorem dX1_learn_118 : decode cX1_learn 118 = .ok (.iconst 0, 1) := by decide +kernel
theorem dX1_learn_119 : decode cX1_learn 119 = .ok (.istore_n 3, 1) := by decide +kernel
theorem dX1_learn_120 : decode cX1_learn 120 = .ok (.iload_n 3, 1) := by decide +kernel
theorem dX1_learn_121 : decode cX1_learn 121 = .ok (.aload_n 0, 1) := by decide +kernel
theorem dX1_learn_122 : decode cX1_learn 122 = .ok (.getfield 7, 3) := by decide +kernel
theorem dX1_learn_125 : decode cX1_learn 125 = .ok (.if_icmp .ge 62, 3) := by decide +kernel
theorem dX1_learn_128 : decode cX1_learn 128 = .ok (.iload_n 2, 1) := by decide +kernel
theorem dX1_learn_129 : decode cX1_learn 129 = .ok (.ifCond .gt 7, 3) := by decide +kernel
theorem dX1_learn_132 : decode cX1_learn 132 = .ok (.iload_n 3, 1) := by decide +kernel
theorem dX1_learn_133 : decode cX1_learn 133 = .ok (.ifCond .ne 54, 3) := by decide +kernel
theorem dX1_learn_136 : decode cX1_learn 136 = .ok (.iconst 0, 1) := by decide +kernel
theorem dX1_learn_137 : decode cX1_learn 137 = .ok (.istore 4, 2) := by decide +kernel
theorem dX1_learn_139 : decode cX1_learn 139 = .ok (.iload 4, 2) := by decide +kernel
theorem dX1_learn_141 : decode cX1_learn 141 = .ok (.aload_n 0, 1) := by decide +kernel
theorem dX1_learn_142 : decode cX1_learn 142 = .ok (.iload_n 2, 1) := by decide +kernel
theorem dX1_learn_143 : decode cX1_learn 143 = .ok (.invokevirtual 101, 3) := by decide +kernel
theorem dX1_learn_146 : decode cX1_learn 146 = .ok (.if_icmp .ge 35, 3) := by decide +kernel
theorem dX1_learn_149 : decode cX1_learn 149 = .ok (.aload_n 0, 1) := by decide +kernel
theorem dX1_learn_150 : decode cX1_learn 150 = .ok (.getfield 16, 3) := by decide +kernel
theorem dX1_learn_153 : decode cX1_learn 153 = .ok (.aload_n 0, 1) := by decide +kernel
theorem dX1_learn_154 : decode cX1_learn 154 = .ok (.iload_n 2, 1) := by decide +kernel
theorem dX1_learn_155 : decode cX1_learn 155 = .ok (.iload_n 3, 1) := by decide +kernel
theorem dX1_learn_156 : decode cX1_learn 156 = .ok (.iload 4, 2) := by decide +kernel
theorem dX1_learn_158 : decode cX1_learn 158 = .ok (.invokevirtual 53, 3) := by decide +kernel
theorem dX1_learn_161 : decode cX1_learn 161 = .ok (.aload_n 0, 1) := by decide +kernel
theorem dX1_learn_162 : decode cX1_learn 162 = .ok (.getfield 33, 3) := by decide +kernel
theorem dX1_learn_165 : decode cX1_learn 165 = .ok (.aload_n 0, 1) := by decide +kernel
theorem dX1_learn_166 : decode cX1_learn 166 = .ok (.iload_n 2, 1) := by decide +kernel
theorem dX1_learn_167 : decode cX1_learn 167 = .ok (.iload_n 3, 1) := by decide +kernel
theorem dX1_learn_168 : decode cX1_learn 168 = .ok (.iload 4, 2) := by decide +kernel
theorem dX1_learn_170 : decode cX1_learn 170 = .ok (.invokevirtual 53, 3) := by decide +kernel
theorem dX1_learn_173 : decode cX1_learn 173 = .ok (.iaload, 1) := by decide +kernel
theorem dX1_learn_174 : decode cX1_learn 174 = .ok (.iastore, 1) := by decide +kernel
theorem dX1_learn_175 : decode cX1_learn 175 = .ok (.iinc 4 1, 3) := by decide +kernel
theorem dX1_learn_178 : decode cX1_learn 178 = .ok (.goto (-39), 3) := by decide +kernel
theorem dX1_learn_181 : decode cX1_learn 181 = .ok (.iinc 3 1, 3) := by decide +kernel
theorem dX1_learn_184 : decode cX1_learn 184 = .ok (.goto (-64), 3) := by decide +kernel
theorem dX1_learn_187 : decode cX1_learn 187 = .ok (.iinc 2 1, 3) := by decide +kernel
theorem dX1_learn_190 : decode cX1_learn 190 = .ok (.goto (-77), 3) := by decide +kernel
theorem dX1_learn_193 : decode cX1_learn 193 = .ok (.iload_n 1, 1) := by decide +kernel
theorem dX1_learn_194 : decode cX1_learn 194 = .ok (.ireturn, 1) := by decide +kernel
theorem dX1_draw_0 : decode cX1_draw 0 = .ok (.lload_n 1, 1) := by decide +kernel
theorem dX1_draw_1 : decode cX1_draw 1 = .ok (.lconst 0, 1) := by decide +kernel
theorem dX1_draw_2 : decode cX1_draw 2 = .ok (.lcmp, 1) := by decide +kernel
theorem dX1_draw_3 : decode cX1_draw 3 = .ok (.ifCond .ge 5, 3) := by decide +kernel
theorem dX1_draw_6 : decode cX1_draw 6 = .ok (.iconst 0, 1) := by decide +kernel
theorem dX1_draw_7 : decode cX1_draw 7 = .ok (.ireturn, 1) := by decide +kernel
theorem dX1_draw_8 : decode cX1_draw 8 = .ok (.lload_n 1, 1) := by decide +kernel
theorem dX1_draw_9 : decode cX1_draw 9 = .ok (.lstore_n 3, 1) := by decide +kernel
theorem dX1_draw_10 : decode cX1_draw 10 = .ok (.aload_n 0, 1) := by decide +kernel
theorem dX1_draw_11 : decode cX1_draw 11 = .ok (.aload_n 0, 1) := by decide +kernel
theorem dX1_draw_12 : decode cX1_draw 12 = .ok (.getfield 39, 3) := by decide +kernel
theorem dX1_draw_15 : decode cX1_draw 15 = .ok (.invokevirtual 65, 3) := by decide +kernel
theorem dX1_draw_18 : decode cX1_draw 18 = .ok (.istore 5, 2) := by decide +kernel
theorem dX1_draw_20 : decode cX1_draw 20 = .ok (.iconst 0, 1) := by decide +kernel
theorem dX1_draw_21 : decode cX1_draw 21 = .ok (.istore 6, 2) := by decide +kernel
theorem dX1_draw_23 : decode cX1_draw 23 = .ok (.iload 6, 2) := by decide +kernel
theorem dX1_draw_25 : decode cX1_draw 25 = .ok (.iload 5, 2) := by decide +kernel
theorem dX1_draw_27 : decode cX1_draw 27 = .ok (.if_icmp .ge 76, 3) := by decide +kernel
theorem dX1_draw_30 : decode cX1_draw 30 = .ok (.aload_n 0, 1) := by decide +kernel
theorem dX1_draw_31 : decode cX1_draw 31 = .ok (.iload 6, 2) := by decide +kernel
theorem dX1_draw_33 : decode cX1_draw 33 = .ok (.invokevirtual 69, 3) := by decide +kernel
theorem dX1_draw_36 : decode cX1_draw 36 = .ok (.lstore 7, 2) := by decide +kernel
theorem dX1_draw_38 : decode cX1_draw 38 = .ok (.lload_n 3, 1) := by decide +kernel
theorem dX1_draw_39 : decode cX1_draw 39 = .ok (.lload 7, 2) := by decide +kernel
theorem dX1_draw_41 : decode cX1_draw 41 = .ok (.lcmp, 1) := by decide +kernel
theorem dX1_draw_42 : decode cX1_draw 42 = .ok (.ifCond .ge 50, 3) := by decide +kernel
theorem dX1_draw_45 : decode cX1_draw 45 = .ok (.aload_n 0, 1) := by decide +kernel
theorem dX1_draw_46 : decode cX1_draw 46 = .ok (.iconst 1, 1) := by decide +kernel
theorem dX1_draw_47 : decode cX1_draw 47 = .ok (.putfield 42, 3) := by decide +kernel
theorem dX1_draw_50 : decode cX1_draw 50 = .ok (.aload_n 0, 1) := by decide +kernel
theorem dX1_draw_51 : decode cX1_draw 51 = .ok (.aload_n 0, 1) := by decide +kernel
theorem dX1_draw_52 : decode cX1_draw 52 = .ok (.getfield 39, 3) := by decide +kernel
theorem dX1_draw_55 : decode cX1_draw 55 = .ok (.putfield 111, 3) := by decide +kernel
theorem dX1_draw_58 : decode cX1_draw 58 = .ok (.iconst 0, 1) := by decide +kernel
theorem dX1_draw_59 : decode cX1_draw 59 = .ok (.istore 9, 2) := by decide +kernel
theorem dX1_draw_61 : decode cX1_draw 61 = .ok (.iload 9, 2) := by decide +kernel
theorem dX1_draw_63 : decode cX1_draw 63 = .ok (.aload_n 0, 1) := by decide +kernel
theorem dX1_draw_64 : decode cX1_draw 64 = .ok (.getfield 39, 3) := by decide +kernel
theorem dX1_draw_67 : decode cX1_draw 67 = .ok (.if_icmp .ge 23, 3) := by decide +kernel
theorem dX1_draw_70 : decode cX1_draw 70 = .ok (.aload_n 0, 1) := by decide +kernel
theorem dX1_draw_71 : decode cX1_draw 71 = .ok (.getfield 26, 3) := by decide +kernel
theorem dX1_draw_74 : decode cX1_draw 74 = .ok (.iload 9, 2) := by decide +kernel
theorem dX1_draw_76 : decode cX1_draw 76 = .ok (.aload_n 0, 1) := by decide +kernel
theorem dX1_draw_77 : decode cX1_draw 77 = .ok (.getfield 23, 3) := by decide +kernel
theorem dX1_draw_80 : decode cX1_draw 80 = .ok (.iload 9, 2) := by decide +kernel
theorem dX1_draw_82 : decode cX1_draw 82 = .ok (.iaload, 1) := by decide +kernel
theorem dX1_draw_83 : decode cX1_draw 83 = .ok (.iastore, 1) := by decide +kernel
theorem dX1_draw_84 : decode cX1_draw 84 = .ok (.iinc 9 1, 3) := by decide +kernel
theorem dX1_draw_87 : decode cX1_draw 87 = .ok (.goto (-26), 3) := by decide +kernel
theorem dX1_draw_90 : decode cX1_draw 90 = .ok (.iconst 1, 1) := by decide +kernel
theorem dX1_draw_91 : decode cX1_draw 91 = .ok (.ireturn, 1) := by decide +kernel
theorem dX1_draw_92 : decode cX1_draw 92 = .ok (.lload_n 3, 1) := by decide +kernel
theorem dX1_draw_93 : decode cX1_draw 93 = .ok (.lload 7, 2) := by decide +kernel
theorem dX1_draw_95 : decode cX1_draw 95 = .ok (.lsub, 1) := by decide +kernel
theorem dX1_draw_96 : decode cX1_draw 96 = .ok (.lstore_n 3, 1) := by decide +kernel
theorem dX1_draw_97 : decode cX1_draw 97 = .ok (.iinc 6 1, 3) := by decide +kernel
theorem dX1_draw_100 : decode cX1_draw 100 = .ok (.goto (-77), 3) := by decide +kernel
theorem dX1_draw_103 : decode cX1_draw 103 = .ok (.iconst 0, 1) := by decide +kernel
theorem dX1_draw_104 : decode cX1_draw 104 = .ok (.ireturn, 1) := by decide +kernel
theorem dX1_drawn_0 : decode cX1_drawn 0 = .ok (.aload_n 0, 1) := by decide +kernel
theorem dX1_drawn_1 : decode cX1_drawn 1 = .ok (.getfield 42, 3) := by decide +kernel
theorem dX1_drawn_4 : decode cX1_drawn 4 = .ok (.ifCond .eq 24, 3) := by decide +kernel
theorem dX1_drawn_7 : decode cX1_drawn 7 = .ok (.iload_n 1, 1) := by decide +kernel
theorem dX1_drawn_8 : decode cX1_drawn 8 = .ok (.ifCond .lt 20, 3) := by decide +kernel
theorem dX1_drawn_11 : decode cX1_drawn 11 = .ok (.iload_n 1, 1) := by decide +kernel
theorem dX1_drawn_12 : decode cX1_drawn 12 = .ok (.aload_n 0, 1) := by decide +kernel
theorem dX1_drawn_13 : decode cX1_drawn 13 = .ok (.getfield 111, 3) := by decide +kernel
theorem dX1_drawn_16 : decode cX1_drawn 16 = .ok (.if_icmp .ge 12, 3) := by decide +kernel
theorem dX1_drawn_19 : decode cX1_drawn 19 = .ok (.aload_n 0, 1) := by decide +kernel
theorem dX1_drawn_20 : decode cX1_drawn 20 = .ok (.getfield 26, 3) := by decide +kernel
theorem dX1_drawn_23 : decode cX1_drawn 23 = .ok (.iload_n 1, 1) := by decide +kernel
theorem dX1_drawn_24 : decode cX1_drawn 24 = .ok (.iaload, 1) := by decide +kernel
theorem dX1_drawn_25 : decode cX1_drawn 25 = .ok (.goto 4, 3) := by decide +kernel
theorem dX1_drawn_28 : decode cX1_drawn 28 = .ok (.iconst (-1), 1) := by decide +kernel
theorem dX1_drawn_29 : decode cX1_drawn 29 = .ok (.ireturn, 1) := by decide +kernel
end
section
theorem dL_law_0 : decode cL_law 0 = .ok (.new 7, 3) := by decide +kernel
theorem dL_law_3 : decode cL_law 3 = .ok (.dup, 1) := by decide +kernel
theorem dL_law_4 : decode cL_law 4 = .ok (.invokespecial 9, 3) := by decide +kernel
theorem dL_law_7 : decode cL_law 7 = .ok (.astore_n 1, 1) := by decide +kernel
theorem dL_law_8 : decode cL_law 8 = .ok (.new 10, 3) := by decide +kernel
theorem dL_law_11 : decode cL_law 11 = .ok (.dup, 1) := by decide +kernel
theorem dL_law_12 : decode cL_law 12 = .ok (.invokespecial 12, 3) := by decide +kernel
theorem dL_law_15 : decode cL_law 15 = .ok (.astore_n 2, 1) := by decide +kernel
theorem dL_law_16 : decode cL_law 16 = .ok (.iconst 0, 1) := by decide +kernel
theorem dL_law_17 : decode cL_law 17 = .ok (.istore_n 3, 1) := by decide +kernel
theorem dL_law_18 : decode cL_law 18 = .ok (.iload_n 3, 1) := by decide +kernel
theorem dL_law_19 : decode cL_law 19 = .ok (.aload_n 0, 1) := by decide +kernel
theorem dL_law_20 : decode cL_law 20 = .ok (.arraylength, 1) := by decide +kernel
theorem dL_law_21 : decode cL_law 21 = .ok (.iconst 5, 1) := by decide +kernel
theorem dL_law_22 : decode cL_law 22 = .ok (.isub, 1) := by decide +kernel
theorem dL_law_23 : decode cL_law 23 = .ok (.if_icmp .gt 663, 3) := by decide +kernel
theorem dL_law_26 : decode cL_law 26 = .ok (.aload_n 0, 1) := by decide +kernel
theorem dL_law_27 : decode cL_law 27 = .ok (.iload_n 3, 1) := by decide +kernel
theorem dL_law_28 : decode cL_law 28 = .ok (.iaload, 1) := by decide +kernel
theorem dL_law_29 : decode cL_law 29 = .ok (.bipush 31, 2) := by decide +kernel
theorem dL_law_31 : decode cL_law 31 = .ok (.iand, 1) := by decide +kernel
theorem dL_law_32 : decode cL_law 32 = .ok (.tableswitch 648 0 17 #[88, 121, 174, 217, 240, 263, 276, 299, 313, 347, 381, 394, 418, 451, 505, 559, 572, 625], 88) := by decide +kernel
theorem dL_law_120 : decode cL_law 120 = .ok (.aload_n 1, 1) := by decide +kernel
theorem dL_law_121 : decode cL_law 121 = .ok (.aload_n 0, 1) := by decide +kernel
theorem dL_law_122 : decode cL_law 122 = .ok (.iload_n 3, 1) := by decide +kernel
theorem dL_law_123 : decode cL_law 123 = .ok (.iconst 1, 1) := by decide +kernel
theorem dL_law_124 : decode cL_law 124 = .ok (.iadd, 1) := by decide +kernel
theorem dL_law_125 : decode cL_law 125 = .ok (.iaload, 1) := by decide +kernel
theorem dL_law_126 : decode cL_law 126 = .ok (.aload_n 0, 1) := by decide +kernel
theorem dL_law_127 : decode cL_law 127 = .ok (.iload_n 3, 1) := by decide +kernel
theorem dL_law_128 : decode cL_law 128 = .ok (.iconst 2, 1) := by decide +kernel
theorem dL_law_129 : decode cL_law 129 = .ok (.iadd, 1) := by decide +kernel
theorem dL_law_130 : decode cL_law 130 = .ok (.iaload, 1) := by decide +kernel
theorem dL_law_131 : decode cL_law 131 = .ok (.invokevirtual 13, 3) := by decide +kernel
theorem dL_law_134 : decode cL_law 134 = .ok (.aload_n 2, 1) := by decide +kernel
theorem dL_law_135 : decode cL_law 135 = .ok (.aload_n 0, 1) := by decide +kernel
theorem dL_law_136 : decode cL_law 136 = .ok (.iload_n 3, 1) := by decide +kernel
theorem dL_law_137 : decode cL_law 137 = .ok (.iconst 1, 1) := by decide +kernel
theorem dL_law_138 : decode cL_law 138 = .ok (.iadd, 1) := by decide +kernel
theorem dL_law_139 : decode cL_law 139 = .ok (.iaload, 1) := by decide +kernel
theorem dL_law_140 : decode cL_law 140 = .ok (.aload_n 0, 1) := by decide +kernel
theorem dL_law_141 : decode cL_law 141 = .ok (.iload_n 3, 1) := by decide +kernel
theorem dL_law_142 : decode cL_law 142 = .ok (.iconst 2, 1) := by decide +kernel
theorem dL_law_143 : decode cL_law 143 = .ok (.iadd, 1) := by decide +kernel
theorem dL_law_144 : decode cL_law 144 = .ok (.iaload, 1) := by decide +kernel
theorem dL_law_145 : decode cL_law 145 = .ok (.invokevirtual 17, 3) := by decide +kernel
theorem dL_law_148 : decode cL_law 148 = .ok (.if_icmp .eq 532, 3) := by decide +kernel
theorem dL_law_151 : decode cL_law 151 = .ok (.iconst 0, 1) := by decide +kernel
theorem dL_law_152 : decode cL_law 152 = .ok (.ireturn, 1) := by decide +kernel
theorem dL_law_153 : decode cL_law 153 = .ok (.aload_n 1, 1) := by decide +kernel
theorem dL_law_154 : decode cL_law 154 = .ok (.aload_n 0, 1) := by decide +kernel
theorem dL_law_155 : decode cL_law 155 = .ok (.iload_n 3, 1) := by decide +kernel
theorem dL_law_156 : decode cL_law 156 = .ok (.iconst 1, 1) := by decide +kernel
theorem dL_law_157 : decode cL_law 157 = .ok (.iadd, 1) := by decide +kernel
theorem dL_law_158 : decode cL_law 158 = .ok (.iaload, 1) := by decide +kernel
theorem dL_law_159 : decode cL_law 159 = .ok (.aload_n 0, 1) := by decide +kernel
theorem dL_law_160 : decode cL_law 160 = .ok (.iload_n 3, 1) := by decide +kernel
theorem dL_law_161 : decode cL_law 161 = .ok (.iconst 2, 1) := by decide +kernel
theorem dL_law_162 : decode cL_law 162 = .ok (.iadd, 1) := by decide +kernel
theorem dL_law_163 : decode cL_law 163 = .ok (.iaload, 1) := by decide +kernel
theorem dL_law_164 : decode cL_law 164 = .ok (.aload_n 0, 1) := by decide +kernel
theorem dL_law_165 : decode cL_law 165 = .ok (.iload_n 3, 1) := by decide +kernel
theorem dL_law_166 : decode cL_law 166 = .ok (.iconst 3, 1) := by decide +kernel
theorem dL_law_167 : decode cL_law 167 = .ok (.iadd, 1) := by decide +kernel
theorem dL_law_168 : decode cL_law 168 = .ok (.iaload, 1) := by decide +kernel
theorem dL_law_169 : decode cL_law 169 = .ok (.aload_n 0, 1) := by decide +kernel
theorem dL_law_170 : decode cL_law 170 = .ok (.iload_n 3, 1) := by decide +kernel
theorem dL_law_171 : decode cL_law 171 = .ok (.iconst 4, 1) := by decide +kernel
theorem dL_law_172 : decode cL_law 172 = .ok (.iadd, 1) := by decide +kernel
theorem dL_law_173 : decode cL_law 173 = .ok (.iaload, 1) := by decide +kernel
theorem dL_law_174 : decode cL_law 174 = .ok (.invokevirtual 18, 3) := by decide +kernel
theorem dL_law_177 : decode cL_law 177 = .ok (.aload_n 2, 1) := by decide +kernel
theorem dL_law_178 : decode cL_law 178 = .ok (.aload_n 0, 1) := by decide +kernel
theorem dL_law_179 : decode cL_law 179 = .ok (.iload_n 3, 1) := by decide +kernel
theorem dL_law_180 : decode cL_law 180 = .ok (.iconst 1, 1) := by decide +kernel
theorem dL_law_181 : decode cL_law 181 = .ok (.iadd, 1) := by decide +kernel
theorem dL_law_182 : decode cL_law 182 = .ok (.iaload, 1) := by decide +kernel
theorem dL_law_183 : decode cL_law 183 = .ok (.aload_n 0, 1) := by decide +kernel
theorem dL_law_184 : decode cL_law 184 = .ok (.iload_n 3, 1) := by decide +kernel
theorem dL_law_185 : decode cL_law 185 = .ok (.iconst 2, 1) := by decide +kernel
theorem dL_law_186 : decode cL_law 186 = .ok (.iadd, 1) := by decide +kernel
theorem dL_law_187 : decode cL_law 187 = .ok (.iaload, 1) := by decide +kernel
theorem dL_law_188 : decode cL_law 188 = .ok (.aload_n 0, 1) := by decide +kernel
theorem dL_law_189 : decode cL_law 189 = .ok (.iload_n 3, 1) := by decide +kernel
theorem dL_law_190 : decode cL_law 190 = .ok (.iconst 3, 1) := by decide +kernel
theorem dL_law_191 : decode cL_law 191 = .ok (.iadd, 1) := by decide +kernel
theorem dL_law_192 : decode cL_law 192 = .ok (.iaload, 1) := by decide +kernel
theorem dL_law_193 : decode cL_law 193 = .ok (.aload_n 0, 1) := by decide +kernel
theorem dL_law_194 : decode cL_law 194 = .ok (.iload_n 3, 1) := by decide +kernel
theorem dL_law_195 : decode cL_law 195 = .ok (.iconst 4, 1) := by decide +kernel
theorem dL_law_196 : decode cL_law 196 = .ok (.iadd, 1) := by decide +kernel
theorem dL_law_197 : decode cL_law 197 = .ok (.iaload, 1) := by decide +kernel
theorem dL_law_198 : decode cL_law 198 = .ok (.invokevirtual 22, 3) := by decide +kernel
theorem dL_law_201 : decode cL_law 201 = .ok (.if_icmp .eq 479, 3) := by decide +kernel
theorem dL_law_204 : decode cL_law 204 = .ok (.iconst 0, 1) := by decide +kernel
theorem dL_law_205 : decode cL_law 205 = .ok (.ireturn, 1) := by decide +kernel
theorem dL_law_206 : decode cL_law 206 = .ok (.aload_n 1, 1) := by decide +kernel
theorem dL_law_207 : decode cL_law 207 = .ok (.aload_n 0, 1) := by decide +kernel
theorem dL_law_208 : decode cL_law 208 = .ok (.iload_n 3, 1) := by decide +kernel
theorem dL_law_209 : decode cL_law 209 = .ok (.iconst 1, 1) := by decide +kernel
theorem dL_law_210 : decode cL_law 210 = .ok (.iadd, 1) := by decide +kernel
theorem dL_law_211 : decode cL_law 211 = .ok (.iaload, 1) := by decide +kernel
theorem dL_law_212 : decode cL_law 212 = .ok (.aload_n 0, 1) := by decide +kernel
theorem dL_law_213 : decode cL_law 213 = .ok (.iload_n 3, 1) := by decide +kernel
theorem dL_law_214 : decode cL_law 214 = .ok (.iconst 2, 1) := by decide +kernel
theorem dL_law_215 : decode cL_law 215 = .ok (.iadd, 1) := by decide +kernel
theorem dL_law_216 : decode cL_law 216 = .ok (.iaload, 1) := by decide +kernel
theorem dL_law_217 : decode cL_law 217 = .ok (.aload_n 0, 1) := by decide +kernel
theorem dL_law_218 : decode cL_law 218 = .ok (.iload_n 3, 1) := by decide +kernel
theorem dL_law_219 : decode cL_law 219 = .ok (.iconst 3, 1) := by decide +kernel
theorem dL_law_220 : decode cL_law 220 = .ok (.iadd, 1) := by decide +kernel
theorem dL_law_221 : decode cL_law 221 = .ok (.iaload, 1) := by decide +kernel
theorem dL_law_222 : decode cL_law 222 = .ok (.invokevirtual 23, 3) := by decide +kernel
theorem dL_law_225 : decode cL_law 225 = .ok (.aload_n 2, 1) := by decide +kernel
theorem dL_law_226 : decode cL_law 226 = .ok (.aload_n 0, 1) := by decide +kernel
theorem dL_law_227 : decode cL_law 227 = .ok (.iload_n 3, 1) := by decide +kernel
theorem dL_law_228 : decode cL_law 228 = .ok (.iconst 1, 1) := by decide +kernel
theorem dL_law_229 : decode cL_law 229 = .ok (.iadd, 1) := by decide +kernel
theorem dL_law_230 : decode cL_law 230 = .ok (.iaload, 1) := by decide +kernel
theorem dL_law_231 : decode cL_law 231 = .ok (.aload_n 0, 1) := by decide +kernel
theorem dL_law_232 : decode cL_law 232 = .ok (.iload_n 3, 1) := by decide +kernel
theorem dL_law_233 : decode cL_law 233 = .ok (.iconst 2, 1) := by decide +kernel
theorem dL_law_234 : decode cL_law 234 = .ok (.iadd, 1) := by decide +kernel
theorem dL_law_235 : decode cL_law 235 = .ok (.iaload, 1) := by decide +kernel
theorem dL_law_236 : decode cL_law 236 = .ok (.aload_n 0, 1) := by decide +kernel
theorem dL_law_237 : decode cL_law 237 = .ok (.iload_n 3, 1) := by decide +kernel
theorem dL_law_238 : decode cL_law 238 = .ok (.iconst 3, 1) := by decide +kernel
theorem dL_law_239 : decode cL_law 239 = .ok (.iadd, 1) := by decide +kernel
theorem dL_law_240 : decode cL_law 240 = .ok (.iaload, 1) := by decide +kernel
theorem dL_law_241 : decode cL_law 241 = .ok (.invokevirtual 27, 3) := by decide +kernel
theorem dL_law_244 : decode cL_law 244 = .ok (.if_icmp .eq 436, 3) := by decide +kernel
theorem dL_law_247 : decode cL_law 247 = .ok (.iconst 0, 1) := by decide +kernel
theorem dL_law_248 : decode cL_law 248 = .ok (.ireturn, 1) := by decide +kernel
theorem dL_law_249 : decode cL_law 249 = .ok (.aload_n 1, 1) := by decide +kernel
theorem dL_law_250 : decode cL_law 250 = .ok (.aload_n 0, 1) := by decide +kernel
theorem dL_law_251 : decode cL_law 251 = .ok (.iload_n 3, 1) := by decide +kernel
theorem dL_law_252 : decode cL_law 252 = .ok (.iconst 1, 1) := by decide +kernel
theorem dL_law_253 : decode cL_law 253 = .ok (.iadd, 1) := by decide +kernel
theorem dL_law_254 : decode cL_law 254 = .ok (.iaload, 1) := by decide +kernel
theorem dL_law_255 : decode cL_law 255 = .ok (.invokevirtual 28, 3) := by decide +kernel
theorem dL_law_258 : decode cL_law 258 = .ok (.aload_n 2, 1) := by decide +kernel
theorem dL_law_259 : decode cL_law 259 = .ok (.aload_n 0, 1) := by decide +kernel
theorem dL_law_260 : decode cL_law 260 = .ok (.iload_n 3, 1) := by decide +kernel
theorem dL_law_261 : decode cL_law 261 = .ok (.iconst 1, 1) := by decide +kernel
theorem dL_law_262 : decode cL_law 262 = .ok (.iadd, 1) := by decide +kernel
theorem dL_law_263 : decode cL_law 263 = .ok (.iaload, 1) := by decide +kernel
theorem dL_law_264 : decode cL_law 264 = .ok (.invokevirtual 32, 3) := by decide +kernel
theorem dL_law_267 : decode cL_law 267 = .ok (.if_icmp .eq 413, 3) := by decide +kernel
theorem dL_law_270 : decode cL_law 270 = .ok (.iconst 0, 1) := by decide +kernel
theorem dL_law_271 : decode cL_law 271 = .ok (.ireturn, 1) := by decide +kernel
theorem dL_law_272 : decode cL_law 272 = .ok (.aload_n 1, 1) := by decide +kernel
theorem dL_law_273 : decode cL_law 273 = .ok (.aload_n 0, 1) := by decide +kernel
theorem dL_law_274 : decode cL_law 274 = .ok (.iload_n 3, 1) := by decide +kernel
theorem dL_law_275 : decode cL_law 275 = .ok (.iconst 1, 1) := by decide +kernel
theorem dL_law_276 : decode cL_law 276 = .ok (.iadd, 1) := by decide +kernel
theorem dL_law_277 : decode cL_law 277 = .ok (.iaload, 1) := by decide +kernel
theorem dL_law_278 : decode cL_law 278 = .ok (.invokevirtual 33, 3) := by decide +kernel
theorem dL_law_281 : decode cL_law 281 = .ok (.aload_n 2, 1) := by decide +kernel
theorem dL_law_282 : decode cL_law 282 = .ok (.aload_n 0, 1) := by decide +kernel
theorem dL_law_283 : decode cL_law 283 = .ok (.iload_n 3, 1) := by decide +kernel
theorem dL_law_284 : decode cL_law 284 = .ok (.iconst 1, 1) := by decide +kernel
theorem dL_law_285 : decode cL_law 285 = .ok (.iadd, 1) := by decide +kernel
theorem dL_law_286 : decode cL_law 286 = .ok (.iaload, 1) := by decide +kernel
theorem dL_law_287 : decode cL_law 287 = .ok (.invokevirtual 36, 3) := by decide +kernel
theorem dL_law_290 : decode cL_law 290 = .ok (.if_icmp .eq 390, 3) := by decide +kernel
theorem dL_law_293 : decode cL_law 293 = .ok (.iconst 0, 1) := by decide +kernel
theorem dL_law_294 : decode cL_law 294 = .ok (.ireturn, 1) := by decide +kernel
theorem dL_law_295 : decode cL_law 295 = .ok (.aload_n 1, 1) := by decide +kernel
theorem dL_law_296 : decode cL_law 296 = .ok (.invokevirtual 37, 3) := by decide +kernel
theorem dL_law_299 : decode cL_law 299 = .ok (.aload_n 2, 1) := by decide +kernel
theorem dL_law_300 : decode cL_law 300 = .ok (.invokevirtual 41, 3) := by decide +kernel
theorem dL_law_303 : decode cL_law 303 = .ok (.if_icmp .eq 377, 3) := by decide +kernel
theorem dL_law_306 : decode cL_law 306 = .ok (.iconst 0, 1) := by decide +kernel
theorem dL_law_307 : decode cL_law 307 = .ok (.ireturn, 1) := by decide +kernel
theorem dL_law_308 : decode cL_law 308 = .ok (.aload_n 1, 1) := by decide +kernel
theorem dL_law_309 : decode cL_law 309 = .ok (.aload_n 0, 1) := by decide +kernel
theorem dL_law_310 : decode cL_law 310 = .ok (.iload_n 3, 1) := by decide +kernel
theorem dL_law_311 : decode cL_law 311 = .ok (.iconst 1, 1) := by decide +kernel
theorem dL_law_312 : decode cL_law 312 = .ok (.iadd, 1) := by decide +kernel
theorem dL_law_313 : decode cL_law 313 = .ok (.iaload, 1) := by decide +kernel
theorem dL_law_314 : decode cL_law 314 = .ok (.invokevirtual 42, 3) := by decide +kernel
theorem dL_law_317 : decode cL_law 317 = .ok (.aload_n 2, 1) := by decide +kernel
theorem dL_law_318 : decode cL_law 318 = .ok (.aload_n 0, 1) := by decide +kernel
theorem dL_law_319 : decode cL_law 319 = .ok (.iload_n 3, 1) := by decide +kernel
theorem dL_law_320 : decode cL_law 320 = .ok (.iconst 1, 1) := by decide +kernel
theorem dL_law_321 : decode cL_law 321 = .ok (.iadd, 1) := by decide +kernel
theorem dL_law_322 : decode cL_law 322 = .ok (.iaload, 1) := by decide +kernel
theorem dL_law_323 : decode cL_law 323 = .ok (.invokevirtual 45, 3) := by decide +kernel
theorem dL_law_326 : decode cL_law 326 = .ok (.if_icmp .eq 354, 3) := by decide +kernel
theorem dL_law_329 : decode cL_law 329 = .ok (.iconst 0, 1) := by decide +kernel
theorem dL_law_330 : decode cL_law 330 = .ok (.ireturn, 1) := by decide +kernel
theorem dL_law_331 : decode cL_law 331 = .ok (.aload_n 1, 1) := by decide +kernel
theorem dL_law_332 : decode cL_law 332 = .ok (.invokevirtual 46, 3) := by decide +kernel
theorem dL_law_335 : decode cL_law 335 = .ok (.aload_n 2, 1) := by decide +kernel
theorem dL_law_336 : decode cL_law 336 = .ok (.invokevirtual 50, 3) := by decide +kernel
theorem dL_law_339 : decode cL_law 339 = .ok (.lcmp, 1) := by decide +kernel
theorem dL_law_340 : decode cL_law 340 = .ok (.ifCond .eq 340, 3) := by decide +kernel
theorem dL_law_343 : decode cL_law 343 = .ok (.iconst 0, 1) := by decide +kernel
theorem dL_law_344 : decode cL_law 344 = .ok (.ireturn, 1) := by decide +kernel
theorem dL_law_345 : decode cL_law 345 = .ok (.aload_n 1, 1) := by decide +kernel
theorem dL_law_346 : decode cL_law 346 = .ok (.aload_n 0, 1) := by decide +kernel
theorem dL_law_347 : decode cL_law 347 = .ok (.iload_n 3, 1) := by decide +kernel
theorem dL_law_348 : decode cL_law 348 = .ok (.iconst 1, 1) := by decide +kernel
theorem dL_law_349 : decode cL_law 349 = .ok (.iadd, 1) := by decide +kernel
theorem dL_law_350 : decode cL_law 350 = .ok (.iaload, 1) := by decide +kernel
theorem dL_law_351 : decode cL_law 351 = .ok (.aload_n 0, 1) := by decide +kernel
theorem dL_law_352 : decode cL_law 352 = .ok (.iload_n 3, 1) := by decide +kernel
theorem dL_law_353 : decode cL_law 353 = .ok (.iconst 2, 1) := by decide +kernel
theorem dL_law_354 : decode cL_law 354 = .ok (.iadd, 1) := by decide +kernel
theorem dL_law_355 : decode cL_law 355 = .ok (.iaload, 1) := by decide +kernel
theorem dL_law_356 : decode cL_law 356 = .ok (.invokevirtual 51, 3) := by decide +kernel
theorem dL_law_359 : decode cL_law 359 = .ok (.aload_n 2, 1) := by decide +kernel
theorem dL_law_360 : decode cL_law 360 = .ok (.aload_n 0, 1) := by decide +kernel
theorem dL_law_361 : decode cL_law 361 = .ok (.iload_n 3, 1) := by decide +kernel
theorem dL_law_362 : decode cL_law 362 = .ok (.iconst 1, 1) := by decide +kernel
theorem dL_law_363 : decode cL_law 363 = .ok (.iadd, 1) := by decide +kernel
theorem dL_law_364 : decode cL_law 364 = .ok (.iaload, 1) := by decide +kernel
theorem dL_law_365 : decode cL_law 365 = .ok (.aload_n 0, 1) := by decide +kernel
theorem dL_law_366 : decode cL_law 366 = .ok (.iload_n 3, 1) := by decide +kernel
theorem dL_law_367 : decode cL_law 367 = .ok (.iconst 2, 1) := by decide +kernel
theorem dL_law_368 : decode cL_law 368 = .ok (.iadd, 1) := by decide +kernel
theorem dL_law_369 : decode cL_law 369 = .ok (.iaload, 1) := by decide +kernel
theorem dL_law_370 : decode cL_law 370 = .ok (.invokevirtual 55, 3) := by decide +kernel
theorem dL_law_373 : decode cL_law 373 = .ok (.lcmp, 1) := by decide +kernel
theorem dL_law_374 : decode cL_law 374 = .ok (.ifCond .eq 306, 3) := by decide +kernel
theorem dL_law_377 : decode cL_law 377 = .ok (.iconst 0, 1) := by decide +kernel
theorem dL_law_378 : decode cL_law 378 = .ok (.ireturn, 1) := by decide +kernel
theorem dL_law_379 : decode cL_law 379 = .ok (.aload_n 1, 1) := by decide +kernel
theorem dL_law_380 : decode cL_law 380 = .ok (.aload_n 0, 1) := by decide +kernel
theorem dL_law_381 : decode cL_law 381 = .ok (.iload_n 3, 1) := by decide +kernel
theorem dL_law_382 : decode cL_law 382 = .ok (.iconst 1, 1) := by decide +kernel
theorem dL_law_383 : decode cL_law 383 = .ok (.iadd, 1) := by decide +kernel
theorem dL_law_384 : decode cL_law 384 = .ok (.iaload, 1) := by decide +kernel
theorem dL_law_385 : decode cL_law 385 = .ok (.aload_n 0, 1) := by decide +kernel
theorem dL_law_386 : decode cL_law 386 = .ok (.iload_n 3, 1) := by decide +kernel
theorem dL_law_387 : decode cL_law 387 = .ok (.iconst 2, 1) := by decide +kernel
theorem dL_law_388 : decode cL_law 388 = .ok (.iadd, 1) := by decide +kernel
theorem dL_law_389 : decode cL_law 389 = .ok (.iaload, 1) := by decide +kernel
theorem dL_law_390 : decode cL_law 390 = .ok (.invokevirtual 56, 3) := by decide +kernel
theorem dL_law_393 : decode cL_law 393 = .ok (.aload_n 2, 1) := by decide +kernel
theorem dL_law_394 : decode cL_law 394 = .ok (.aload_n 0, 1) := by decide +kernel
theorem dL_law_395 : decode cL_law 395 = .ok (.iload_n 3, 1) := by decide +kernel
theorem dL_law_396 : decode cL_law 396 = .ok (.iconst 1, 1) := by decide +kernel
theorem dL_law_397 : decode cL_law 397 = .ok (.iadd, 1) := by decide +kernel
theorem dL_law_398 : decode cL_law 398 = .ok (.iaload, 1) := by decide +kernel
theorem dL_law_399 : decode cL_law 399 = .ok (.aload_n 0, 1) := by decide +kernel
theorem dL_law_400 : decode cL_law 400 = .ok (.iload_n 3, 1) := by decide +kernel
theorem dL_law_401 : decode cL_law 401 = .ok (.iconst 2, 1) := by decide +kernel
theorem dL_law_402 : decode cL_law 402 = .ok (.iadd, 1) := by decide +kernel
theorem dL_law_403 : decode cL_law 403 = .ok (.iaload, 1) := by decide +kernel
theorem dL_law_404 : decode cL_law 404 = .ok (.invokevirtual 59, 3) := by decide +kernel
theorem dL_law_407 : decode cL_law 407 = .ok (.lcmp, 1) := by decide +kernel
theorem dL_law_408 : decode cL_law 408 = .ok (.ifCond .eq 272, 3) := by decide +kernel
theorem dL_law_411 : decode cL_law 411 = .ok (.iconst 0, 1) := by decide +kernel
theorem dL_law_412 : decode cL_law 412 = .ok (.ireturn, 1) := by decide +kernel
theorem dL_law_413 : decode cL_law 413 = .ok (.aload_n 1, 1) := by decide +kernel
theorem dL_law_414 : decode cL_law 414 = .ok (.invokevirtual 60, 3) := by decide +kernel
theorem dL_law_417 : decode cL_law 417 = .ok (.aload_n 2, 1) := by decide +kernel
theorem dL_law_418 : decode cL_law 418 = .ok (.invokevirtual 63, 3) := by decide +kernel
theorem dL_law_421 : decode cL_law 421 = .ok (.if_icmp .eq 259, 3) := by decide +kernel
theorem dL_law_424 : decode cL_law 424 = .ok (.iconst 0, 1) := by decide +kernel
theorem dL_law_425 : decode cL_law 425 = .ok (.ireturn, 1) := by decide +kernel
theorem dL_law_426 : decode cL_law 426 = .ok (.aload_n 1, 1) := by decide +kernel
theorem dL_law_427 : decode cL_law 427 = .ok (.aload_n 0, 1) := by decide +kernel
theorem dL_law_428 : decode cL_law 428 = .ok (.iload_n 3, 1) := by decide +kernel
theorem dL_law_429 : decode cL_law 429 = .ok (.iconst 1, 1) := by decide +kernel
theorem dL_law_430 : decode cL_law 430 = .ok (.iadd, 1) := by decide +kernel
theorem dL_law_431 : decode cL_law 431 = .ok (.iaload, 1) := by decide +kernel
theorem dL_law_432 : decode cL_law 432 = .ok (.invokevirtual 64, 3) := by decide +kernel
theorem dL_law_435 : decode cL_law 435 = .ok (.aload_n 2, 1) := by decide +kernel
theorem dL_law_436 : decode cL_law 436 = .ok (.aload_n 0, 1) := by decide +kernel
theorem dL_law_437 : decode cL_law 437 = .ok (.iload_n 3, 1) := by decide +kernel
theorem dL_law_438 : decode cL_law 438 = .ok (.iconst 1, 1) := by decide +kernel
theorem dL_law_439 : decode cL_law 439 = .ok (.iadd, 1) := by decide +kernel
theorem dL_law_440 : decode cL_law 440 = .ok (.iaload, 1) := by decide +kernel
theorem dL_law_441 : decode cL_law 441 = .ok (.invokevirtual 68, 3) := by decide +kernel
theorem dL_law_444 : decode cL_law 444 = .ok (.lcmp, 1) := by decide +kernel
theorem dL_law_445 : decode cL_law 445 = .ok (.ifCond .eq 235, 3) := by decide +kernel
theorem dL_law_448 : decode cL_law 448 = .ok (.iconst 0, 1) := by decide +kernel
theorem dL_law_449 : decode cL_law 449 = .ok (.ireturn, 1) := by decide +kernel
theorem dL_law_450 : decode cL_law 450 = .ok (.aload_n 1, 1) := by decide +kernel
theorem dL_law_451 : decode cL_law 451 = .ok (.aload_n 0, 1) := by decide +kernel
theorem dL_law_452 : decode cL_law 452 = .ok (.iload_n 3, 1) := by decide +kernel
theorem dL_law_453 : decode cL_law 453 = .ok (.iconst 1, 1) := by decide +kernel
theorem dL_law_454 : decode cL_law 454 = .ok (.iadd, 1) := by decide +kernel
theorem dL_law_455 : decode cL_law 455 = .ok (.iaload, 1) := by decide +kernel
theorem dL_law_456 : decode cL_law 456 = .ok (.aload_n 0, 1) := by decide +kernel
theorem dL_law_457 : decode cL_law 457 = .ok (.iload_n 3, 1) := by decide +kernel
theorem dL_law_458 : decode cL_law 458 = .ok (.iconst 2, 1) := by decide +kernel
theorem dL_law_459 : decode cL_law 459 = .ok (.iadd, 1) := by decide +kernel
theorem dL_law_460 : decode cL_law 460 = .ok (.iaload, 1) := by decide +kernel
theorem dL_law_461 : decode cL_law 461 = .ok (.invokevirtual 69, 3) := by decide +kernel
theorem dL_law_464 : decode cL_law 464 = .ok (.aload_n 2, 1) := by decide +kernel
theorem dL_law_465 : decode cL_law 465 = .ok (.aload_n 0, 1) := by decide +kernel
theorem dL_law_466 : decode cL_law 466 = .ok (.iload_n 3, 1) := by decide +kernel
theorem dL_law_467 : decode cL_law 467 = .ok (.iconst 1, 1) := by decide +kernel
theorem dL_law_468 : decode cL_law 468 = .ok (.iadd, 1) := by decide +kernel
theorem dL_law_469 : decode cL_law 469 = .ok (.iaload, 1) := by decide +kernel
theorem dL_law_470 : decode cL_law 470 = .ok (.aload_n 0, 1) := by decide +kernel
theorem dL_law_471 : decode cL_law 471 = .ok (.iload_n 3, 1) := by decide +kernel
theorem dL_law_472 : decode cL_law 472 = .ok (.iconst 2, 1) := by decide +kernel
theorem dL_law_473 : decode cL_law 473 = .ok (.iadd, 1) := by decide +kernel
theorem dL_law_474 : decode cL_law 474 = .ok (.iaload, 1) := by decide +kernel
theorem dL_law_475 : decode cL_law 475 = .ok (.invokevirtual 73, 3) := by decide +kernel
theorem dL_law_478 : decode cL_law 478 = .ok (.if_icmp .eq 202, 3) := by decide +kernel
theorem dL_law_481 : decode cL_law 481 = .ok (.iconst 0, 1) := by decide +kernel
theorem dL_law_482 : decode cL_law 482 = .ok (.ireturn, 1) := by decide +kernel
theorem dL_law_483 : decode cL_law 483 = .ok (.aload_n 1, 1) := by decide +kernel
theorem dL_law_484 : decode cL_law 484 = .ok (.aload_n 0, 1) := by decide +kernel
theorem dL_law_485 : decode cL_law 485 = .ok (.iload_n 3, 1) := by decide +kernel
theorem dL_law_486 : decode cL_law 486 = .ok (.iconst 1, 1) := by decide +kernel
theorem dL_law_487 : decode cL_law 487 = .ok (.iadd, 1) := by decide +kernel
theorem dL_law_488 : decode cL_law 488 = .ok (.iaload, 1) := by decide +kernel
theorem dL_law_489 : decode cL_law 489 = .ok (.aload_n 0, 1) := by decide +kernel
theorem dL_law_490 : decode cL_law 490 = .ok (.iload_n 3, 1) := by decide +kernel
theorem dL_law_491 : decode cL_law 491 = .ok (.iconst 2, 1) := by decide +kernel
theorem dL_law_492 : decode cL_law 492 = .ok (.iadd, 1) := by decide +kernel
theorem dL_law_493 : decode cL_law 493 = .ok (.iaload, 1) := by decide +kernel
theorem dL_law_494 : decode cL_law 494 = .ok (.aload_n 0, 1) := by decide +kernel
theorem dL_law_495 : decode cL_law 495 = .ok (.iload_n 3, 1) := by decide +kernel
theorem dL_law_496 : decode cL_law 496 = .ok (.iconst 3, 1) := by decide +kernel
theorem dL_law_497 : decode cL_law 497 = .ok (.iadd, 1) := by decide +kernel
theorem dL_law_498 : decode cL_law 498 = .ok (.iaload, 1) := by decide +kernel
theorem dL_law_499 : decode cL_law 499 = .ok (.aload_n 0, 1) := by decide +kernel
theorem dL_law_500 : decode cL_law 500 = .ok (.iload_n 3, 1) := by decide +kernel
theorem dL_law_501 : decode cL_law 501 = .ok (.iconst 4, 1) := by decide +kernel
theorem dL_law_502 : decode cL_law 502 = .ok (.iadd, 1) := by decide +kernel
theorem dL_law_503 : decode cL_law 503 = .ok (.iaload, 1) := by decide +kernel
theorem dL_law_504 : decode cL_law 504 = .ok (.invokevirtual 74, 3) := by decide +kernel
theorem dL_law_507 : decode cL_law 507 = .ok (.aload_n 2, 1) := by decide +kernel
theorem dL_law_508 : decode cL_law 508 = .ok (.aload_n 0, 1) := by decide +kernel
theorem dL_law_509 : decode cL_law 509 = .ok (.iload_n 3, 1) := by decide +kernel
theorem dL_law_510 : decode cL_law 510 = .ok (.iconst 1, 1) := by decide +kernel
theorem dL_law_511 : decode cL_law 511 = .ok (.iadd, 1) := by decide +kernel
theorem dL_law_512 : decode cL_law 512 = .ok (.iaload, 1) := by decide +kernel
theorem dL_law_513 : decode cL_law 513 = .ok (.aload_n 0, 1) := by decide +kernel
theorem dL_law_514 : decode cL_law 514 = .ok (.iload_n 3, 1) := by decide +kernel
theorem dL_law_515 : decode cL_law 515 = .ok (.iconst 2, 1) := by decide +kernel
theorem dL_law_516 : decode cL_law 516 = .ok (.iadd, 1) := by decide +kernel
theorem dL_law_517 : decode cL_law 517 = .ok (.iaload, 1) := by decide +kernel
theorem dL_law_518 : decode cL_law 518 = .ok (.aload_n 0, 1) := by decide +kernel
theorem dL_law_519 : decode cL_law 519 = .ok (.iload_n 3, 1) := by decide +kernel
theorem dL_law_520 : decode cL_law 520 = .ok (.iconst 3, 1) := by decide +kernel
theorem dL_law_521 : decode cL_law 521 = .ok (.iadd, 1) := by decide +kernel
theorem dL_law_522 : decode cL_law 522 = .ok (.iaload, 1) := by decide +kernel
theorem dL_law_523 : decode cL_law 523 = .ok (.aload_n 0, 1) := by decide +kernel
theorem dL_law_524 : decode cL_law 524 = .ok (.iload_n 3, 1) := by decide +kernel
theorem dL_law_525 : decode cL_law 525 = .ok (.iconst 4, 1) := by decide +kernel
theorem dL_law_526 : decode cL_law 526 = .ok (.iadd, 1) := by decide +kernel
theorem dL_law_527 : decode cL_law 527 = .ok (.iaload, 1) := by decide +kernel
theorem dL_law_528 : decode cL_law 528 = .ok (.invokevirtual 78, 3) := by decide +kernel
theorem dL_law_531 : decode cL_law 531 = .ok (.lcmp, 1) := by decide +kernel
theorem dL_law_532 : decode cL_law 532 = .ok (.ifCond .eq 148, 3) := by decide +kernel
theorem dL_law_535 : decode cL_law 535 = .ok (.iconst 0, 1) := by decide +kernel
theorem dL_law_536 : decode cL_law 536 = .ok (.ireturn, 1) := by decide +kernel
theorem dL_law_537 : decode cL_law 537 = .ok (.aload_n 1, 1) := by decide +kernel
theorem dL_law_538 : decode cL_law 538 = .ok (.aload_n 0, 1) := by decide +kernel
theorem dL_law_539 : decode cL_law 539 = .ok (.iload_n 3, 1) := by decide +kernel
theorem dL_law_540 : decode cL_law 540 = .ok (.iconst 1, 1) := by decide +kernel
theorem dL_law_541 : decode cL_law 541 = .ok (.iadd, 1) := by decide +kernel
theorem dL_law_542 : decode cL_law 542 = .ok (.iaload, 1) := by decide +kernel
theorem dL_law_543 : decode cL_law 543 = .ok (.aload_n 0, 1) := by decide +kernel
theorem dL_law_544 : decode cL_law 544 = .ok (.iload_n 3, 1) := by decide +kernel
theorem dL_law_545 : decode cL_law 545 = .ok (.iconst 2, 1) := by decide +kernel
theorem dL_law_546 : decode cL_law 546 = .ok (.iadd, 1) := by decide +kernel
theorem dL_law_547 : decode cL_law 547 = .ok (.iaload, 1) := by decide +kernel
theorem dL_law_548 : decode cL_law 548 = .ok (.aload_n 0, 1) := by decide +kernel
theorem dL_law_549 : decode cL_law 549 = .ok (.iload_n 3, 1) := by decide +kernel
theorem dL_law_550 : decode cL_law 550 = .ok (.iconst 3, 1) := by decide +kernel
theorem dL_law_551 : decode cL_law 551 = .ok (.iadd, 1) := by decide +kernel
theorem dL_law_552 : decode cL_law 552 = .ok (.iaload, 1) := by decide +kernel
theorem dL_law_553 : decode cL_law 553 = .ok (.aload_n 0, 1) := by decide +kernel
theorem dL_law_554 : decode cL_law 554 = .ok (.iload_n 3, 1) := by decide +kernel
theorem dL_law_555 : decode cL_law 555 = .ok (.iconst 4, 1) := by decide +kernel
theorem dL_law_556 : decode cL_law 556 = .ok (.iadd, 1) := by decide +kernel
theorem dL_law_557 : decode cL_law 557 = .ok (.iaload, 1) := by decide +kernel
theorem dL_law_558 : decode cL_law 558 = .ok (.invokevirtual 79, 3) := by decide +kernel
theorem dL_law_561 : decode cL_law 561 = .ok (.aload_n 2, 1) := by decide +kernel
theorem dL_law_562 : decode cL_law 562 = .ok (.aload_n 0, 1) := by decide +kernel
theorem dL_law_563 : decode cL_law 563 = .ok (.iload_n 3, 1) := by decide +kernel
theorem dL_law_564 : decode cL_law 564 = .ok (.iconst 1, 1) := by decide +kernel
theorem dL_law_565 : decode cL_law 565 = .ok (.iadd, 1) := by decide +kernel
theorem dL_law_566 : decode cL_law 566 = .ok (.iaload, 1) := by decide +kernel
theorem dL_law_567 : decode cL_law 567 = .ok (.aload_n 0, 1) := by decide +kernel
theorem dL_law_568 : decode cL_law 568 = .ok (.iload_n 3, 1) := by decide +kernel
theorem dL_law_569 : decode cL_law 569 = .ok (.iconst 2, 1) := by decide +kernel
theorem dL_law_570 : decode cL_law 570 = .ok (.iadd, 1) := by decide +kernel
theorem dL_law_571 : decode cL_law 571 = .ok (.iaload, 1) := by decide +kernel
theorem dL_law_572 : decode cL_law 572 = .ok (.aload_n 0, 1) := by decide +kernel
theorem dL_law_573 : decode cL_law 573 = .ok (.iload_n 3, 1) := by decide +kernel
theorem dL_law_574 : decode cL_law 574 = .ok (.iconst 3, 1) := by decide +kernel
theorem dL_law_575 : decode cL_law 575 = .ok (.iadd, 1) := by decide +kernel
theorem dL_law_576 : decode cL_law 576 = .ok (.iaload, 1) := by decide +kernel
theorem dL_law_577 : decode cL_law 577 = .ok (.aload_n 0, 1) := by decide +kernel
theorem dL_law_578 : decode cL_law 578 = .ok (.iload_n 3, 1) := by decide +kernel
theorem dL_law_579 : decode cL_law 579 = .ok (.iconst 4, 1) := by decide +kernel
theorem dL_law_580 : decode cL_law 580 = .ok (.iadd, 1) := by decide +kernel
theorem dL_law_581 : decode cL_law 581 = .ok (.iaload, 1) := by decide +kernel
theorem dL_law_582 : decode cL_law 582 = .ok (.invokevirtual 82, 3) := by decide +kernel
theorem dL_law_585 : decode cL_law 585 = .ok (.lcmp, 1) := by decide +kernel
theorem dL_law_586 : decode cL_law 586 = .ok (.ifCond .eq 94, 3) := by decide +kernel
theorem dL_law_589 : decode cL_law 589 = .ok (.iconst 0, 1) := by decide +kernel
theorem dL_law_590 : decode cL_law 590 = .ok (.ireturn, 1) := by decide +kernel
theorem dL_law_591 : decode cL_law 591 = .ok (.aload_n 1, 1) := by decide +kernel
theorem dL_law_592 : decode cL_law 592 = .ok (.invokevirtual 83, 3) := by decide +kernel
theorem dL_law_595 : decode cL_law 595 = .ok (.aload_n 2, 1) := by decide +kernel
theorem dL_law_596 : decode cL_law 596 = .ok (.invokevirtual 86, 3) := by decide +kernel
theorem dL_law_599 : decode cL_law 599 = .ok (.if_icmp .eq 81, 3) := by decide +kernel
theorem dL_law_602 : decode cL_law 602 = .ok (.iconst 0, 1) := by decide +kernel
theorem dL_law_603 : decode cL_law 603 = .ok (.ireturn, 1) := by decide +kernel
theorem dL_law_604 : decode cL_law 604 = .ok (.aload_n 1, 1) := by decide +kernel
theorem dL_law_605 : decode cL_law 605 = .ok (.aload_n 0, 1) := by decide +kernel
theorem dL_law_606 : decode cL_law 606 = .ok (.iload_n 3, 1) := by decide +kernel
theorem dL_law_607 : decode cL_law 607 = .ok (.iconst 1, 1) := by decide +kernel
theorem dL_law_608 : decode cL_law 608 = .ok (.iadd, 1) := by decide +kernel
theorem dL_law_609 : decode cL_law 609 = .ok (.iaload, 1) := by decide +kernel
theorem dL_law_610 : decode cL_law 610 = .ok (.i2l, 1) := by decide +kernel
theorem dL_law_611 : decode cL_law 611 = .ok (.bipush 32, 2) := by decide +kernel
theorem dL_law_613 : decode cL_law 613 = .ok (.lshl, 1) := by decide +kernel
theorem dL_law_614 : decode cL_law 614 = .ok (.aload_n 0, 1) := by decide +kernel
theorem dL_law_615 : decode cL_law 615 = .ok (.iload_n 3, 1) := by decide +kernel
theorem dL_law_616 : decode cL_law 616 = .ok (.iconst 2, 1) := by decide +kernel
theorem dL_law_617 : decode cL_law 617 = .ok (.iadd, 1) := by decide +kernel
theorem dL_law_618 : decode cL_law 618 = .ok (.iaload, 1) := by decide +kernel
theorem dL_law_619 : decode cL_law 619 = .ok (.i2l, 1) := by decide +kernel
theorem dL_law_620 : decode cL_law 620 = .ok (.ldc2_w 87, 3) := by decide +kernel
theorem dL_law_623 : decode cL_law 623 = .ok (.land, 1) := by decide +kernel
theorem dL_law_624 : decode cL_law 624 = .ok (.lor, 1) := by decide +kernel
theorem dL_law_625 : decode cL_law 625 = .ok (.invokevirtual 89, 3) := by decide +kernel
theorem dL_law_628 : decode cL_law 628 = .ok (.aload_n 2, 1) := by decide +kernel
theorem dL_law_629 : decode cL_law 629 = .ok (.aload_n 0, 1) := by decide +kernel
theorem dL_law_630 : decode cL_law 630 = .ok (.iload_n 3, 1) := by decide +kernel
theorem dL_law_631 : decode cL_law 631 = .ok (.iconst 1, 1) := by decide +kernel
theorem dL_law_632 : decode cL_law 632 = .ok (.iadd, 1) := by decide +kernel
theorem dL_law_633 : decode cL_law 633 = .ok (.iaload, 1) := by decide +kernel
theorem dL_law_634 : decode cL_law 634 = .ok (.i2l, 1) := by decide +kernel
theorem dL_law_635 : decode cL_law 635 = .ok (.bipush 32, 2) := by decide +kernel
theorem dL_law_637 : decode cL_law 637 = .ok (.lshl, 1) := by decide +kernel
theorem dL_law_638 : decode cL_law 638 = .ok (.aload_n 0, 1) := by decide +kernel
theorem dL_law_639 : decode cL_law 639 = .ok (.iload_n 3, 1) := by decide +kernel
theorem dL_law_640 : decode cL_law 640 = .ok (.iconst 2, 1) := by decide +kernel
theorem dL_law_641 : decode cL_law 641 = .ok (.iadd, 1) := by decide +kernel
theorem dL_law_642 : decode cL_law 642 = .ok (.iaload, 1) := by decide +kernel
theorem dL_law_643 : decode cL_law 643 = .ok (.i2l, 1) := by decide +kernel
theorem dL_law_644 : decode cL_law 644 = .ok (.ldc2_w 87, 3) := by decide +kernel
theorem dL_law_647 : decode cL_law 647 = .ok (.land, 1) := by decide +kernel
theorem dL_law_648 : decode cL_law 648 = .ok (.lor, 1) := by decide +kernel
theorem dL_law_649 : decode cL_law 649 = .ok (.invokevirtual 93, 3) := by decide +kernel
theorem dL_law_652 : decode cL_law 652 = .ok (.if_icmp .eq 28, 3) := by decide +kernel
theorem dL_law_655 : decode cL_law 655 = .ok (.iconst 0, 1) := by decide +kernel
theorem dL_law_656 : decode cL_law 656 = .ok (.ireturn, 1) := by decide +kernel
theorem dL_law_657 : decode cL_law 657 = .ok (.aload_n 1, 1) := by decide +kernel
theorem dL_law_658 : decode cL_law 658 = .ok (.aload_n 0, 1) := by decide +kernel
theorem dL_law_659 : decode cL_law 659 = .ok (.iload_n 3, 1) := by decide +kernel
theorem dL_law_660 : decode cL_law 660 = .ok (.iconst 1, 1) := by decide +kernel
theorem dL_law_661 : decode cL_law 661 = .ok (.iadd, 1) := by decide +kernel
theorem dL_law_662 : decode cL_law 662 = .ok (.iaload, 1) := by decide +kernel
theorem dL_law_663 : decode cL_law 663 = .ok (.invokevirtual 94, 3) := by decide +kernel
theorem dL_law_666 : decode cL_law 666 = .ok (.aload_n 2, 1) := by decide +kernel
theorem dL_law_667 : decode cL_law 667 = .ok (.aload_n 0, 1) := by decide +kernel
theorem dL_law_668 : decode cL_law 668 = .ok (.iload_n 3, 1) := by decide +kernel
theorem dL_law_669 : decode cL_law 669 = .ok (.iconst 1, 1) := by decide +kernel
theorem dL_law_670 : decode cL_law 670 = .ok (.iadd, 1) := by decide +kernel
theorem dL_law_671 : decode cL_law 671 = .ok (.iaload, 1) := by decide +kernel
theorem dL_law_672 : decode cL_law 672 = .ok (.invokevirtual 97, 3) := by decide +kernel
theorem dL_law_675 : decode cL_law 675 = .ok (.if_icmp .eq 5, 3) := by decide +kernel
theorem dL_law_678 : decode cL_law 678 = .ok (.iconst 0, 1) := by decide +kernel
theorem dL_law_679 : decode cL_law 679 = .ok (.ireturn, 1) := by decide +kernel
theorem dL_law_680 : decode cL_law 680 = .ok (.iinc 3 5, 3) := by decide +kernel
theorem dL_law_683 : decode cL_law 683 = .ok (.goto (-665), 3) := by decide +kernel
theorem dL_law_686 : decode cL_law 686 = .ok (.iconst 1, 1) := by decide +kernel
theorem dL_law_687 : decode cL_law 687 = .ok (.ireturn, 1) := by decide +kernel
end
section
theorem xt_w {w : Cond} (i : Nat) (h : tables_1[i]? = some w) (hg : goodWord w = true) : w ∈ xt_T := xt_in (List.mem_append_right _ (List.mem_of_getElem? h)) hg
theorem xt_s {w : Cond} (i : Nat) (h : (k2_sels lw_privs)[i]? = some w) (hg : goodWord w = true) : w ∈ xt_T := xt_in (List.mem_append_left _ (List.mem_of_getElem? h)) hg
theorem xt_inX0 : ∀ w ∈ u_ws RX0 TX0 13, w ∈ xt_T := by decide +kernel
theorem xt_inX1 : ∀ w ∈ u_ws RX1 TX1 13, w ∈ xt_T := by decide +kernel
theorem flX0_stateCount : Cond.fieldLink RX0 61 RX0 "stateCount" "I" ∈ xt_T := xt_w 62 (by decide +kernel) rfl
theorem flX0_symbolCount : Cond.fieldLink RX0 50 RX0 "symbolCount" "I" ∈ xt_T := xt_w 63 (by decide +kernel) rfl
theorem flX0_weights : Cond.fieldLink RX0 9 RX0 "weights" "[I" ∈ xt_T := xt_w 64 (by decide +kernel) rfl
theorem flX0_learnedWeights : Cond.fieldLink RX0 13 RX0 "learnedWeights" "[I" ∈ xt_T := xt_w 65 (by decide +kernel) rfl
theorem flX0_seenCount : Cond.fieldLink RX0 54 RX0 "seenCount" "I" ∈ xt_T := xt_w 66 (by decide +kernel) rfl
theorem flX0_seenSymbols : Cond.fieldLink RX0 16 RX0 "seenSymbols" "[I" ∈ xt_T := xt_w 67 (by decide +kernel) rfl
theorem flX0_sumsBefore : Cond.fieldLink RX0 19 RX0 "sumsBefore" "[J" ∈ xt_T := xt_w 68 (by decide +kernel) rfl
theorem flX0_sumsBehind : Cond.fieldLink RX0 23 RX0 "sumsBehind" "[J" ∈ xt_T := xt_w 69 (by decide +kernel) rfl
theorem flX0_wayCount : Cond.fieldLink RX0 71 RX0 "wayCount" "I" ∈ xt_T := xt_w 70 (by decide +kernel) rfl
theorem flX0_rankedWeights : Cond.fieldLink RX0 26 RX0 "rankedWeights" "[J" ∈ xt_T := xt_w 71 (by decide +kernel) rfl
theorem flX0_rankedWays : Cond.fieldLink RX0 29 RX0 "rankedWays" "[I" ∈ xt_T := xt_w 72 (by decide +kernel) rfl
theorem flX0_drawnCount : Cond.fieldLink RX0 117 RX0 "drawnCount" "I" ∈ xt_T := xt_w 73 (by decide +kernel) rfl
theorem flX0_drawnStates : Cond.fieldLink RX0 32 RX0 "drawnStates" "[I" ∈ xt_T := xt_w 74 (by decide +kernel) rfl
theorem clX0_166 : Cond.constantLong RX0 166 9 ∈ xt_T := xt_w 235 (by decide +kernel) rfl
theorem clX0_172 : Cond.constantLong RX0 172 2 ∈ xt_T := xt_w 239 (by decide +kernel) rfl
theorem flX1_states : Cond.fieldLink RX1 7 RX1 "states" "I" ∈ xt_T := xt_w 261 (by decide +kernel) rfl
theorem flX1_symbols : Cond.fieldLink RX1 13 RX1 "symbols" "I" ∈ xt_T := xt_w 262 (by decide +kernel) rfl
theorem flX1_weights : Cond.fieldLink RX1 16 RX1 "weights" "[I" ∈ xt_T := xt_w 263 (by decide +kernel) rfl
theorem flX1_n : Cond.fieldLink RX1 39 RX1 "n" "I" ∈ xt_T := xt_w 264 (by decide +kernel) rfl
theorem flX1_row : Cond.fieldLink RX1 20 RX1 "row" "[I" ∈ xt_T := xt_w 265 (by decide +kernel) rfl
theorem flX1_way : Cond.fieldLink RX1 23 RX1 "way" "[I" ∈ xt_T := xt_w 266 (by decide +kernel) rfl
theorem flX1_isDrawn : Cond.fieldLink RX1 42 RX1 "isDrawn" "Z" ∈ xt_T := xt_w 267 (by decide +kernel) rfl
theorem flX1_drawnSize : Cond.fieldLink RX1 111 RX1 "drawnSize" "I" ∈ xt_T := xt_w 268 (by decide +kernel) rfl
theorem flX1_chosen : Cond.fieldLink RX1 26 RX1 "chosen" "[I" ∈ xt_T := xt_w 269 (by decide +kernel) rfl
theorem flX1_all : Cond.fieldLink RX1 29 RX1 "all" "[J" ∈ xt_T := xt_w 270 (by decide +kernel) rfl
theorem flX1_fresh : Cond.fieldLink RX1 33 RX1 "fresh" "[I" ∈ xt_T := xt_w 271 (by decide +kernel) rfl
theorem flX1_top : Cond.fieldLink RX1 76 RX1 "top" "J" ∈ xt_T := xt_w 272 (by decide +kernel) rfl
theorem flX1_bottom : Cond.fieldLink RX1 80 RX1 "bottom" "J" ∈ xt_T := xt_w 273 (by decide +kernel) rfl
theorem clX1_107 : Cond.constantLong RX1 107 18 ∈ xt_T := xt_w 422 (by decide +kernel) rfl
theorem clX1_109 : Cond.constantLong RX1 109 2 ∈ xt_T := xt_w 423 (by decide +kernel) rfl
theorem clL_87 : Cond.constantLong RL 87 4294967295 ∈ xt_T := xt_w 432 (by decide +kernel) rfl
theorem cwL_X0_init : Cond.methodLink RL 9 yX0_init ∈ xt_T ∧ Cond.instanceMethod yX0_init ∈ xt_T ∧ Cond.initialized yX0_init.cls ∈ xt_T ∧ Cond.code yX0_init cX0_init 1 none ∈ xt_T := ⟨xt_w 8 (by decide +kernel) rfl, xt_w 9 (by decide +kernel) rfl, xt_w 1 (by decide +kernel) rfl, xt_w 10 (by decide +kernel) rfl⟩
theorem cwX0_X0_startAnew : xt_cv RX0 35 yX0_startAnew cX0_startAnew 3 none 2 := ⟨xt_w 14 (by decide +kernel) rfl, xt_w 16 (by decide +kernel) rfl, xt_s 0 (by decide +kernel) rfl, xt_w 1 (by decide +kernel) rfl, xt_w 17 (by decide +kernel) rfl, by decide +kernel, by decide +kernel, by decide +kernel⟩
theorem cwX0_J7_fill : xt_cs RX0 120 yJ7_fill cJ7_fill 4 none 2 := ⟨xt_w 18 (by decide +kernel) rfl, xt_w 19 (by decide +kernel) rfl, xt_w 2 (by decide +kernel) rfl, xt_w 20 (by decide +kernel) rfl, by decide +kernel, by decide +kernel, by decide +kernel⟩
theorem cwX0_X0_reckon : xt_cv RX0 47 yX0_reckon cX0_reckon 1 none 0 := ⟨xt_w 21 (by decide +kernel) rfl, xt_w 23 (by decide +kernel) rfl, xt_s 1 (by decide +kernel) rfl, xt_w 1 (by decide +kernel) rfl, xt_w 24 (by decide +kernel) rfl, by decide +kernel, by decide +kernel, by decide +kernel⟩
theorem cwX0_X0_sumBefore : xt_cv RX0 129 yX0_sumBefore cX0_sumBefore 3 none 0 := ⟨xt_w 25 (by decide +kernel) rfl, xt_w 27 (by decide +kernel) rfl, xt_s 2 (by decide +kernel) rfl, xt_w 1 (by decide +kernel) rfl, xt_w 28 (by decide +kernel) rfl, by decide +kernel, by decide +kernel, by decide +kernel⟩
theorem cwX0_X0_cell : xt_cs RX0 64 yX0_cell cX0_cell 2 (some .int) 2 := ⟨xt_w 29 (by decide +kernel) rfl, xt_w 30 (by decide +kernel) rfl, xt_w 1 (by decide +kernel) rfl, xt_w 31 (by decide +kernel) rfl, by decide +kernel, by decide +kernel, by decide +kernel⟩
theorem cwX0_X0_entry : xt_cv RX0 114 yX0_entry cX0_entry 5 (some .long) 3 := ⟨xt_w 32 (by decide +kernel) rfl, xt_w 34 (by decide +kernel) rfl, xt_s 3 (by decide +kernel) rfl, xt_w 1 (by decide +kernel) rfl, xt_w 35 (by decide +kernel) rfl, by decide +kernel, by decide +kernel, by decide +kernel⟩
theorem cwX0_X0_slot : xt_cs RX0 43 yX0_slot cX0_slot 3 (some .int) 3 := ⟨xt_w 36 (by decide +kernel) rfl, xt_w 37 (by decide +kernel) rfl, xt_w 1 (by decide +kernel) rfl, xt_w 38 (by decide +kernel) rfl, by decide +kernel, by decide +kernel, by decide +kernel⟩
theorem cwX0_X0_sumInto : xt_cv RX0 139 yX0_sumInto cX0_sumInto 6 (some .long) 2 := ⟨xt_w 39 (by decide +kernel) rfl, xt_w 41 (by decide +kernel) rfl, xt_s 4 (by decide +kernel) rfl, xt_w 1 (by decide +kernel) rfl, xt_w 42 (by decide +kernel) rfl, by decide +kernel, by decide +kernel, by decide +kernel⟩
theorem cwX0_X0_sumBehind : xt_cv RX0 132 yX0_sumBehind cX0_sumBehind 3 none 0 := ⟨xt_w 43 (by decide +kernel) rfl, xt_w 45 (by decide +kernel) rfl, xt_s 5 (by decide +kernel) rfl, xt_w 1 (by decide +kernel) rfl, xt_w 46 (by decide +kernel) rfl, by decide +kernel, by decide +kernel, by decide +kernel⟩
theorem cwX0_X0_sumOutOf : xt_cv RX0 142 yX0_sumOutOf cX0_sumOutOf 6 (some .long) 2 := ⟨xt_w 47 (by decide +kernel) rfl, xt_w 49 (by decide +kernel) rfl, xt_s 6 (by decide +kernel) rfl, xt_w 1 (by decide +kernel) rfl, xt_w 50 (by decide +kernel) rfl, by decide +kernel, by decide +kernel, by decide +kernel⟩
theorem cwX0_X0_rankFrom : xt_cv RX0 135 yX0_rankFrom cX0_rankFrom 8 none 3 := ⟨xt_w 51 (by decide +kernel) rfl, xt_w 53 (by decide +kernel) rfl, xt_s 7 (by decide +kernel) rfl, xt_w 1 (by decide +kernel) rfl, xt_w 54 (by decide +kernel) rfl, by decide +kernel, by decide +kernel, by decide +kernel⟩
theorem cwX0_X0_rankWay : xt_cv RX0 145 yX0_rankWay cX0_rankWay 5 none 2 := ⟨xt_w 55 (by decide +kernel) rfl, xt_w 57 (by decide +kernel) rfl, xt_s 8 (by decide +kernel) rfl, xt_w 1 (by decide +kernel) rfl, xt_w 58 (by decide +kernel) rfl, by decide +kernel, by decide +kernel, by decide +kernel⟩
theorem cwL_X0_size : xt_cv RL 13 yX0_size cX0_size 3 (some .boolean) 2 := ⟨xt_w 104 (by decide +kernel) rfl, xt_w 105 (by decide +kernel) rfl, xt_w 106 (by decide +kernel) rfl, xt_w 1 (by decide +kernel) rfl, xt_w 107 (by decide +kernel) rfl, by decide +kernel, by decide +kernel, by decide +kernel⟩
theorem cwL_X0_weigh : xt_cv RL 18 yX0_weigh cX0_weigh 5 (some .boolean) 4 := ⟨xt_w 108 (by decide +kernel) rfl, xt_w 109 (by decide +kernel) rfl, xt_w 110 (by decide +kernel) rfl, xt_w 1 (by decide +kernel) rfl, xt_w 111 (by decide +kernel) rfl, by decide +kernel, by decide +kernel, by decide +kernel⟩
theorem cwX0_X0_hasWeight : xt_cv RX0 39 yX0_hasWeight cX0_hasWeight 4 (some .boolean) 3 := ⟨xt_w 112 (by decide +kernel) rfl, xt_w 114 (by decide +kernel) rfl, xt_s 9 (by decide +kernel) rfl, xt_w 1 (by decide +kernel) rfl, xt_w 115 (by decide +kernel) rfl, by decide +kernel, by decide +kernel, by decide +kernel⟩
theorem cwX0_X0_rowsOf : xt_cv RX0 101 yX0_rowsOf cX0_rowsOf 2 (some .int) 1 := ⟨xt_w 116 (by decide +kernel) rfl, xt_w 118 (by decide +kernel) rfl, xt_s 10 (by decide +kernel) rfl, xt_w 1 (by decide +kernel) rfl, xt_w 119 (by decide +kernel) rfl, by decide +kernel, by decide +kernel, by decide +kernel⟩
theorem cwX0_X0_columnsOf : xt_cv RX0 126 yX0_columnsOf cX0_columnsOf 2 (some .int) 1 := ⟨xt_w 120 (by decide +kernel) rfl, xt_w 122 (by decide +kernel) rfl, xt_s 11 (by decide +kernel) rfl, xt_w 1 (by decide +kernel) rfl, xt_w 123 (by decide +kernel) rfl, by decide +kernel, by decide +kernel, by decide +kernel⟩
theorem cwL_X0_weight : xt_cv RL 23 yX0_weight cX0_weight 4 (some .int) 3 := ⟨xt_w 124 (by decide +kernel) rfl, xt_w 125 (by decide +kernel) rfl, xt_w 126 (by decide +kernel) rfl, xt_w 1 (by decide +kernel) rfl, xt_w 127 (by decide +kernel) rfl, by decide +kernel, by decide +kernel, by decide +kernel⟩
theorem cwL_X0_see : xt_cv RL 28 yX0_see cX0_see 2 (some .int) 1 := ⟨xt_w 128 (by decide +kernel) rfl, xt_w 129 (by decide +kernel) rfl, xt_w 130 (by decide +kernel) rfl, xt_w 1 (by decide +kernel) rfl, xt_w 131 (by decide +kernel) rfl, by decide +kernel, by decide +kernel, by decide +kernel⟩
theorem cwL_X0_forget : xt_cv RL 33 yX0_forget cX0_forget 3 (some .int) 1 := ⟨xt_w 132 (by decide +kernel) rfl, xt_w 133 (by decide +kernel) rfl, xt_w 134 (by decide +kernel) rfl, xt_w 1 (by decide +kernel) rfl, xt_w 135 (by decide +kernel) rfl, by decide +kernel, by decide +kernel, by decide +kernel⟩
theorem cwL_X0_seen : xt_cv RL 37 yX0_seen cX0_seen 1 (some .int) 0 := ⟨xt_w 136 (by decide +kernel) rfl, xt_w 137 (by decide +kernel) rfl, xt_w 138 (by decide +kernel) rfl, xt_w 1 (by decide +kernel) rfl, xt_w 139 (by decide +kernel) rfl, by decide +kernel, by decide +kernel, by decide +kernel⟩
theorem cwL_X0_symbol : xt_cv RL 42 yX0_symbol cX0_symbol 2 (some .int) 1 := ⟨xt_w 140 (by decide +kernel) rfl, xt_w 141 (by decide +kernel) rfl, xt_w 142 (by decide +kernel) rfl, xt_w 1 (by decide +kernel) rfl, xt_w 143 (by decide +kernel) rfl, by decide +kernel, by decide +kernel, by decide +kernel⟩
theorem cwX0_X0_hasPlace : xt_cv RX0 57 yX0_hasPlace cX0_hasPlace 2 (some .boolean) 1 := ⟨xt_w 144 (by decide +kernel) rfl, xt_w 146 (by decide +kernel) rfl, xt_s 12 (by decide +kernel) rfl, xt_w 1 (by decide +kernel) rfl, xt_w 147 (by decide +kernel) rfl, by decide +kernel, by decide +kernel, by decide +kernel⟩
theorem cwL_X0_total : xt_cv RL 46 yX0_total cX0_total 4 (some .long) 0 := ⟨xt_w 148 (by decide +kernel) rfl, xt_w 149 (by decide +kernel) rfl, xt_w 150 (by decide +kernel) rfl, xt_w 1 (by decide +kernel) rfl, xt_w 151 (by decide +kernel) rfl, by decide +kernel, by decide +kernel, by decide +kernel⟩
theorem cwL_X0_before : xt_cv RL 51 yX0_before cX0_before 3 (some .long) 2 := ⟨xt_w 152 (by decide +kernel) rfl, xt_w 153 (by decide +kernel) rfl, xt_w 154 (by decide +kernel) rfl, xt_w 1 (by decide +kernel) rfl, xt_w 155 (by decide +kernel) rfl, by decide +kernel, by decide +kernel, by decide +kernel⟩
theorem cwX0_X0_hasState : xt_cv RX0 68 yX0_hasState cX0_hasState 2 (some .boolean) 1 := ⟨xt_w 156 (by decide +kernel) rfl, xt_w 158 (by decide +kernel) rfl, xt_s 13 (by decide +kernel) rfl, xt_w 1 (by decide +kernel) rfl, xt_w 159 (by decide +kernel) rfl, by decide +kernel, by decide +kernel, by decide +kernel⟩
theorem cwL_X0_behind : xt_cv RL 56 yX0_behind cX0_behind 3 (some .long) 2 := ⟨xt_w 160 (by decide +kernel) rfl, xt_w 161 (by decide +kernel) rfl, xt_w 162 (by decide +kernel) rfl, xt_w 1 (by decide +kernel) rfl, xt_w 163 (by decide +kernel) rfl, by decide +kernel, by decide +kernel, by decide +kernel⟩
theorem cwL_X0_ways : xt_cv RL 60 yX0_ways cX0_ways 1 (some .int) 0 := ⟨xt_w 164 (by decide +kernel) rfl, xt_w 165 (by decide +kernel) rfl, xt_w 166 (by decide +kernel) rfl, xt_w 1 (by decide +kernel) rfl, xt_w 167 (by decide +kernel) rfl, by decide +kernel, by decide +kernel, by decide +kernel⟩
theorem cwL_X0_ranked : xt_cv RL 64 yX0_ranked cX0_ranked 2 (some .long) 1 := ⟨xt_w 168 (by decide +kernel) rfl, xt_w 169 (by decide +kernel) rfl, xt_w 170 (by decide +kernel) rfl, xt_w 1 (by decide +kernel) rfl, xt_w 171 (by decide +kernel) rfl, by decide +kernel, by decide +kernel, by decide +kernel⟩
theorem cwX0_X0_hasRank : xt_cv RX0 74 yX0_hasRank cX0_hasRank 2 (some .boolean) 1 := ⟨xt_w 172 (by decide +kernel) rfl, xt_w 174 (by decide +kernel) rfl, xt_s 14 (by decide +kernel) rfl, xt_w 1 (by decide +kernel) rfl, xt_w 175 (by decide +kernel) rfl, by decide +kernel, by decide +kernel, by decide +kernel⟩
theorem cwL_X0_stateOf : xt_cv RL 69 yX0_stateOf cX0_stateOf 3 (some .int) 2 := ⟨xt_w 176 (by decide +kernel) rfl, xt_w 177 (by decide +kernel) rfl, xt_w 178 (by decide +kernel) rfl, xt_w 1 (by decide +kernel) rfl, xt_w 179 (by decide +kernel) rfl, by decide +kernel, by decide +kernel, by decide +kernel⟩
theorem cwL_X0_share : xt_cv RL 74 yX0_share cX0_share 6 (some .long) 4 := ⟨xt_w 180 (by decide +kernel) rfl, xt_w 181 (by decide +kernel) rfl, xt_w 182 (by decide +kernel) rfl, xt_w 1 (by decide +kernel) rfl, xt_w 183 (by decide +kernel) rfl, by decide +kernel, by decide +kernel, by decide +kernel⟩
theorem cwX0_X0_unitsOf : xt_cv RX0 77 yX0_unitsOf cX0_unitsOf 4 (some .long) 3 := ⟨xt_w 184 (by decide +kernel) rfl, xt_w 186 (by decide +kernel) rfl, xt_s 15 (by decide +kernel) rfl, xt_w 1 (by decide +kernel) rfl, xt_w 187 (by decide +kernel) rfl, by decide +kernel, by decide +kernel, by decide +kernel⟩
theorem cwX0_X0_unitsThrough : xt_cv RX0 154 yX0_unitsThrough cX0_unitsThrough 3 (some .long) 2 := ⟨xt_w 188 (by decide +kernel) rfl, xt_w 190 (by decide +kernel) rfl, xt_s 16 (by decide +kernel) rfl, xt_w 1 (by decide +kernel) rfl, xt_w 191 (by decide +kernel) rfl, by decide +kernel, by decide +kernel, by decide +kernel⟩
theorem cwX0_X0_unitsOfStep : xt_cv RX0 157 yX0_unitsOfStep cX0_unitsOfStep 6 (some .long) 2 := ⟨xt_w 192 (by decide +kernel) rfl, xt_w 194 (by decide +kernel) rfl, xt_s 17 (by decide +kernel) rfl, xt_w 1 (by decide +kernel) rfl, xt_w 195 (by decide +kernel) rfl, by decide +kernel, by decide +kernel, by decide +kernel⟩
theorem cwX0_X0_unitsOfSymbol : xt_cv RX0 160 yX0_unitsOfSymbol cX0_unitsOfSymbol 6 (some .long) 2 := ⟨xt_w 196 (by decide +kernel) rfl, xt_w 198 (by decide +kernel) rfl, xt_s 18 (by decide +kernel) rfl, xt_w 1 (by decide +kernel) rfl, xt_w 199 (by decide +kernel) rfl, by decide +kernel, by decide +kernel, by decide +kernel⟩
theorem cwX0_X0_total : xt_cv RX0 81 yX0_total cX0_total 4 (some .long) 0 := ⟨xt_w 200 (by decide +kernel) rfl, xt_w 149 (by decide +kernel) rfl, xt_w 150 (by decide +kernel) rfl, xt_w 1 (by decide +kernel) rfl, xt_w 151 (by decide +kernel) rfl, by decide +kernel, by decide +kernel, by decide +kernel⟩
theorem cwX0_X0_partOf : xt_cs RX0 85 yX0_partOf cX0_partOf 7 (some .long) 3 := ⟨xt_w 201 (by decide +kernel) rfl, xt_w 202 (by decide +kernel) rfl, xt_w 1 (by decide +kernel) rfl, xt_w 203 (by decide +kernel) rfl, by decide +kernel, by decide +kernel, by decide +kernel⟩
theorem cwX0_X0_commonDivisor : xt_cs RX0 174 yX0_commonDivisor cX0_commonDivisor 11 (some .long) 2 := ⟨xt_w 204 (by decide +kernel) rfl, xt_w 205 (by decide +kernel) rfl, xt_w 1 (by decide +kernel) rfl, xt_w 206 (by decide +kernel) rfl, by decide +kernel, by decide +kernel, by decide +kernel⟩
theorem cwL_X0_learned : xt_cv RL 79 yX0_learned cX0_learned 7 (some .long) 4 := ⟨xt_w 207 (by decide +kernel) rfl, xt_w 208 (by decide +kernel) rfl, xt_w 209 (by decide +kernel) rfl, xt_w 1 (by decide +kernel) rfl, xt_w 210 (by decide +kernel) rfl, by decide +kernel, by decide +kernel, by decide +kernel⟩
theorem cwX0_X0_unitsOfRow : xt_cv RX0 89 yX0_unitsOfRow cX0_unitsOfRow 6 (some .long) 2 := ⟨xt_w 211 (by decide +kernel) rfl, xt_w 213 (by decide +kernel) rfl, xt_s 19 (by decide +kernel) rfl, xt_w 1 (by decide +kernel) rfl, xt_w 214 (by decide +kernel) rfl, by decide +kernel, by decide +kernel, by decide +kernel⟩
theorem cwX0_X0_learnedPortion : xt_cv RX0 93 yX0_learnedPortion cX0_learnedPortion 6 (some .long) 4 := ⟨xt_w 215 (by decide +kernel) rfl, xt_w 217 (by decide +kernel) rfl, xt_s 20 (by decide +kernel) rfl, xt_w 1 (by decide +kernel) rfl, xt_w 218 (by decide +kernel) rfl, by decide +kernel, by decide +kernel, by decide +kernel⟩
theorem cwX0_X0_learnedWhole : xt_cv RX0 97 yX0_learnedWhole cX0_learnedWhole 5 (some .long) 3 := ⟨xt_w 219 (by decide +kernel) rfl, xt_w 221 (by decide +kernel) rfl, xt_s 21 (by decide +kernel) rfl, xt_w 1 (by decide +kernel) rfl, xt_w 222 (by decide +kernel) rfl, by decide +kernel, by decide +kernel, by decide +kernel⟩
theorem cwX0_X0_weightOfRow : xt_cv RX0 163 yX0_weightOfRow cX0_weightOfRow 6 (some .long) 2 := ⟨xt_w 223 (by decide +kernel) rfl, xt_w 225 (by decide +kernel) rfl, xt_s 22 (by decide +kernel) rfl, xt_w 1 (by decide +kernel) rfl, xt_w 226 (by decide +kernel) rfl, by decide +kernel, by decide +kernel, by decide +kernel⟩
theorem cwL_X0_learn : xt_cv RL 83 yX0_learn cX0_learn 4 (some .int) 0 := ⟨xt_w 227 (by decide +kernel) rfl, xt_w 228 (by decide +kernel) rfl, xt_w 229 (by decide +kernel) rfl, xt_w 1 (by decide +kernel) rfl, xt_w 230 (by decide +kernel) rfl, by decide +kernel, by decide +kernel, by decide +kernel⟩
theorem cwX0_X0_learnRow : xt_cv RX0 105 yX0_learnRow cX0_learnRow 10 (some .int) 2 := ⟨xt_w 231 (by decide +kernel) rfl, xt_w 233 (by decide +kernel) rfl, xt_s 23 (by decide +kernel) rfl, xt_w 1 (by decide +kernel) rfl, xt_w 234 (by decide +kernel) rfl, by decide +kernel, by decide +kernel, by decide +kernel⟩
theorem cwX0_X0_nearest : xt_cs RX0 168 yX0_nearest cX0_nearest 4 (some .int) 2 := ⟨xt_w 236 (by decide +kernel) rfl, xt_w 237 (by decide +kernel) rfl, xt_w 1 (by decide +kernel) rfl, xt_w 238 (by decide +kernel) rfl, by decide +kernel, by decide +kernel, by decide +kernel⟩
theorem cwL_X0_draw : xt_cv RL 89 yX0_draw cX0_draw 12 (some .boolean) 1 := ⟨xt_w 243 (by decide +kernel) rfl, xt_w 244 (by decide +kernel) rfl, xt_w 245 (by decide +kernel) rfl, xt_w 1 (by decide +kernel) rfl, xt_w 246 (by decide +kernel) rfl, by decide +kernel, by decide +kernel, by decide +kernel⟩
theorem cwL_X0_drawn : xt_cv RL 94 yX0_drawn cX0_drawn 2 (some .int) 1 := ⟨xt_w 247 (by decide +kernel) rfl, xt_w 248 (by decide +kernel) rfl, xt_w 249 (by decide +kernel) rfl, xt_w 1 (by decide +kernel) rfl, xt_w 250 (by decide +kernel) rfl, by decide +kernel, by decide +kernel, by decide +kernel⟩
theorem cwL_X1_init : Cond.methodLink RL 12 yX1_init ∈ xt_T ∧ Cond.instanceMethod yX1_init ∈ xt_T ∧ Cond.initialized yX1_init.cls ∈ xt_T ∧ Cond.code yX1_init cX1_init 1 none ∈ xt_T := ⟨xt_w 253 (by decide +kernel) rfl, xt_w 254 (by decide +kernel) rfl, xt_w 4 (by decide +kernel) rfl, xt_w 255 (by decide +kernel) rfl⟩
theorem cwX1_X1_clear : xt_cv RX1 36 yX1_clear cX1_clear 2 none 0 := ⟨xt_w 257 (by decide +kernel) rfl, xt_w 259 (by decide +kernel) rfl, xt_s 24 (by decide +kernel) rfl, xt_w 4 (by decide +kernel) rfl, xt_w 260 (by decide +kernel) rfl, by decide +kernel, by decide +kernel, by decide +kernel⟩
theorem cwL_X1_size : xt_cv RL 17 yX1_size cX1_size 3 (some .boolean) 2 := ⟨xt_w 301 (by decide +kernel) rfl, xt_w 302 (by decide +kernel) rfl, xt_w 303 (by decide +kernel) rfl, xt_w 4 (by decide +kernel) rfl, xt_w 304 (by decide +kernel) rfl, by decide +kernel, by decide +kernel, by decide +kernel⟩
theorem cwL_X1_weigh : xt_cv RL 22 yX1_weigh cX1_weigh 6 (some .boolean) 4 := ⟨xt_w 305 (by decide +kernel) rfl, xt_w 306 (by decide +kernel) rfl, xt_w 307 (by decide +kernel) rfl, xt_w 4 (by decide +kernel) rfl, xt_w 308 (by decide +kernel) rfl, by decide +kernel, by decide +kernel, by decide +kernel⟩
theorem cwX1_X1_slot : xt_cv RX1 53 yX1_slot cX1_slot 4 (some .int) 3 := ⟨xt_w 309 (by decide +kernel) rfl, xt_w 311 (by decide +kernel) rfl, xt_s 25 (by decide +kernel) rfl, xt_w 4 (by decide +kernel) rfl, xt_w 312 (by decide +kernel) rfl, by decide +kernel, by decide +kernel, by decide +kernel⟩
theorem cwX1_X1_state : xt_cv RX1 46 yX1_state cX1_state 2 (some .boolean) 1 := ⟨xt_w 313 (by decide +kernel) rfl, xt_w 315 (by decide +kernel) rfl, xt_s 26 (by decide +kernel) rfl, xt_w 4 (by decide +kernel) rfl, xt_w 316 (by decide +kernel) rfl, by decide +kernel, by decide +kernel, by decide +kernel⟩
theorem cwX1_X1_isSymbol : xt_cv RX1 50 yX1_isSymbol cX1_isSymbol 2 (some .boolean) 1 := ⟨xt_w 317 (by decide +kernel) rfl, xt_w 319 (by decide +kernel) rfl, xt_s 27 (by decide +kernel) rfl, xt_w 4 (by decide +kernel) rfl, xt_w 320 (by decide +kernel) rfl, by decide +kernel, by decide +kernel, by decide +kernel⟩
theorem cwL_X1_weight : xt_cv RL 27 yX1_weight cX1_weight 5 (some .int) 3 := ⟨xt_w 321 (by decide +kernel) rfl, xt_w 322 (by decide +kernel) rfl, xt_w 323 (by decide +kernel) rfl, xt_w 4 (by decide +kernel) rfl, xt_w 324 (by decide +kernel) rfl, by decide +kernel, by decide +kernel, by decide +kernel⟩
theorem cwL_X1_see : xt_cv RL 32 yX1_see cX1_see 2 (some .int) 1 := ⟨xt_w 325 (by decide +kernel) rfl, xt_w 326 (by decide +kernel) rfl, xt_w 327 (by decide +kernel) rfl, xt_w 4 (by decide +kernel) rfl, xt_w 328 (by decide +kernel) rfl, by decide +kernel, by decide +kernel, by decide +kernel⟩
theorem cwL_X1_forget : xt_cv RL 36 yX1_forget cX1_forget 3 (some .int) 1 := ⟨xt_w 329 (by decide +kernel) rfl, xt_w 330 (by decide +kernel) rfl, xt_w 331 (by decide +kernel) rfl, xt_w 4 (by decide +kernel) rfl, xt_w 332 (by decide +kernel) rfl, by decide +kernel, by decide +kernel, by decide +kernel⟩
theorem cwL_X1_seen : xt_cv RL 41 yX1_seen cX1_seen 1 (some .int) 0 := ⟨xt_w 333 (by decide +kernel) rfl, xt_w 334 (by decide +kernel) rfl, xt_w 335 (by decide +kernel) rfl, xt_w 4 (by decide +kernel) rfl, xt_w 336 (by decide +kernel) rfl, by decide +kernel, by decide +kernel, by decide +kernel⟩
theorem cwL_X1_symbol : xt_cv RL 45 yX1_symbol cX1_symbol 2 (some .int) 1 := ⟨xt_w 337 (by decide +kernel) rfl, xt_w 338 (by decide +kernel) rfl, xt_w 339 (by decide +kernel) rfl, xt_w 4 (by decide +kernel) rfl, xt_w 340 (by decide +kernel) rfl, by decide +kernel, by decide +kernel, by decide +kernel⟩
theorem cwL_X1_total : xt_cv RL 50 yX1_total cX1_total 5 (some .long) 0 := ⟨xt_w 341 (by decide +kernel) rfl, xt_w 342 (by decide +kernel) rfl, xt_w 343 (by decide +kernel) rfl, xt_w 4 (by decide +kernel) rfl, xt_w 344 (by decide +kernel) rfl, by decide +kernel, by decide +kernel, by decide +kernel⟩
theorem cwX1_X1_power : xt_cv RX1 65 yX1_power cX1_power 4 (some .int) 1 := ⟨xt_w 345 (by decide +kernel) rfl, xt_w 347 (by decide +kernel) rfl, xt_s 28 (by decide +kernel) rfl, xt_w 4 (by decide +kernel) rfl, xt_w 348 (by decide +kernel) rfl, by decide +kernel, by decide +kernel, by decide +kernel⟩
theorem cwX1_X1_weightOf : xt_cv RX1 69 yX1_weightOf cX1_weightOf 2 (some .long) 1 := ⟨xt_w 349 (by decide +kernel) rfl, xt_w 351 (by decide +kernel) rfl, xt_s 29 (by decide +kernel) rfl, xt_w 4 (by decide +kernel) rfl, xt_w 352 (by decide +kernel) rfl, by decide +kernel, by decide +kernel, by decide +kernel⟩
theorem cwX1_X1_spell : xt_cv RX1 57 yX1_spell cX1_spell 6 none 3 := ⟨xt_w 353 (by decide +kernel) rfl, xt_w 355 (by decide +kernel) rfl, xt_s 30 (by decide +kernel) rfl, xt_w 4 (by decide +kernel) rfl, xt_w 356 (by decide +kernel) rfl, by decide +kernel, by decide +kernel, by decide +kernel⟩
theorem cwX1_X1_product : xt_cv RX1 61 yX1_product cX1_product 7 (some .long) 2 := ⟨xt_w 357 (by decide +kernel) rfl, xt_w 359 (by decide +kernel) rfl, xt_s 31 (by decide +kernel) rfl, xt_w 4 (by decide +kernel) rfl, xt_w 360 (by decide +kernel) rfl, by decide +kernel, by decide +kernel, by decide +kernel⟩
theorem cwL_X1_before : xt_cv RL 55 yX1_before cX1_before 7 (some .long) 2 := ⟨xt_w 361 (by decide +kernel) rfl, xt_w 362 (by decide +kernel) rfl, xt_w 363 (by decide +kernel) rfl, xt_w 4 (by decide +kernel) rfl, xt_w 364 (by decide +kernel) rfl, by decide +kernel, by decide +kernel, by decide +kernel⟩
theorem cwL_X1_behind : xt_cv RL 59 yX1_behind cX1_behind 7 (some .long) 2 := ⟨xt_w 365 (by decide +kernel) rfl, xt_w 366 (by decide +kernel) rfl, xt_w 367 (by decide +kernel) rfl, xt_w 4 (by decide +kernel) rfl, xt_w 368 (by decide +kernel) rfl, by decide +kernel, by decide +kernel, by decide +kernel⟩
theorem cwL_X1_ways : xt_cv RL 63 yX1_ways cX1_ways 4 (some .int) 0 := ⟨xt_w 369 (by decide +kernel) rfl, xt_w 370 (by decide +kernel) rfl, xt_w 371 (by decide +kernel) rfl, xt_w 4 (by decide +kernel) rfl, xt_w 372 (by decide +kernel) rfl, by decide +kernel, by decide +kernel, by decide +kernel⟩
theorem cwL_X1_ranked : xt_cv RL 68 yX1_ranked cX1_ranked 3 (some .long) 1 := ⟨xt_w 373 (by decide +kernel) rfl, xt_w 374 (by decide +kernel) rfl, xt_w 375 (by decide +kernel) rfl, xt_w 4 (by decide +kernel) rfl, xt_w 376 (by decide +kernel) rfl, by decide +kernel, by decide +kernel, by decide +kernel⟩
theorem cwX1_X1_rank : xt_cv RX1 73 yX1_rank cX1_rank 7 (some .int) 1 := ⟨xt_w 377 (by decide +kernel) rfl, xt_w 379 (by decide +kernel) rfl, xt_s 32 (by decide +kernel) rfl, xt_w 4 (by decide +kernel) rfl, xt_w 380 (by decide +kernel) rfl, by decide +kernel, by decide +kernel, by decide +kernel⟩
theorem cwL_X1_stateOf : xt_cv RL 73 yX1_stateOf cX1_stateOf 4 (some .int) 2 := ⟨xt_w 381 (by decide +kernel) rfl, xt_w 382 (by decide +kernel) rfl, xt_w 383 (by decide +kernel) rfl, xt_w 4 (by decide +kernel) rfl, xt_w 384 (by decide +kernel) rfl, by decide +kernel, by decide +kernel, by decide +kernel⟩
theorem cwL_X1_share : xt_cv RL 78 yX1_share cX1_share 8 (some .long) 4 := ⟨xt_w 385 (by decide +kernel) rfl, xt_w 386 (by decide +kernel) rfl, xt_w 387 (by decide +kernel) rfl, xt_w 4 (by decide +kernel) rfl, xt_w 388 (by decide +kernel) rfl, by decide +kernel, by decide +kernel, by decide +kernel⟩
theorem cwX1_X1_total : xt_cv RX1 86 yX1_total cX1_total 5 (some .long) 0 := ⟨xt_w 389 (by decide +kernel) rfl, xt_w 342 (by decide +kernel) rfl, xt_w 343 (by decide +kernel) rfl, xt_w 4 (by decide +kernel) rfl, xt_w 344 (by decide +kernel) rfl, by decide +kernel, by decide +kernel, by decide +kernel⟩
theorem cwX1_X1_sum : xt_cv RX1 90 yX1_sum cX1_sum 10 (some .long) 3 := ⟨xt_w 390 (by decide +kernel) rfl, xt_w 392 (by decide +kernel) rfl, xt_s 33 (by decide +kernel) rfl, xt_w 4 (by decide +kernel) rfl, xt_w 393 (by decide +kernel) rfl, by decide +kernel, by decide +kernel, by decide +kernel⟩
theorem cwX1_X1_times : xt_cv RX1 83 yX1_times cX1_times 7 (some .int) 3 := ⟨xt_w 394 (by decide +kernel) rfl, xt_w 396 (by decide +kernel) rfl, xt_s 34 (by decide +kernel) rfl, xt_w 4 (by decide +kernel) rfl, xt_w 397 (by decide +kernel) rfl, by decide +kernel, by decide +kernel, by decide +kernel⟩
theorem cwX1_X1_fraction : xt_cv RX1 94 yX1_fraction cX1_fraction 11 none 2 := ⟨xt_w 398 (by decide +kernel) rfl, xt_w 400 (by decide +kernel) rfl, xt_s 35 (by decide +kernel) rfl, xt_w 4 (by decide +kernel) rfl, xt_w 401 (by decide +kernel) rfl, by decide +kernel, by decide +kernel, by decide +kernel⟩
theorem cwX1_X1_part : xt_cv RX1 98 yX1_part cX1_part 2 (some .long) 1 := ⟨xt_w 402 (by decide +kernel) rfl, xt_w 404 (by decide +kernel) rfl, xt_s 36 (by decide +kernel) rfl, xt_w 4 (by decide +kernel) rfl, xt_w 405 (by decide +kernel) rfl, by decide +kernel, by decide +kernel, by decide +kernel⟩
theorem cwL_X1_learned : xt_cv RL 82 yX1_learned cX1_learned 5 (some .long) 4 := ⟨xt_w 406 (by decide +kernel) rfl, xt_w 407 (by decide +kernel) rfl, xt_w 408 (by decide +kernel) rfl, xt_w 4 (by decide +kernel) rfl, xt_w 409 (by decide +kernel) rfl, by decide +kernel, by decide +kernel, by decide +kernel⟩
theorem cwX1_X1_learnOne : xt_cv RX1 104 yX1_learnOne cX1_learnOne 11 none 3 := ⟨xt_w 410 (by decide +kernel) rfl, xt_w 412 (by decide +kernel) rfl, xt_s 37 (by decide +kernel) rfl, xt_w 4 (by decide +kernel) rfl, xt_w 413 (by decide +kernel) rfl, by decide +kernel, by decide +kernel, by decide +kernel⟩
theorem cwX1_X1_columns : xt_cv RX1 101 yX1_columns cX1_columns 2 (some .int) 1 := ⟨xt_w 414 (by decide +kernel) rfl, xt_w 416 (by decide +kernel) rfl, xt_s 38 (by decide +kernel) rfl, xt_w 4 (by decide +kernel) rfl, xt_w 417 (by decide +kernel) rfl, by decide +kernel, by decide +kernel, by decide +kernel⟩
theorem cwL_X1_learn : xt_cv RL 86 yX1_learn cX1_learn 6 (some .int) 0 := ⟨xt_w 418 (by decide +kernel) rfl, xt_w 419 (by decide +kernel) rfl, xt_w 420 (by decide +kernel) rfl, xt_w 4 (by decide +kernel) rfl, xt_w 421 (by decide +kernel) rfl, by decide +kernel, by decide +kernel, by decide +kernel⟩
theorem cwL_X1_draw : xt_cv RL 93 yX1_draw cX1_draw 10 (some .boolean) 1 := ⟨xt_w 424 (by decide +kernel) rfl, xt_w 425 (by decide +kernel) rfl, xt_w 426 (by decide +kernel) rfl, xt_w 4 (by decide +kernel) rfl, xt_w 427 (by decide +kernel) rfl, by decide +kernel, by decide +kernel, by decide +kernel⟩
theorem cwL_X1_drawn : xt_cv RL 97 yX1_drawn cX1_drawn 2 (some .int) 1 := ⟨xt_w 428 (by decide +kernel) rfl, xt_w 429 (by decide +kernel) rfl, xt_w 430 (by decide +kernel) rfl, xt_w 4 (by decide +kernel) rfl, xt_w 431 (by decide +kernel) rfl, by decide +kernel, by decide +kernel, by decide +kernel⟩
theorem xt_ac_int : Cond.arrayClass .int ∈ xt_T := xt_w 102 (by decide +kernel) rfl
theorem xt_ac_long : Cond.arrayClass .long ∈ xt_T := xt_w 103 (by decide +kernel) rfl
theorem xt_nwX0 : Cond.classLink RL 7 RX0 ∈ xt_T ∧ Cond.instantiable RX0 13 ∈ xt_T ∧ Cond.initialized RX0 ∈ xt_T := ⟨xt_w 6 (by decide +kernel) rfl, xt_w 7 (by decide +kernel) rfl, xt_w 1 (by decide +kernel) rfl⟩
theorem xt_obX0 : Cond.methodLink RX0 1 objectInit ∈ xt_T ∧ Cond.instanceMethod objectInit ∈ xt_T ∧ Cond.code objectInit ⟨#[0xb1]⟩ 1 none ∈ xt_T := ⟨xt_w 11 (by decide +kernel) rfl, xt_w 12 (by decide +kernel) rfl, xt_w 13 (by decide +kernel) rfl⟩
theorem xt_nwX1 : Cond.classLink RL 10 RX1 ∈ xt_T ∧ Cond.instantiable RX1 13 ∈ xt_T ∧ Cond.initialized RX1 ∈ xt_T := ⟨xt_w 251 (by decide +kernel) rfl, xt_w 252 (by decide +kernel) rfl, xt_w 4 (by decide +kernel) rfl⟩
theorem xt_obX1 : Cond.methodLink RX1 1 objectInit ∈ xt_T ∧ Cond.instanceMethod objectInit ∈ xt_T ∧ Cond.code objectInit ⟨#[0xb1]⟩ 1 none ∈ xt_T := ⟨xt_w 256 (by decide +kernel) rfl, xt_w 12 (by decide +kernel) rfl, xt_w 13 (by decide +kernel) rfl⟩
theorem xt_min : Cond.methodLink RX0 149 Lib.Math.min.name ∈ xt_T ∧ Cond.static Lib.Math.min.name ∈ xt_T ∧ Cond.initialized "java/lang/Math" ∈ xt_T ∧ Cond.code Lib.Math.min.name Lib.Math.min.code 2 (some .int) ∈ xt_T := ⟨xt_w 59 (by decide +kernel) rfl, xt_w 60 (by decide +kernel) rfl, xt_w 3 (by decide +kernel) rfl, xt_w 61 (by decide +kernel) rfl⟩
theorem xt_acp : Cond.methodLink RX0 108 arraycopyName ∈ xt_T ∧ Cond.native arraycopyName ∈ xt_T ∧ Cond.static arraycopyName ∈ xt_T ∧ Cond.initialized "java/lang/System" ∈ xt_T := ⟨xt_w 240 (by decide +kernel) rfl, xt_w 242 (by decide +kernel) rfl, xt_w 241 (by decide +kernel) rfl, xt_w 5 (by decide +kernel) rfl⟩
end
section
/-- the class's cells: its object, its eight rows -/
def xX (ad : Nat → Nat) (cI cL : ClassId) (S K n wc dn : Nat) (w lw sy sb sh rw rk dr : Nat → Nat) : va_W :=
  [(ad 0, .inr (0, [.int (nI S), .int (nI K), .ref (ad 1), .ref (ad 2), .int (nI n), .ref (ad 3), .ref (ad 4), .ref (ad 5), .int (nI wc), .ref (ad 6), .ref (ad 7), .int (nI dn), .ref (ad 8)])),
   (ad 1, xt_i cI 36 w), (ad 2, xt_i cI 36 lw), (ad 3, xt_i cI 6 sy), (ad 4, xt_l cL 18 sb), (ad 5, xt_l cL 18 sh), (ad 6, xt_l cL 12 rw), (ad 7, xt_i cI 12 rk), (ad 8, xt_i cI 6 dr)]
set_option maxHeartbeats 4000000 in
set_option maxRecDepth 100000 in
theorem cx_cell (l : Launch) (D : va_G) (cI cL : ClassId) (ws : va_W) (a : Nat) (b : Nat) : xt_M l yX0_cell cX0_cell 2 (some .int) 0 D cI cL [.int (nI a), .int (nI b)] (ws) (xt_Qi D cI cL (ws) (fun (r : Int32) (u : Unit) => r = nI (a * 3 + b)) (fun u => ws)) := by
  refine xt_start (own := RX0) rfl (by decide) (Nat.le_of_ble_eq_true rfl) (fun pg ev ss mi args below meth cd A Q ls C hE hA hl hW => ?_)
  replace hl : lv_has ls 2 [(0, .int (nI a)), (1, .int (nI b))] := hl
  refine lv_iload_n C.1 C.2.1 dX0_cell_0 rfl (lv_at hl 0 rfl) ?_
  refine xt_iconst C 3 dX0_cell_1 (by decide +kernel) ?_
  refine xt_imul C dX0_cell_2 ?_
  refine lv_iload_n C.1 C.2.1 dX0_cell_3 rfl (lv_at hl 1 rfl) ?_
  refine xt_iadd C dX0_cell_4 ?_
  exact xt_iret C hE () hW (rfl) dX0_cell_5
set_option maxHeartbeats 4000000 in
set_option maxRecDepth 100000 in
theorem cx_slot (l : Launch) (D : va_G) (cI cL : ClassId) (ws : va_W) (a : Nat) (b : Nat) (k : Nat) : xt_M l yX0_slot cX0_slot 3 (some .int) 0 D cI cL [.int (nI a), .int (nI b), .int (nI k)] (ws) (xt_Qi D cI cL (ws) (fun (r : Int32) (u : Unit) => r = nI ((a * 3 + b) * 4 + k)) (fun u => ws)) := by
  refine xt_start (own := RX0) rfl (by decide) (Nat.le_of_ble_eq_true rfl) (fun pg ev ss mi args below meth cd A Q ls C hE hA hl hW => ?_)
  replace hl : lv_has ls 3 [(0, .int (nI a)), (1, .int (nI b)), (2, .int (nI k))] := hl
  refine lv_iload_n C.1 C.2.1 dX0_slot_0 rfl (lv_at hl 0 rfl) ?_
  refine xt_iconst C 3 dX0_slot_1 (by decide +kernel) ?_
  refine xt_imul C dX0_slot_2 ?_
  refine lv_iload_n C.1 C.2.1 dX0_slot_3 rfl (lv_at hl 1 rfl) ?_
  refine xt_iadd C dX0_slot_4 ?_
  refine xt_iconst C 4 dX0_slot_5 (by decide +kernel) ?_
  refine xt_imul C dX0_slot_6 ?_
  refine lv_iload_n C.1 C.2.1 dX0_slot_7 rfl (lv_at hl 2 rfl) ?_
  refine xt_iadd C dX0_slot_8 ?_
  exact xt_iret C hE () hW (rfl) dX0_slot_9
set_option maxHeartbeats 4000000 in
set_option maxRecDepth 100000 in
theorem cx_entry (l : Launch) (D : va_G) (cI cL : ClassId) (ad : Nat → Nat) (S K n wc dn : Nat) (w lw sy sb sh rw rk dr : Nat → Nat) (p : Nat) (f : Nat) (t : Nat) (hp6 : p < 6) (hf3 : f < 3) (ht3 : t < 3) (hw : ∀ i, i < 36 → w i ≤ 9) (hs4 : sy p < 4) : xt_M l yX0_entry cX0_entry 5 (some .long) 1 D cI cL [.ref (ad 0), .int (nI p), .int (nI f), .int (nI t)] (xX ad cI cL S K n wc dn w lw sy sb sh rw rk dr) (xt_Ql D cI cL (xX ad cI cL S K n wc dn w lw sy sb sh rw rk dr) (fun (r : Int64) (u : Unit) => r = lN (xe w sy p f t)) (fun u => xX ad cI cL S K n wc dn w lw sy sb sh rw rk dr)) := by
  refine xt_start (own := RX0) rfl (by decide) (Nat.le_of_ble_eq_true rfl) (fun pg ev ss mi args below meth cd A Q ls C hE hA hl hW => ?_)
  replace hl : lv_has ls 5 [(0, .ref (ad 0)), (1, .int (nI p)), (2, .int (nI f)), (3, .int (nI t))] := hl
  have hwl : ∀ i, i < 36 → w i < 2 ^ 31 := fun i h => Nat.lt_of_le_of_lt (hw i h) (by decide)
  refine lv_iload_n C.1 C.2.1 dX0_entry_0 rfl (lv_at hl 1 rfl) ?_
  refine xt_if_ne C (by omega) dX0_entry_1 (tgt := 18) (by decide) (fun h1 => ?_) (fun h1 => ?_)
  · refine lv_aload_n C.1 C.2.1 dX0_entry_18 rfl (lv_at hl 0 rfl) ?_
    refine xt_get xt_inX0 C hW 0 rfl rfl 2 (by decide) rfl flX0_weights rfl dX0_entry_19 ?_
    refine xt_iconst C 1 dX0_entry_22 (by decide +kernel) ?_
    refine lv_iload_n C.1 C.2.1 dX0_entry_23 rfl (lv_at hl 2 rfl) ?_
    refine lv_iload_n C.1 C.2.1 dX0_entry_24 rfl (lv_at hl 3 rfl) ?_
    refine xt_ci hA hW (xt_runS C hW.1 hW.2.1 cwX0_X0_slot (cx_slot l D cI cL (xX ad cI cL S K n wc dn w lw sy sb sh rw rk dr) 1 f t) rfl hl.1 (rest := [.ref (ad 1)]) rfl (Nat.le_of_ble_eq_true rfl) ⟨(Nat.le_of_ble_eq_true rfl), (Nat.le_of_ble_eq_true rfl)⟩ ⟨Nat.zero_le _, Nat.zero_le _⟩ dX0_entry_25) (fun r25 u H locs hp25 hW => ?_)
    replace hW : xt_W D A ss.heap (xX ad cI cL S K n wc dn w lw sy sb sh rw rk dr) H locs := hW
    subst hp25
    refine xt_iald C hW 1 rfl (by decide) dX0_entry_28 (by omega) ?_
    refine lv_istore C.1 C.2.1 dX0_entry_29 hl (by decide) rfl (fun ls hl => ?_)
    replace hl : lv_has ls 5 [(4, .int (nI (w ((1 * 3 + f) * 4 + t)))), (0, .ref (ad 0)), (1, .int (nI p)), (2, .int (nI f)), (3, .int (nI t))] := hl
    refine lv_iload C.1 C.2.1 dX0_entry_31 (lv_at hl 0 rfl) ?_
    refine xt_i2l C dX0_entry_33 (hwl _ (by omega)) ?_
    refine lv_aload_n C.1 C.2.1 dX0_entry_34 rfl (lv_at hl 1 rfl) ?_
    refine xt_get xt_inX0 C hW 0 rfl rfl 2 (by decide) rfl flX0_weights rfl dX0_entry_35 ?_
    refine W.eq (g2 := F0 mi 38 ls [.ref (ad 1), .long (lN (w ((1 * 3 + f) * 4 + t)))]) rfl ?_
    refine xt_iconst C 2 dX0_entry_38 (by decide +kernel) ?_
    refine lv_iload_n C.1 C.2.1 dX0_entry_39 rfl (lv_at hl 4 rfl) ?_
    refine lv_aload_n C.1 C.2.1 dX0_entry_40 rfl (lv_at hl 1 rfl) ?_
    refine xt_get xt_inX0 C hW 0 rfl rfl 5 (by decide) rfl flX0_seenSymbols rfl dX0_entry_41 ?_
    refine lv_iload_n C.1 C.2.1 dX0_entry_44 rfl (lv_at hl 2 rfl) ?_
    refine xt_iald C hW 3 rfl (by decide) dX0_entry_45 (by omega) ?_
    refine xt_ci hA hW (xt_runS C hW.1 hW.2.1 cwX0_X0_slot (cx_slot l D cI cL (xX ad cI cL S K n wc dn w lw sy sb sh rw rk dr) 2 t (sy p)) rfl hl.1 (rest := [.ref (ad 1), .long (lN (w ((1 * 3 + f) * 4 + t)))]) rfl (Nat.le_of_ble_eq_true rfl) ⟨(Nat.le_of_ble_eq_true rfl), (Nat.le_of_ble_eq_true rfl)⟩ ⟨Nat.zero_le _, Nat.zero_le _⟩ dX0_entry_46) (fun r46 u H locs hp46 hW => ?_)
    replace hW : xt_W D A ss.heap (xX ad cI cL S K n wc dn w lw sy sb sh rw rk dr) H locs := hW
    subst hp46
    refine xt_iald C hW 1 rfl (by decide) dX0_entry_49 (by omega) ?_
    refine xt_i2l C dX0_entry_50 (hwl _ (by omega)) ?_
    refine xt_lmul C dX0_entry_51 ?_
    exact xt_lret C hE () hW (by show lN (_ * _) = lN (xe w sy p f t); unfold xe; first | rw [if_pos h1] | rw [if_neg h1]) dX0_entry_52
  · refine lv_aload_n C.1 C.2.1 dX0_entry_4 rfl (lv_at hl 0 rfl) ?_
    refine xt_get xt_inX0 C hW 0 rfl rfl 2 (by decide) rfl flX0_weights rfl dX0_entry_5 ?_
    refine xt_iconst C 0 dX0_entry_8 (by decide +kernel) ?_
    refine xt_iconst C 0 dX0_entry_9 (by decide +kernel) ?_
    refine lv_iload_n C.1 C.2.1 dX0_entry_10 rfl (lv_at hl 3 rfl) ?_
    refine xt_ci hA hW (xt_runS C hW.1 hW.2.1 cwX0_X0_slot (cx_slot l D cI cL (xX ad cI cL S K n wc dn w lw sy sb sh rw rk dr) 0 0 t) rfl hl.1 (rest := [.ref (ad 1)]) rfl (Nat.le_of_ble_eq_true rfl) ⟨(Nat.le_of_ble_eq_true rfl), (Nat.le_of_ble_eq_true rfl)⟩ ⟨Nat.zero_le _, Nat.zero_le _⟩ dX0_entry_11) (fun r11 u H locs hp11 hW => ?_)
    replace hW : xt_W D A ss.heap (xX ad cI cL S K n wc dn w lw sy sb sh rw rk dr) H locs := hW
    subst hp11
    refine xt_iald C hW 1 rfl (by decide) dX0_entry_14 (by omega) ?_
    refine lv_goto C.1 C.2.1 dX0_entry_15 (tgt := 29) (by decide) ?_
    refine lv_istore C.1 C.2.1 dX0_entry_29 hl (by decide) rfl (fun ls hl => ?_)
    replace hl : lv_has ls 5 [(4, .int (nI (w ((0 * 3 + 0) * 4 + t)))), (0, .ref (ad 0)), (1, .int (nI p)), (2, .int (nI f)), (3, .int (nI t))] := hl
    refine lv_iload C.1 C.2.1 dX0_entry_31 (lv_at hl 0 rfl) ?_
    refine xt_i2l C dX0_entry_33 (hwl _ (by omega)) ?_
    refine lv_aload_n C.1 C.2.1 dX0_entry_34 rfl (lv_at hl 1 rfl) ?_
    refine W.eq (g2 := F0 mi 35 ls [.ref (ad 0), .long (lN (w ((0 * 3 + 0) * 4 + t)))]) rfl ?_
    refine xt_get xt_inX0 C hW 0 rfl rfl 2 (by decide) rfl flX0_weights rfl dX0_entry_35 ?_
    refine xt_iconst C 2 dX0_entry_38 (by decide +kernel) ?_
    refine lv_iload_n C.1 C.2.1 dX0_entry_39 rfl (lv_at hl 4 rfl) ?_
    refine lv_aload_n C.1 C.2.1 dX0_entry_40 rfl (lv_at hl 1 rfl) ?_
    refine xt_get xt_inX0 C hW 0 rfl rfl 5 (by decide) rfl flX0_seenSymbols rfl dX0_entry_41 ?_
    refine lv_iload_n C.1 C.2.1 dX0_entry_44 rfl (lv_at hl 2 rfl) ?_
    refine xt_iald C hW 3 rfl (by decide) dX0_entry_45 (by omega) ?_
    refine xt_ci hA hW (xt_runS C hW.1 hW.2.1 cwX0_X0_slot (cx_slot l D cI cL (xX ad cI cL S K n wc dn w lw sy sb sh rw rk dr) 2 t (sy p)) rfl hl.1 (rest := [.ref (ad 1), .long (lN (w ((0 * 3 + 0) * 4 + t)))]) rfl (Nat.le_of_ble_eq_true rfl) ⟨(Nat.le_of_ble_eq_true rfl), (Nat.le_of_ble_eq_true rfl)⟩ ⟨Nat.zero_le _, Nat.zero_le _⟩ dX0_entry_46) (fun r46 u H locs hp46 hW => ?_)
    replace hW : xt_W D A ss.heap (xX ad cI cL S K n wc dn w lw sy sb sh rw rk dr) H locs := hW
    subst hp46
    refine xt_iald C hW 1 rfl (by decide) dX0_entry_49 (by omega) ?_
    refine xt_i2l C dX0_entry_50 (hwl _ (by omega)) ?_
    refine xt_lmul C dX0_entry_51 ?_
    exact xt_lret C hE () hW (by show lN (_ * _) = lN (xe w sy p f t); unfold xe; first | rw [if_pos h1] | rw [if_neg h1]) dX0_entry_52
set_option maxHeartbeats 4000000 in
set_option maxRecDepth 100000 in
theorem cx_sumInto (l : Launch) (D : va_G) (cI cL : ClassId) (ad : Nat → Nat) (S K n wc dn : Nat) (w lw sy sb sh rw rk dr : Nat → Nat) (p : Nat) (t : Nat) (hp1 : 1 ≤ p) (hp6 : p < 6) (ht3 : t < 3) (hS3 : S ≤ 3) (hw : ∀ i, i < 36 → w i ≤ 9) (hs4 : sy p < 4) : xt_M l yX0_sumInto cX0_sumInto 6 (some .long) 2 D cI cL [.ref (ad 0), .int (nI p), .int (nI t)] (xX ad cI cL S K n wc dn w lw sy sb sh rw rk dr) (xt_Ql D cI cL (xX ad cI cL S K n wc dn w lw sy sb sh rw rk dr) (fun (r : Int64) (u : Unit) => r = lN (ms_sum (fun z1 => sb ((p - 1) * 3 + z1) * xe w sy p z1 t) S)) (fun u => xX ad cI cL S K n wc dn w lw sy sb sh rw rk dr)) := by
  refine xt_start (own := RX0) rfl (by decide) (Nat.le_of_ble_eq_true rfl) (fun pg ev ss mi args below meth cd A Q ls C hE hA hl hW => ?_)
  replace hl : lv_has ls 6 [(0, .ref (ad 0)), (1, .int (nI p)), (2, .int (nI t))] := hl
  refine xt_lconst C 0 dX0_sumInto_0 (by decide +kernel) ?_
  refine lv_lstore_n C.1 C.2.1 dX0_sumInto_1 rfl hl (by decide) rfl (fun ls hl => ?_)
  replace hl : lv_has ls 6 [(3, .long (lN 0)), (0, .ref (ad 0)), (1, .int (nI p)), (2, .int (nI t))] := hl
  refine xt_iconst C 0 dX0_sumInto_2 (by decide +kernel) ?_
  refine lv_istore C.1 C.2.1 dX0_sumInto_3 hl (by decide) rfl (fun ls hl => ?_)
  replace hl : lv_has ls 6 [(5, .int (nI 0)), (3, .long (lN 0)), (0, .ref (ad 0)), (1, .int (nI p)), (2, .int (nI t))] := hl
  have lp5 : ∀ (q : Nat) (i : Nat), S - i = q → (i ≤ S) → ∀ (ls : Array Slot) (H : Heap) (locs : List Loc), lv_has ls 6 [(5, .int (nI i)), (3, .long (lN (ms_sum (fun z1 => sb ((p - 1) * 3 + z1) * xe w sy p z1 t) i))), (0, .ref (ad 0)), (1, .int (nI p)), (2, .int (nI t))] → xt_W D A ss.heap (xX ad cI cL S K n wc dn w lw sy sb sh rw rk dr) H locs → W pg l ev (xt_R 2) ss mi args below meth cd H locs 0 0 Q (F0 mi 5 ls []) := by
    intro q
    induction q using Nat.strongRecOn with
    | _ q ih5 =>
      intro i hq5 hi ls H locs hl hW
      refine lv_iload C.1 C.2.1 dX0_sumInto_5 (lv_at hl 0 rfl) ?_
      refine lv_aload_n C.1 C.2.1 dX0_sumInto_7 rfl (lv_at hl 2 rfl) ?_
      refine xt_get xt_inX0 C hW 0 rfl rfl 0 (by decide) rfl flX0_stateCount rfl dX0_sumInto_8 ?_
      refine xt_icmp_ge C (by omega) (by omega) dX0_sumInto_11 (tgt := 45) (by decide) (fun h11 => ?_) (fun h11 => ?_)
      · refine lv_lload_n C.1 C.2.1 dX0_sumInto_45 rfl (lv_at hl 1 rfl) ?_
        exact xt_lret C hE () hW (by show lN (ms_sum _ i) = lN (ms_sum _ S); rw [show i = S by omega]) dX0_sumInto_46
      · refine lv_lload_n C.1 C.2.1 dX0_sumInto_14 rfl (lv_at hl 1 rfl) ?_
        refine lv_aload_n C.1 C.2.1 dX0_sumInto_15 rfl (lv_at hl 2 rfl) ?_
        refine xt_get xt_inX0 C hW 0 rfl rfl 6 (by decide) rfl flX0_sumsBefore rfl dX0_sumInto_16 ?_
        refine lv_iload_n C.1 C.2.1 dX0_sumInto_19 rfl (lv_at hl 3 rfl) ?_
        refine xt_iconst C 1 dX0_sumInto_20 (by decide +kernel) ?_
        refine xt_isub C dX0_sumInto_21 (by omega) ?_
        refine lv_iload C.1 C.2.1 dX0_sumInto_22 (lv_at hl 0 rfl) ?_
        refine xt_ci hA hW (xt_runS C hW.1 hW.2.1 cwX0_X0_cell (cx_cell l D cI cL (xX ad cI cL S K n wc dn w lw sy sb sh rw rk dr) (p - 1) i) rfl hl.1 (rest := [.ref (ad 4), .long (lN (ms_sum (fun z1 => sb ((p - 1) * 3 + z1) * xe w sy p z1 t) i))]) rfl (Nat.le_of_ble_eq_true rfl) ⟨(Nat.le_of_ble_eq_true rfl), (Nat.le_of_ble_eq_true rfl)⟩ ⟨Nat.zero_le _, Nat.zero_le _⟩ dX0_sumInto_24) (fun r24 u H locs hp24 hW => ?_)
        replace hW : xt_W D A ss.heap (xX ad cI cL S K n wc dn w lw sy sb sh rw rk dr) H locs := hW
        subst hp24
        refine xt_lald C hW 4 rfl (by decide) dX0_sumInto_27 (by omega) ?_
        refine lv_aload_n C.1 C.2.1 dX0_sumInto_28 rfl (lv_at hl 2 rfl) ?_
        refine lv_iload_n C.1 C.2.1 dX0_sumInto_29 rfl (lv_at hl 3 rfl) ?_
        refine lv_iload C.1 C.2.1 dX0_sumInto_30 (lv_at hl 0 rfl) ?_
        refine W.eq (g2 := F0 mi 32 ls [.int (nI i), .int (nI p), .ref (ad 0), .long (lN (sb ((p - 1) * 3 + i))), .long (lN (ms_sum (fun z1 => sb ((p - 1) * 3 + z1) * xe w sy p z1 t) i))]) rfl ?_
        refine lv_iload_n C.1 C.2.1 dX0_sumInto_32 rfl (lv_at hl 4 rfl) ?_
        refine xt_cl hA hW (xt_runV C hW.1 hW.2.1 cwX0_X0_entry (cx_entry l D cI cL ad S K n wc dn w lw sy sb sh rw rk dr p i t (by omega) (by omega) (by omega) (hw) (hs4)) rfl rfl rfl hl.1 (rest := [.long (lN (sb ((p - 1) * 3 + i))), .long (lN (ms_sum (fun z1 => sb ((p - 1) * 3 + z1) * xe w sy p z1 t) i))]) rfl (Nat.le_of_ble_eq_true rfl) ⟨(Nat.le_of_ble_eq_true rfl), (Nat.le_of_ble_eq_true rfl)⟩ ⟨Nat.zero_le _, Nat.zero_le _⟩ dX0_sumInto_33) (fun r33 u H locs hp33 hW => ?_)
        replace hW : xt_W D A ss.heap (xX ad cI cL S K n wc dn w lw sy sb sh rw rk dr) H locs := hW
        subst hp33
        refine xt_lmul C dX0_sumInto_36 ?_
        refine xt_ladd C dX0_sumInto_37 ?_
        refine lv_lstore_n C.1 C.2.1 dX0_sumInto_38 rfl hl (by decide) rfl (fun ls hl => ?_)
        replace hl : lv_has ls 6 [(3, .long (lN ((ms_sum (fun z1 => sb ((p - 1) * 3 + z1) * xe w sy p z1 t) i) + ((sb ((p - 1) * 3 + i)) * (xe w sy p i t))))), (5, .int (nI i)), (0, .ref (ad 0)), (1, .int (nI p)), (2, .int (nI t))] := hl
        refine lv_iinc (k := 1) C.1 C.2.1 dX0_sumInto_39 hl rfl xt_inc (by decide) rfl (fun ls hl => ?_)
        replace hl : lv_has ls 6 [(5, .int (nI (i + 1))), (3, .long (lN ((ms_sum (fun z1 => sb ((p - 1) * 3 + z1) * xe w sy p z1 t) i) + ((sb ((p - 1) * 3 + i)) * (xe w sy p i t))))), (0, .ref (ad 0)), (1, .int (nI p)), (2, .int (nI t))] := hl
        refine lv_goto C.1 C.2.1 dX0_sumInto_42 (tgt := 5) (by decide) ?_
        exact ih5 _ (by omega) (i + 1) rfl (by omega) ls _ _ (lv_sub hl [0, 1, 2, 3, 4] rfl) hW
  exact lp5 _ 0 rfl (Nat.zero_le _) ls _ _ (lv_sub hl [0, 1, 2, 3, 4] rfl) hW
set_option maxHeartbeats 4000000 in
set_option maxRecDepth 100000 in
theorem cx_sumOutOf (l : Launch) (D : va_G) (cI cL : ClassId) (ad : Nat → Nat) (S K n wc dn : Nat) (w lw sy sb sh rw rk dr : Nat → Nat) (p : Nat) (f : Nat) (hp6 : p + 1 < 6) (hf3 : f < 3) (hS3 : S ≤ 3) (hw : ∀ i, i < 36 → w i ≤ 9) (hs4 : sy (p + 1) < 4) : xt_M l yX0_sumOutOf cX0_sumOutOf 6 (some .long) 2 D cI cL [.ref (ad 0), .int (nI p), .int (nI f)] (xX ad cI cL S K n wc dn w lw sy sb sh rw rk dr) (xt_Ql D cI cL (xX ad cI cL S K n wc dn w lw sy sb sh rw rk dr) (fun (r : Int64) (u : Unit) => r = lN (ms_sum (fun z1 => xe w sy (p + 1) f z1 * sh ((p + 1) * 3 + z1)) S)) (fun u => xX ad cI cL S K n wc dn w lw sy sb sh rw rk dr)) := by
  refine xt_start (own := RX0) rfl (by decide) (Nat.le_of_ble_eq_true rfl) (fun pg ev ss mi args below meth cd A Q ls C hE hA hl hW => ?_)
  replace hl : lv_has ls 6 [(0, .ref (ad 0)), (1, .int (nI p)), (2, .int (nI f))] := hl
  refine xt_lconst C 0 dX0_sumOutOf_0 (by decide +kernel) ?_
  refine lv_lstore_n C.1 C.2.1 dX0_sumOutOf_1 rfl hl (by decide) rfl (fun ls hl => ?_)
  replace hl : lv_has ls 6 [(3, .long (lN 0)), (0, .ref (ad 0)), (1, .int (nI p)), (2, .int (nI f))] := hl
  refine xt_iconst C 0 dX0_sumOutOf_2 (by decide +kernel) ?_
  refine lv_istore C.1 C.2.1 dX0_sumOutOf_3 hl (by decide) rfl (fun ls hl => ?_)
  replace hl : lv_has ls 6 [(5, .int (nI 0)), (3, .long (lN 0)), (0, .ref (ad 0)), (1, .int (nI p)), (2, .int (nI f))] := hl
  have lp5 : ∀ (q : Nat) (i : Nat), S - i = q → (i ≤ S) → ∀ (ls : Array Slot) (H : Heap) (locs : List Loc), lv_has ls 6 [(5, .int (nI i)), (3, .long (lN (ms_sum (fun z1 => xe w sy (p + 1) f z1 * sh ((p + 1) * 3 + z1)) i))), (0, .ref (ad 0)), (1, .int (nI p)), (2, .int (nI f))] → xt_W D A ss.heap (xX ad cI cL S K n wc dn w lw sy sb sh rw rk dr) H locs → W pg l ev (xt_R 2) ss mi args below meth cd H locs 0 0 Q (F0 mi 5 ls []) := by
    intro q
    induction q using Nat.strongRecOn with
    | _ q ih5 =>
      intro i hq5 hi ls H locs hl hW
      refine lv_iload C.1 C.2.1 dX0_sumOutOf_5 (lv_at hl 0 rfl) ?_
      refine lv_aload_n C.1 C.2.1 dX0_sumOutOf_7 rfl (lv_at hl 2 rfl) ?_
      refine xt_get xt_inX0 C hW 0 rfl rfl 0 (by decide) rfl flX0_stateCount rfl dX0_sumOutOf_8 ?_
      refine xt_icmp_ge C (by omega) (by omega) dX0_sumOutOf_11 (tgt := 47) (by decide) (fun h11 => ?_) (fun h11 => ?_)
      · refine lv_lload_n C.1 C.2.1 dX0_sumOutOf_47 rfl (lv_at hl 1 rfl) ?_
        exact xt_lret C hE () hW (by show lN (ms_sum _ i) = lN (ms_sum _ S); rw [show i = S by omega]) dX0_sumOutOf_48
      · refine lv_lload_n C.1 C.2.1 dX0_sumOutOf_14 rfl (lv_at hl 1 rfl) ?_
        refine lv_aload_n C.1 C.2.1 dX0_sumOutOf_15 rfl (lv_at hl 2 rfl) ?_
        refine lv_iload_n C.1 C.2.1 dX0_sumOutOf_16 rfl (lv_at hl 3 rfl) ?_
        refine xt_iconst C 1 dX0_sumOutOf_17 (by decide +kernel) ?_
        refine xt_iadd C dX0_sumOutOf_18 ?_
        refine lv_iload_n C.1 C.2.1 dX0_sumOutOf_19 rfl (lv_at hl 4 rfl) ?_
        refine lv_iload C.1 C.2.1 dX0_sumOutOf_20 (lv_at hl 0 rfl) ?_
        refine xt_cl hA hW (xt_runV C hW.1 hW.2.1 cwX0_X0_entry (cx_entry l D cI cL ad S K n wc dn w lw sy sb sh rw rk dr (p + 1) f i (by omega) (by omega) (by omega) (hw) (hs4)) rfl rfl rfl hl.1 (rest := [.long (lN (ms_sum (fun z1 => xe w sy (p + 1) f z1 * sh ((p + 1) * 3 + z1)) i))]) rfl (Nat.le_of_ble_eq_true rfl) ⟨(Nat.le_of_ble_eq_true rfl), (Nat.le_of_ble_eq_true rfl)⟩ ⟨Nat.zero_le _, Nat.zero_le _⟩ dX0_sumOutOf_22) (fun r22 u H locs hp22 hW => ?_)
        replace hW : xt_W D A ss.heap (xX ad cI cL S K n wc dn w lw sy sb sh rw rk dr) H locs := hW
        subst hp22
        refine lv_aload_n C.1 C.2.1 dX0_sumOutOf_25 rfl (lv_at hl 2 rfl) ?_
        refine xt_get xt_inX0 C hW 0 rfl rfl 7 (by decide) rfl flX0_sumsBehind rfl dX0_sumOutOf_26 ?_
        refine lv_iload_n C.1 C.2.1 dX0_sumOutOf_29 rfl (lv_at hl 3 rfl) ?_
        refine xt_iconst C 1 dX0_sumOutOf_30 (by decide +kernel) ?_
        refine W.eq (g2 := F0 mi 31 ls [.int (nI 1), .int (nI p), .ref (ad 5), .long (lN (xe w sy (p + 1) f i)), .long (lN (ms_sum (fun z1 => xe w sy (p + 1) f z1 * sh ((p + 1) * 3 + z1)) i))]) rfl ?_
        refine xt_iadd C dX0_sumOutOf_31 ?_
        refine lv_iload C.1 C.2.1 dX0_sumOutOf_32 (lv_at hl 0 rfl) ?_
        refine xt_ci hA hW (xt_runS C hW.1 hW.2.1 cwX0_X0_cell (cx_cell l D cI cL (xX ad cI cL S K n wc dn w lw sy sb sh rw rk dr) (p + 1) i) rfl hl.1 (rest := [.ref (ad 5), .long (lN (xe w sy (p + 1) f i)), .long (lN (ms_sum (fun z1 => xe w sy (p + 1) f z1 * sh ((p + 1) * 3 + z1)) i))]) rfl (Nat.le_of_ble_eq_true rfl) ⟨(Nat.le_of_ble_eq_true rfl), (Nat.le_of_ble_eq_true rfl)⟩ ⟨Nat.zero_le _, Nat.zero_le _⟩ dX0_sumOutOf_34) (fun r34 u H locs hp34 hW => ?_)
        replace hW : xt_W D A ss.heap (xX ad cI cL S K n wc dn w lw sy sb sh rw rk dr) H locs := hW
        subst hp34
        refine xt_lald C hW 5 rfl (by decide) dX0_sumOutOf_37 (by omega) ?_
        refine xt_lmul C dX0_sumOutOf_38 ?_
        refine xt_ladd C dX0_sumOutOf_39 ?_
        refine lv_lstore_n C.1 C.2.1 dX0_sumOutOf_40 rfl hl (by decide) rfl (fun ls hl => ?_)
        replace hl : lv_has ls 6 [(3, .long (lN ((ms_sum (fun z1 => xe w sy (p + 1) f z1 * sh ((p + 1) * 3 + z1)) i) + ((xe w sy (p + 1) f i) * (sh ((p + 1) * 3 + i)))))), (5, .int (nI i)), (0, .ref (ad 0)), (1, .int (nI p)), (2, .int (nI f))] := hl
        refine lv_iinc (k := 1) C.1 C.2.1 dX0_sumOutOf_41 hl rfl xt_inc (by decide) rfl (fun ls hl => ?_)
        replace hl : lv_has ls 6 [(5, .int (nI (i + 1))), (3, .long (lN ((ms_sum (fun z1 => xe w sy (p + 1) f z1 * sh ((p + 1) * 3 + z1)) i) + ((xe w sy (p + 1) f i) * (sh ((p + 1) * 3 + i)))))), (0, .ref (ad 0)), (1, .int (nI p)), (2, .int (nI f))] := hl
        refine lv_goto C.1 C.2.1 dX0_sumOutOf_44 (tgt := 5) (by decide) ?_
        exact ih5 _ (by omega) (i + 1) rfl (by omega) ls _ _ (lv_sub hl [0, 1, 2, 3, 4] rfl) hW
  exact lp5 _ 0 rfl (Nat.zero_le _) ls _ _ (lv_sub hl [0, 1, 2, 3, 4] rfl) hW
end
section
theorem xq_up {α : Type} {f : Nat → α} {k : Nat} {v : α} : va_up f k v k = v := if_pos rfl
theorem xq_un {α : Type} {f : Nat → α} {k j : Nat} {v : α} (h : j ≠ k) : va_up f k v j = f j := if_neg h
theorem xq_bf {sv w sy : Nat → Nat} {S a b v : Nat} (hS : S ≤ 3) (hb : b < S) (h : ∀ q t, (q < a ∨ (q = a ∧ t < b)) → t < S → sv (q * 3 + t) = ms_bf (xe w sy) S q t) (hv : v = ms_bf (xe w sy) S a b) :
    ∀ q t, (q < a ∨ (q = a ∧ t < b + 1)) → t < S → va_up sv (a * 3 + b) v (q * 3 + t) = ms_bf (xe w sy) S q t := by
  intro q t hq ht
  by_cases e : q = a ∧ t = b
  · obtain ⟨rfl, rfl⟩ := e
    rw [xq_up, hv]
  · rw [xq_un (by omega)]
    exact h q t (by omega) ht
theorem xq_into {sv w sy : Nat → Nat} {S a b : Nat} (ha : a ≠ 0) (h : ∀ q t, (q < a ∨ (q = a ∧ t < b)) → t < S → sv (q * 3 + t) = ms_bf (xe w sy) S q t) :
    ms_sum (fun z1 => sv ((a - 1) * 3 + z1) * xe w sy a z1 b) S = ms_bf (xe w sy) S a b := by
  obtain ⟨c, rfl⟩ : ∃ c, a = c + 1 := ⟨a - 1, by omega⟩
  show _ = ms_sum (fun t => ms_bf (xe w sy) S c t * xe w sy (c + 1) t b) S
  refine ms_sum_congr (fun z hz => ?_)
  rw [Nat.add_sub_cancel, h c z (by omega) hz]
theorem xq_bh {sv w sy : Nat → Nat} {S n a b v : Nat} (hS : S ≤ 3) (hb : b < S) (ha : 0 < a) (h : ∀ q t, (a ≤ q ∨ (q + 1 = a ∧ t < b)) → q < n → t < S → sv (q * 3 + t) = ms_bh (xe w sy) S n (n - 1 - q) t) (hv : v = ms_bh (xe w sy) S n (n - 1 - (a - 1)) b) :
    ∀ q t, (a ≤ q ∨ (q + 1 = a ∧ t < b + 1)) → q < n → t < S → va_up sv ((a - 1) * 3 + b) v (q * 3 + t) = ms_bh (xe w sy) S n (n - 1 - q) t := by
  intro q t hq hn ht
  by_cases e : q + 1 = a ∧ t = b
  · obtain ⟨e1, rfl⟩ := e
    have e2 : q = a - 1 := by omega
    subst e2
    rw [xq_up, hv]
  · rw [xq_un (by omega)]
    exact h q t (by omega) hn ht
theorem xq_out {sv w sy : Nat → Nat} {S n a b : Nat} (ha : 0 < a) (han : a - 1 ≠ n - 1) (hn : a ≤ n) (h : ∀ q t, (a ≤ q ∨ (q + 1 = a ∧ t < b)) → q < n → t < S → sv (q * 3 + t) = ms_bh (xe w sy) S n (n - 1 - q) t) :
    ms_sum (fun z1 => xe w sy (a - 1 + 1) b z1 * sv ((a - 1 + 1) * 3 + z1)) S = ms_bh (xe w sy) S n (n - 1 - (a - 1)) b := by
  have e1 : a - 1 + 1 = a := by omega
  have e2 : n - 1 - (a - 1) = (n - 1 - a) + 1 := by omega
  have e3 : n - 1 - (n - 1 - a) = a := by omega
  rw [e1, e2]
  show _ = ms_sum (fun t => xe w sy (n - 1 - (n - 1 - a)) b t * ms_bh (xe w sy) S n (n - 1 - a) t) S
  rw [e3]
  exact ms_sum_congr (fun z hz => by rw [h a z (by omega) (by omega) hz])
set_option maxHeartbeats 4000000 in
set_option maxRecDepth 100000 in
theorem cx_sumBefore (l : Launch) (D : va_G) (cI cL : ClassId) (ad : Nat → Nat) (S K n wc dn : Nat) (w lw sy sb sh rw rk dr : Nat → Nat) (hn6 : n ≤ 6) (hS3 : S ≤ 3) (hS0 : 0 < S) (hw : ∀ i, i < 36 → w i ≤ 9) (hsy : ∀ p, p < n → sy p < 4) : xt_M l yX0_sumBefore cX0_sumBefore 3 none 3 D cI cL [.ref (ad 0)] (xX ad cI cL S K n wc dn w lw sy sb sh rw rk dr) (xt_Qv D cI cL (xX ad cI cL S K n wc dn w lw sy sb sh rw rk dr) (fun (u : (Nat → Nat)) => ∀ q t, q < n → t < S → u (q * 3 + t) = ms_bf (xe w sy) S q t) (fun u => xX ad cI cL S K n wc dn w lw sy u sh rw rk dr)) := by
  refine xt_start (own := RX0) rfl (by decide) (Nat.le_of_ble_eq_true rfl) (fun pg ev ss mi args below meth cd A Q ls C hE hA hl hW => ?_)
  replace hl : lv_has ls 3 [(0, .ref (ad 0))] := hl
  refine xt_iconst C 0 dX0_sumBefore_0 (by decide +kernel) ?_
  refine lv_istore_n C.1 C.2.1 dX0_sumBefore_1 rfl hl (by decide) rfl (fun ls hl => ?_)
  replace hl : lv_has ls 3 [(1, .int (nI 0)), (0, .ref (ad 0))] := hl
  have lp2 : ∀ (q : Nat) (a : Nat) (sv : Nat → Nat), n - a = q → (a ≤ n) → (∀ q t, q < a → t < S → sv (q * 3 + t) = ms_bf (xe w sy) S q t) → ∀ (ls : Array Slot) (H : Heap) (locs : List Loc), lv_has ls 3 [(1, .int (nI a)), (0, .ref (ad 0))] → xt_W D A ss.heap (xX ad cI cL S K n wc dn w lw sy sv sh rw rk dr) H locs → W pg l ev (xt_R 3) ss mi args below meth cd H locs 0 0 Q (F0 mi 2 ls []) := by
    intro q
    induction q using Nat.strongRecOn with
    | _ q ih2 =>
      intro a sv hq2 ha hv ls H locs hl hW
      refine lv_iload_n C.1 C.2.1 dX0_sumBefore_2 rfl (lv_at hl 0 rfl) ?_
      refine lv_aload_n C.1 C.2.1 dX0_sumBefore_3 rfl (lv_at hl 1 rfl) ?_
      refine xt_get xt_inX0 C hW 0 rfl rfl 4 (by decide) rfl flX0_seenCount rfl dX0_sumBefore_4 ?_
      refine xt_icmp_ge C (by omega) (by omega) dX0_sumBefore_7 (tgt := 62) (by decide) (fun h7 => ?_) (fun h7 => ?_)
      · exact xt_vret C hE sv hW (fun q t hq ht => hv q t (by omega) ht) dX0_sumBefore_62
      · refine xt_iconst C 0 dX0_sumBefore_10 (by decide +kernel) ?_
        refine lv_istore_n C.1 C.2.1 dX0_sumBefore_11 rfl hl (by decide) rfl (fun ls hl => ?_)
        replace hl : lv_has ls 3 [(2, .int (nI 0)), (1, .int (nI a)), (0, .ref (ad 0))] := hl
        have lp12 : ∀ (q : Nat) (b : Nat) (sv2 : Nat → Nat), S - b = q → (b ≤ S) → (∀ q t, (q < a ∨ (q = a ∧ t < b)) → t < S → sv2 (q * 3 + t) = ms_bf (xe w sy) S q t) → ∀ (ls : Array Slot) (H : Heap) (locs : List Loc), lv_has ls 3 [(2, .int (nI b)), (1, .int (nI a)), (0, .ref (ad 0))] → xt_W D A ss.heap (xX ad cI cL S K n wc dn w lw sy sv2 sh rw rk dr) H locs → W pg l ev (xt_R 3) ss mi args below meth cd H locs 0 0 Q (F0 mi 12 ls []) := by
          intro q
          induction q using Nat.strongRecOn with
          | _ q ih12 =>
            intro b sv2 hq12 hb hv2 ls H locs hl hW
            refine lv_iload_n C.1 C.2.1 dX0_sumBefore_12 rfl (lv_at hl 0 rfl) ?_
            refine lv_aload_n C.1 C.2.1 dX0_sumBefore_13 rfl (lv_at hl 2 rfl) ?_
            refine xt_get xt_inX0 C hW 0 rfl rfl 0 (by decide) rfl flX0_stateCount rfl dX0_sumBefore_14 ?_
            refine xt_icmp_ge C (by omega) (by omega) dX0_sumBefore_17 (tgt := 56) (by decide) (fun h17 => ?_) (fun h17 => ?_)
            · refine lv_iinc (k := 1) C.1 C.2.1 dX0_sumBefore_56 hl rfl xt_inc (by decide) rfl (fun ls hl => ?_)
              replace hl : lv_has ls 3 [(1, .int (nI (a + 1))), (2, .int (nI b)), (0, .ref (ad 0))] := hl
              refine lv_goto C.1 C.2.1 dX0_sumBefore_59 (tgt := 2) (by decide) ?_
              exact ih2 _ (by omega) (a + 1) sv2 rfl (by omega) (fun q t hq ht => hv2 q t (by omega) ht) ls _ _ (lv_sub hl [0, 2] rfl) hW
            · refine lv_aload_n C.1 C.2.1 dX0_sumBefore_20 rfl (lv_at hl 2 rfl) ?_
              refine xt_get xt_inX0 C hW 0 rfl rfl 6 (by decide) rfl flX0_sumsBefore rfl dX0_sumBefore_21 ?_
              refine lv_iload_n C.1 C.2.1 dX0_sumBefore_24 rfl (lv_at hl 1 rfl) ?_
              refine lv_iload_n C.1 C.2.1 dX0_sumBefore_25 rfl (lv_at hl 0 rfl) ?_
              refine xt_ci hA hW (xt_runS C hW.1 hW.2.1 cwX0_X0_cell (cx_cell l D cI cL (xX ad cI cL S K n wc dn w lw sy sv2 sh rw rk dr) a b) rfl hl.1 (rest := [.ref (ad 4)]) rfl (Nat.le_of_ble_eq_true rfl) ⟨(Nat.le_of_ble_eq_true rfl), (Nat.le_of_ble_eq_true rfl)⟩ ⟨Nat.zero_le _, Nat.zero_le _⟩ dX0_sumBefore_26) (fun r26 u H locs hp26 hW => ?_)
              replace hW : xt_W D A ss.heap (xX ad cI cL S K n wc dn w lw sy sv2 sh rw rk dr) H locs := hW
              subst hp26
              refine lv_iload_n C.1 C.2.1 dX0_sumBefore_29 rfl (lv_at hl 1 rfl) ?_
              refine xt_if_ne C (by omega) dX0_sumBefore_30 (tgt := 43) (by decide) (fun h30 => ?_) (fun h30 => ?_)
              · refine lv_aload_n C.1 C.2.1 dX0_sumBefore_43 rfl (lv_at hl 2 rfl) ?_
                refine lv_iload_n C.1 C.2.1 dX0_sumBefore_44 rfl (lv_at hl 1 rfl) ?_
                refine lv_iload_n C.1 C.2.1 dX0_sumBefore_45 rfl (lv_at hl 0 rfl) ?_
                refine xt_cl hA hW (xt_runV C hW.1 hW.2.1 cwX0_X0_sumInto (cx_sumInto l D cI cL ad S K n wc dn w lw sy sv2 sh rw rk dr a b (by omega) (by omega) (by omega) (by omega) (hw) (hsy _ (by omega))) rfl rfl rfl hl.1 (rest := [.int (nI (a * 3 + b)), .ref (ad 4)]) rfl (Nat.le_of_ble_eq_true rfl) ⟨(Nat.le_of_ble_eq_true rfl), (Nat.le_of_ble_eq_true rfl)⟩ ⟨Nat.zero_le _, Nat.zero_le _⟩ dX0_sumBefore_46) (fun r46 u H locs hp46 hW => ?_)
                replace hW : xt_W D A ss.heap (xX ad cI cL S K n wc dn w lw sy sv2 sh rw rk dr) H locs := hW
                subst hp46
                refine xt_last C hW 4 rfl (by decide) dX0_sumBefore_49 (by omega) (fun H locs hW => ?_)
                replace hW : xt_W D A ss.heap (xX ad cI cL S K n wc dn w lw sy (va_up sv2 (a * 3 + b) (ms_sum (fun z1 => sv2 ((a - 1) * 3 + z1) * xe w sy a z1 b) S)) sh rw rk dr) H locs := hW
                refine lv_iinc (k := 0) C.1 C.2.1 dX0_sumBefore_50 hl rfl xt_inc (by decide) rfl (fun ls hl => ?_)
                replace hl : lv_has ls 3 [(2, .int (nI (b + 1))), (1, .int (nI a)), (0, .ref (ad 0))] := hl
                refine lv_goto C.1 C.2.1 dX0_sumBefore_53 (tgt := 12) (by decide) ?_
                exact ih12 _ (by omega) (b + 1) (va_up sv2 (a * 3 + b) (ms_sum (fun z1 => sv2 ((a - 1) * 3 + z1) * xe w sy a z1 b) S)) rfl (by omega) (xq_bf hS3 (by omega) hv2 (xq_into h30 hv2)) ls _ _ (lv_sub hl [0, 1, 2] rfl) hW
              · refine lv_aload_n C.1 C.2.1 dX0_sumBefore_33 rfl (lv_at hl 2 rfl) ?_
                refine xt_iconst C 0 dX0_sumBefore_34 (by decide +kernel) ?_
                refine xt_iconst C 0 dX0_sumBefore_35 (by decide +kernel) ?_
                refine lv_iload_n C.1 C.2.1 dX0_sumBefore_36 rfl (lv_at hl 0 rfl) ?_
                refine xt_cl hA hW (xt_runV C hW.1 hW.2.1 cwX0_X0_entry (cx_entry l D cI cL ad S K n wc dn w lw sy sv2 sh rw rk dr 0 0 b (by omega) (by omega) (by omega) (hw) (hsy 0 (by omega))) rfl rfl rfl hl.1 (rest := [.int (nI (a * 3 + b)), .ref (ad 4)]) rfl (Nat.le_of_ble_eq_true rfl) ⟨(Nat.le_of_ble_eq_true rfl), (Nat.le_of_ble_eq_true rfl)⟩ ⟨Nat.zero_le _, Nat.zero_le _⟩ dX0_sumBefore_37) (fun r37 u H locs hp37 hW => ?_)
                replace hW : xt_W D A ss.heap (xX ad cI cL S K n wc dn w lw sy sv2 sh rw rk dr) H locs := hW
                subst hp37
                refine lv_goto C.1 C.2.1 dX0_sumBefore_40 (tgt := 49) (by decide) ?_
                refine xt_last C hW 4 rfl (by decide) dX0_sumBefore_49 (by omega) (fun H locs hW => ?_)
                replace hW : xt_W D A ss.heap (xX ad cI cL S K n wc dn w lw sy (va_up sv2 (a * 3 + b) (xe w sy 0 0 b)) sh rw rk dr) H locs := hW
                refine lv_iinc (k := 0) C.1 C.2.1 dX0_sumBefore_50 hl rfl xt_inc (by decide) rfl (fun ls hl => ?_)
                replace hl : lv_has ls 3 [(2, .int (nI (b + 1))), (1, .int (nI a)), (0, .ref (ad 0))] := hl
                refine lv_goto C.1 C.2.1 dX0_sumBefore_53 (tgt := 12) (by decide) ?_
                exact ih12 _ (by omega) (b + 1) (va_up sv2 (a * 3 + b) (xe w sy 0 0 b)) rfl (by omega) (xq_bf hS3 (by omega) hv2 (by rw [show a = 0 from h30]; rfl)) ls _ _ (lv_sub hl [0, 1, 2] rfl) hW
        exact lp12 _ 0 sv rfl (Nat.zero_le _) (fun q t hq ht => hv q t (by omega) ht) ls _ _ (lv_sub hl [0, 1, 2] rfl) hW
  exact lp2 _ 0 sb rfl (Nat.zero_le _) (fun q t hq _ => absurd hq (Nat.not_lt_zero q)) ls _ _ (lv_sub hl [0, 1] rfl) hW
set_option maxHeartbeats 4000000 in
set_option maxRecDepth 100000 in
theorem cx_sumBehind (l : Launch) (D : va_G) (cI cL : ClassId) (ad : Nat → Nat) (S K n wc dn : Nat) (w lw sy sb sh rw rk dr : Nat → Nat) (hn6 : n ≤ 6) (hS3 : S ≤ 3) (hS0 : 0 < S) (hw : ∀ i, i < 36 → w i ≤ 9) (hsy : ∀ p, p < n → sy p < 4) : xt_M l yX0_sumBehind cX0_sumBehind 3 none 3 D cI cL [.ref (ad 0)] (xX ad cI cL S K n wc dn w lw sy sb sh rw rk dr) (xt_Qv D cI cL (xX ad cI cL S K n wc dn w lw sy sb sh rw rk dr) (fun (u : (Nat → Nat)) => ∀ q t, q < n → t < S → u (q * 3 + t) = ms_bh (xe w sy) S n (n - 1 - q) t) (fun u => xX ad cI cL S K n wc dn w lw sy sb u rw rk dr)) := by
  refine xt_start (own := RX0) rfl (by decide) (Nat.le_of_ble_eq_true rfl) (fun pg ev ss mi args below meth cd A Q ls C hE hA hl hW => ?_)
  replace hl : lv_has ls 3 [(0, .ref (ad 0))] := hl
  refine lv_aload_n C.1 C.2.1 dX0_sumBehind_0 rfl (lv_at hl 0 rfl) ?_
  refine xt_get xt_inX0 C hW 0 rfl rfl 4 (by decide) rfl flX0_seenCount rfl dX0_sumBehind_1 ?_
  refine xt_iconst C 1 dX0_sumBehind_4 (by decide +kernel) ?_
  refine lv_isub C.1 C.2.1 dX0_sumBehind_5 ?_
  refine lv_istore_n C.1 C.2.1 dX0_sumBehind_6 rfl hl (by decide) rfl (fun ls hl => ?_)
  replace hl : lv_has ls 3 [(1, .int (nI n - nI 1)), (0, .ref (ad 0))] := hl
  have lp7 : ∀ (q : Nat) (a : Nat) (sv : Nat → Nat), a = q → (a ≤ n) → (∀ q t, a ≤ q → q < n → t < S → sv (q * 3 + t) = ms_bh (xe w sy) S n (n - 1 - q) t) → ∀ (ls : Array Slot) (H : Heap) (locs : List Loc), lv_has ls 3 [(1, .int (nI a - nI 1)), (0, .ref (ad 0))] → xt_W D A ss.heap (xX ad cI cL S K n wc dn w lw sy sb sv rw rk dr) H locs → W pg l ev (xt_R 3) ss mi args below meth cd H locs 0 0 Q (F0 mi 7 ls []) := by
    intro q
    induction q using Nat.strongRecOn with
    | _ q ih7 =>
      intro a sv hq7 ha hv ls H locs hl hW
      refine lv_iload_n C.1 C.2.1 dX0_sumBehind_7 rfl (lv_at hl 0 rfl) ?_
      refine xt_if_lt_m C (by omega) dX0_sumBehind_8 (tgt := 63) (by decide) (fun h8 => ?_) (fun h8 => ?_)
      · exact xt_vret C hE sv hW (fun q t hq ht => hv q t (by omega) hq ht) dX0_sumBehind_63
      · rw [pk_sub (show 1 ≤ a by omega)] at hl
        replace hl : lv_has ls 3 [(1, .int (nI (a - 1))), (0, .ref (ad 0))] := hl
        refine xt_iconst C 0 dX0_sumBehind_11 (by decide +kernel) ?_
        refine lv_istore_n C.1 C.2.1 dX0_sumBehind_12 rfl hl (by decide) rfl (fun ls hl => ?_)
        replace hl : lv_has ls 3 [(2, .int (nI 0)), (1, .int (nI (a - 1))), (0, .ref (ad 0))] := hl
        have lp13 : ∀ (q : Nat) (b : Nat) (sv2 : Nat → Nat), S - b = q → (b ≤ S) → (∀ q t, (a ≤ q ∨ (q + 1 = a ∧ t < b)) → q < n → t < S → sv2 (q * 3 + t) = ms_bh (xe w sy) S n (n - 1 - q) t) → ∀ (ls : Array Slot) (H : Heap) (locs : List Loc), lv_has ls 3 [(2, .int (nI b)), (1, .int (nI (a - 1))), (0, .ref (ad 0))] → xt_W D A ss.heap (xX ad cI cL S K n wc dn w lw sy sb sv2 rw rk dr) H locs → W pg l ev (xt_R 3) ss mi args below meth cd H locs 0 0 Q (F0 mi 13 ls []) := by
          intro q
          induction q using Nat.strongRecOn with
          | _ q ih13 =>
            intro b sv2 hq13 hb hv2 ls H locs hl hW
            refine lv_iload_n C.1 C.2.1 dX0_sumBehind_13 rfl (lv_at hl 0 rfl) ?_
            refine lv_aload_n C.1 C.2.1 dX0_sumBehind_14 rfl (lv_at hl 2 rfl) ?_
            refine xt_get xt_inX0 C hW 0 rfl rfl 0 (by decide) rfl flX0_stateCount rfl dX0_sumBehind_15 ?_
            refine xt_icmp_ge C (by omega) (by omega) dX0_sumBehind_18 (tgt := 57) (by decide) (fun h18 => ?_) (fun h18 => ?_)
            · refine lv_iinc (k := 1) C.1 C.2.1 dX0_sumBehind_57 hl rfl xt_decm (by decide) rfl (fun ls hl => ?_)
              replace hl : lv_has ls 3 [(1, .int (nI (a - 1) - nI 1)), (2, .int (nI b)), (0, .ref (ad 0))] := hl
              refine lv_goto C.1 C.2.1 dX0_sumBehind_60 (tgt := 7) (by decide) ?_
              exact ih7 _ (by omega) (a - 1) sv2 rfl (by omega) (fun q t hq hn ht => hv2 q t (by omega) hn ht) ls _ _ (lv_sub hl [0, 2] rfl) hW
            · refine lv_aload_n C.1 C.2.1 dX0_sumBehind_21 rfl (lv_at hl 2 rfl) ?_
              refine xt_get xt_inX0 C hW 0 rfl rfl 7 (by decide) rfl flX0_sumsBehind rfl dX0_sumBehind_22 ?_
              refine lv_iload_n C.1 C.2.1 dX0_sumBehind_25 rfl (lv_at hl 1 rfl) ?_
              refine lv_iload_n C.1 C.2.1 dX0_sumBehind_26 rfl (lv_at hl 0 rfl) ?_
              refine xt_ci hA hW (xt_runS C hW.1 hW.2.1 cwX0_X0_cell (cx_cell l D cI cL (xX ad cI cL S K n wc dn w lw sy sb sv2 rw rk dr) (a - 1) b) rfl hl.1 (rest := [.ref (ad 5)]) rfl (Nat.le_of_ble_eq_true rfl) ⟨(Nat.le_of_ble_eq_true rfl), (Nat.le_of_ble_eq_true rfl)⟩ ⟨Nat.zero_le _, Nat.zero_le _⟩ dX0_sumBehind_27) (fun r27 u H locs hp27 hW => ?_)
              replace hW : xt_W D A ss.heap (xX ad cI cL S K n wc dn w lw sy sb sv2 rw rk dr) H locs := hW
              subst hp27
              refine lv_iload_n C.1 C.2.1 dX0_sumBehind_30 rfl (lv_at hl 1 rfl) ?_
              refine lv_aload_n C.1 C.2.1 dX0_sumBehind_31 rfl (lv_at hl 2 rfl) ?_
              refine xt_get xt_inX0 C hW 0 rfl rfl 4 (by decide) rfl flX0_seenCount rfl dX0_sumBehind_32 ?_
              refine xt_iconst C 1 dX0_sumBehind_35 (by decide +kernel) ?_
              refine xt_isub C dX0_sumBehind_36 (by omega) ?_
              refine xt_icmp_ne C (by omega) (by omega) dX0_sumBehind_37 (tgt := 44) (by decide) (fun h37 => ?_) (fun h37 => ?_)
              · refine lv_aload_n C.1 C.2.1 dX0_sumBehind_44 rfl (lv_at hl 2 rfl) ?_
                refine lv_iload_n C.1 C.2.1 dX0_sumBehind_45 rfl (lv_at hl 1 rfl) ?_
                refine lv_iload_n C.1 C.2.1 dX0_sumBehind_46 rfl (lv_at hl 0 rfl) ?_
                refine xt_cl hA hW (xt_runV C hW.1 hW.2.1 cwX0_X0_sumOutOf (cx_sumOutOf l D cI cL ad S K n wc dn w lw sy sb sv2 rw rk dr (a - 1) b (by omega) (by omega) (by omega) (hw) (hsy _ (by omega))) rfl rfl rfl hl.1 (rest := [.int (nI ((a - 1) * 3 + b)), .ref (ad 5)]) rfl (Nat.le_of_ble_eq_true rfl) ⟨(Nat.le_of_ble_eq_true rfl), (Nat.le_of_ble_eq_true rfl)⟩ ⟨Nat.zero_le _, Nat.zero_le _⟩ dX0_sumBehind_47) (fun r47 u H locs hp47 hW => ?_)
                replace hW : xt_W D A ss.heap (xX ad cI cL S K n wc dn w lw sy sb sv2 rw rk dr) H locs := hW
                subst hp47
                refine xt_last C hW 5 rfl (by decide) dX0_sumBehind_50 (by omega) (fun H locs hW => ?_)
                replace hW : xt_W D A ss.heap (xX ad cI cL S K n wc dn w lw sy sb (va_up sv2 ((a - 1) * 3 + b) (ms_sum (fun z1 => xe w sy ((a - 1) + 1) b z1 * sv2 (((a - 1) + 1) * 3 + z1)) S)) rw rk dr) H locs := hW
                refine lv_iinc (k := 0) C.1 C.2.1 dX0_sumBehind_51 hl rfl xt_inc (by decide) rfl (fun ls hl => ?_)
                replace hl : lv_has ls 3 [(2, .int (nI (b + 1))), (1, .int (nI (a - 1))), (0, .ref (ad 0))] := hl
                refine lv_goto C.1 C.2.1 dX0_sumBehind_54 (tgt := 13) (by decide) ?_
                exact ih13 _ (by omega) (b + 1) (va_up sv2 ((a - 1) * 3 + b) (ms_sum (fun z1 => xe w sy ((a - 1) + 1) b z1 * sv2 (((a - 1) + 1) * 3 + z1)) S)) rfl (by omega) (xq_bh hS3 (by omega) (by omega) hv2 (xq_out (by omega) h37 (by omega) hv2)) ls _ _ (lv_sub hl [0, 1, 2] rfl) hW
              · refine xt_lconst C 1 dX0_sumBehind_40 (by decide +kernel) ?_
                refine lv_goto C.1 C.2.1 dX0_sumBehind_41 (tgt := 50) (by decide) ?_
                refine xt_last C hW 5 rfl (by decide) dX0_sumBehind_50 (by omega) (fun H locs hW => ?_)
                replace hW : xt_W D A ss.heap (xX ad cI cL S K n wc dn w lw sy sb (va_up sv2 ((a - 1) * 3 + b) 1) rw rk dr) H locs := hW
                refine lv_iinc (k := 0) C.1 C.2.1 dX0_sumBehind_51 hl rfl xt_inc (by decide) rfl (fun ls hl => ?_)
                replace hl : lv_has ls 3 [(2, .int (nI (b + 1))), (1, .int (nI (a - 1))), (0, .ref (ad 0))] := hl
                refine lv_goto C.1 C.2.1 dX0_sumBehind_54 (tgt := 13) (by decide) ?_
                exact ih13 _ (by omega) (b + 1) (va_up sv2 ((a - 1) * 3 + b) 1) rfl (by omega) (xq_bh hS3 (by omega) (by omega) hv2 (by rw [show n - 1 - (a - 1) = 0 by omega]; rfl)) ls _ _ (lv_sub hl [0, 1, 2] rfl) hW
        exact lp13 _ 0 sv rfl (Nat.zero_le _) (fun q t hq hn ht => hv q t (by omega) hn ht) ls _ _ (lv_sub hl [0, 1, 2] rfl) hW
  exact lp7 _ n sh rfl (Nat.le_refl _) (fun q t hq hn _ => absurd hn (by omega)) ls _ _ (lv_sub hl [0, 1] rfl) hW
end
section
theorem xt_minN {a : Nat} (h : a < 2 ^ 31) : (if nI 12 < nI a then nI 12 else nI a) = nI (min a 12) := by
  by_cases c : 12 < a
  · rw [if_pos ((nI_ltI (by omega) h).mpr c)]
    congr 1
    omega
  · rw [if_neg (fun q => c ((nI_ltI (by omega) h).mp q))]
    congr 1
    omega
def xq_sh (wc i : Nat) (f : Nat → Nat) (j : Nat) : Nat := if i < j ∧ j ≤ wc then f (j - 1) else f j
theorem xq_sh_lo {wc i j : Nat} {f : Nat → Nat} (h : j ≤ i) : xq_sh wc i f j = f j := if_neg (by omega)
theorem xq_sh_init {wc j : Nat} {f : Nat → Nat} (h : j < 12) : f j = xq_sh wc (min wc 12) f j := (if_neg (by omega)).symm
theorem xq_sh_hi {wc i j : Nat} {f : Nat → Nat} (h : i < j) (h2 : j ≤ wc) : xq_sh wc i f j = f (j - 1) := if_pos ⟨h, h2⟩
theorem xq_st1 {wc i : Nat} {f rv : Nat → Nat} (hr : ∀ j, j < 12 → rv j = xq_sh wc i f j) (hi : i ≤ min wc 12) (h0 : 0 < i) (h12 : i < 12) : ∀ j, j < 12 → va_up rv (i - 1 + 1) (rv (i - 1)) j = xq_sh wc (i - 1) f j := by
  intro j hj
  by_cases e : j = i - 1 + 1
  · subst e
    rw [xq_up, hr _ (by omega), xq_sh_lo (by omega), xq_sh_hi (by omega) (by omega)]
    congr 1
  · rw [xq_un e, hr j hj]
    unfold xq_sh
    by_cases c : i < j ∧ j ≤ wc
    · rw [if_pos c, if_pos (by omega)]
    · rw [if_neg c, if_neg (by omega)]
theorem xq_st2 {wc i : Nat} {f rv : Nat → Nat} (hr : ∀ j, j < 12 → rv j = xq_sh wc i f j) (h12 : 12 ≤ i - 1 + 1) : ∀ j, j < 12 → rv j = xq_sh wc (i - 1) f j := by
  intro j hj
  rw [hr j hj, xq_sh_lo (by omega), xq_sh_lo (by omega)]
/-- a way of weight v is put among the ranks -/
def xq_ins (wc v y : Nat) (rw rk : Nat → Nat) (wc2 : Nat) (rw2 rk2 : Nat → Nat) : Prop :=
  ∃ pos, pos ≤ wc ∧ pos ≤ 12 ∧ (∀ j, pos ≤ j → j < wc → j < 12 → rw j < v) ∧ (∀ j, j + 1 = pos → v ≤ rw j) ∧ (∀ j, j < pos → j < 12 → rw2 j = rw j ∧ rk2 j = rk j) ∧ (pos < 12 → rw2 pos = v ∧ rk2 pos = y) ∧ (∀ j, pos ≤ j → j < wc → j + 1 < 12 → rw2 (j + 1) = rw j ∧ rk2 (j + 1) = rk j) ∧ wc2 = wc + 1
theorem xq_rank_a {wc v y i : Nat} {rw rk rv kv : Nat → Nat} (hi : i ≤ min wc 12) (hb : ∀ j, i ≤ j → j < wc → j < 12 → rw j < v) (hz : ∀ j, j + 1 = i → v ≤ rw j) (hr : ∀ j, j < 12 → rv j = xq_sh wc i rw j) (hk : ∀ j, j < 12 → kv j = xq_sh wc i rk j) (h12 : i < 12) :
    xq_ins wc v y rw rk (wc + 1) (va_up rv i v) (va_up kv i y) := by
  refine ⟨i, by omega, by omega, hb, hz, fun j h1 h2 => ?_, fun _ => ⟨xq_up, xq_up⟩, fun j h1 h2 h3 => ?_, rfl⟩
  · rw [xq_un (by omega), xq_un (by omega), hr j h2, hk j h2, xq_sh_lo (by omega), xq_sh_lo (by omega)]
    exact ⟨rfl, rfl⟩
  · rw [xq_un (by omega), xq_un (by omega), hr _ h3, hk _ h3, xq_sh_hi (by omega) (by omega), xq_sh_hi (by omega) (by omega), Nat.add_sub_cancel]
    exact ⟨rfl, rfl⟩
theorem xq_rank_b {wc v y i : Nat} {rw rk rv kv : Nat → Nat} (hi : i ≤ min wc 12) (hb : ∀ j, i ≤ j → j < wc → j < 12 → rw j < v) (hz : ∀ j, j + 1 = i → v ≤ rw j) (hr : ∀ j, j < 12 → rv j = xq_sh wc i rw j) (hk : ∀ j, j < 12 → kv j = xq_sh wc i rk j) (h12 : 12 ≤ i) :
    xq_ins wc v y rw rk (wc + 1) rv kv := by
  refine ⟨i, by omega, by omega, hb, hz, fun j h1 h2 => ?_, fun h => absurd h (by omega), fun j h1 h2 h3 => absurd h3 (by omega), rfl⟩
  rw [hr j h2, hk j h2, xq_sh_lo (by omega), xq_sh_lo (by omega)]
  exact ⟨rfl, rfl⟩
set_option maxHeartbeats 4000000 in
set_option maxRecDepth 100000 in
theorem cx_rankWay (l : Launch) (D : va_G) (cI cL : ClassId) (ad : Nat → Nat) (S K n wc dn : Nat) (w lw sy sb sh rw rk dr : Nat → Nat) (y : Nat) (v : Nat) (hvb : v < 2 ^ 63) (hrb : ∀ j, j < wc → j < 12 → rw j < 2 ^ 63) (hwc : wc < 2 ^ 30) : xt_M l yX0_rankWay cX0_rankWay 5 none 1 D cI cL [.ref (ad 0), .int (nI y), .long (lN v)] (xX ad cI cL S K n wc dn w lw sy sb sh rw rk dr) (xt_Qv D cI cL (xX ad cI cL S K n wc dn w lw sy sb sh rw rk dr) (fun (u : (Nat) × (Nat → Nat) × (Nat → Nat)) => xq_ins wc v y rw rk u.1 u.2.1 u.2.2) (fun u => xX ad cI cL S K n u.1 dn w lw sy sb sh u.2.1 u.2.2 dr)) := by
  refine xt_start (own := RX0) rfl (by decide) (Nat.le_of_ble_eq_true rfl) (fun pg ev ss mi args below meth cd A Q ls C hE hA hl hW => ?_)
  replace hl : lv_has ls 5 [(0, .ref (ad 0)), (1, .int (nI y)), (2, .long (lN v))] := hl
  refine lv_aload_n C.1 C.2.1 dX0_rankWay_0 rfl (lv_at hl 0 rfl) ?_
  refine xt_get xt_inX0 C hW 0 rfl rfl 8 (by decide) rfl flX0_wayCount rfl dX0_rankWay_1 ?_
  refine xt_bipush C 12 dX0_rankWay_4 (by decide +kernel) ?_
  refine va_mmin C.1 C.2.1 (C.2.2.1.trans hl.1.symm) C.o (C.t xt_min.1) (C.t xt_min.2.1) (C.t xt_min.2.2.1) (C.t xt_min.2.2.2) (Nat.le_of_ble_eq_true rfl) (Nat.le_of_ble_eq_true rfl) (Nat.zero_le _) (Nat.zero_le _) dX0_rankWay_6 ?_
  rw [xt_minN (by omega)]
  refine lv_istore C.1 C.2.1 dX0_rankWay_9 hl (by decide) rfl (fun ls hl => ?_)
  replace hl : lv_has ls 5 [(4, .int (nI (min wc 12))), (0, .ref (ad 0)), (1, .int (nI y)), (2, .long (lN v))] := hl
  have lp11 : ∀ (q : Nat) (i : Nat) (rv : Nat → Nat) (kv : Nat → Nat), i = q → (i ≤ min wc 12) → (∀ j, i ≤ j → j < wc → j < 12 → rw j < v) → (∀ j, j < 12 → rv j = xq_sh wc i rw j) → (∀ j, j < 12 → kv j = xq_sh wc i rk j) → ∀ (ls : Array Slot) (H : Heap) (locs : List Loc), lv_has ls 5 [(4, .int (nI i)), (0, .ref (ad 0)), (1, .int (nI y)), (2, .long (lN v))] → xt_W D A ss.heap (xX ad cI cL S K n wc dn w lw sy sb sh rv kv dr) H locs → W pg l ev (xt_R 1) ss mi args below meth cd H locs 0 0 Q (F0 mi 11 ls []) := by
    intro q
    induction q using Nat.strongRecOn with
    | _ q ih11 =>
      intro i rv kv hq11 hi hb hr hk ls H locs hl hW
      refine lv_iload C.1 C.2.1 dX0_rankWay_11 (lv_at hl 0 rfl) ?_
      refine xt_if_le C (by omega) dX0_rankWay_13 (tgt := 77) (by decide) (fun h13 => ?_) (fun h13 => ?_)
      · have hz : ∀ j, j + 1 = i → v ≤ rw j := fun j hj => absurd hj (by omega)
        refine lv_iload C.1 C.2.1 dX0_rankWay_77 (lv_at hl 0 rfl) ?_
        refine xt_bipush C 12 dX0_rankWay_79 (by decide +kernel) ?_
        refine xt_icmp_ge C (by omega) (by omega) dX0_rankWay_81 (tgt := 100) (by decide) (fun h81 => ?_) (fun h81 => ?_)
        · refine lv_aload_n C.1 C.2.1 dX0_rankWay_100 rfl (lv_at hl 1 rfl) ?_
          refine lv_dup C.1 C.2.1 dX0_rankWay_101 rfl ?_
          refine xt_get xt_inX0 C hW 0 rfl rfl 8 (by decide) rfl flX0_wayCount rfl dX0_rankWay_102 ?_
          refine xt_iconst C 1 dX0_rankWay_105 (by decide +kernel) ?_
          refine xt_iadd C dX0_rankWay_106 ?_
          refine xt_put (ty := .int) xt_inX0 tyX0 tyX0_ok nmX0 C hW 0 rfl rfl 8 (by decide) rfl flX0_wayCount rfl (by decide +kernel) rfl rfl (Nat.le_of_ble_eq_true rfl) dX0_rankWay_107 (fun H locs hW => ?_)
          replace hW : xt_W D A ss.heap (xX ad cI cL S K n (wc + 1) dn w lw sy sb sh rv kv dr) H locs := hW
          exact xt_vret C hE (wc + 1, rv, kv) hW (xq_rank_b hi hb hz hr hk (by omega)) dX0_rankWay_110
        · refine lv_aload_n C.1 C.2.1 dX0_rankWay_84 rfl (lv_at hl 1 rfl) ?_
          refine xt_get xt_inX0 C hW 0 rfl rfl 9 (by decide) rfl flX0_rankedWeights rfl dX0_rankWay_85 ?_
          refine lv_iload C.1 C.2.1 dX0_rankWay_88 (lv_at hl 0 rfl) ?_
          refine lv_lload_n C.1 C.2.1 dX0_rankWay_90 rfl (lv_at hl 3 rfl) ?_
          refine xt_last C hW 6 rfl (by decide) dX0_rankWay_91 (by omega) (fun H locs hW => ?_)
          replace hW : xt_W D A ss.heap (xX ad cI cL S K n wc dn w lw sy sb sh (va_up rv i v) kv dr) H locs := hW
          refine lv_aload_n C.1 C.2.1 dX0_rankWay_92 rfl (lv_at hl 1 rfl) ?_
          refine xt_get xt_inX0 C hW 0 rfl rfl 10 (by decide) rfl flX0_rankedWays rfl dX0_rankWay_93 ?_
          refine lv_iload C.1 C.2.1 dX0_rankWay_96 (lv_at hl 0 rfl) ?_
          refine lv_iload_n C.1 C.2.1 dX0_rankWay_98 rfl (lv_at hl 2 rfl) ?_
          refine xt_iast C hW 7 rfl (by decide) dX0_rankWay_99 (by omega) (fun H locs hW => ?_)
          replace hW : xt_W D A ss.heap (xX ad cI cL S K n wc dn w lw sy sb sh (va_up rv i v) (va_up kv i y) dr) H locs := hW
          refine lv_aload_n C.1 C.2.1 dX0_rankWay_100 rfl (lv_at hl 1 rfl) ?_
          refine lv_dup C.1 C.2.1 dX0_rankWay_101 rfl ?_
          refine W.eq (g2 := F0 mi 102 ls [.ref (ad 0), .ref (ad 0)]) rfl ?_
          refine xt_get xt_inX0 C hW 0 rfl rfl 8 (by decide) rfl flX0_wayCount rfl dX0_rankWay_102 ?_
          refine xt_iconst C 1 dX0_rankWay_105 (by decide +kernel) ?_
          refine xt_iadd C dX0_rankWay_106 ?_
          refine xt_put (ty := .int) xt_inX0 tyX0 tyX0_ok nmX0 C hW 0 rfl rfl 8 (by decide) rfl flX0_wayCount rfl (by decide +kernel) rfl rfl (Nat.le_of_ble_eq_true rfl) dX0_rankWay_107 (fun H locs hW => ?_)
          replace hW : xt_W D A ss.heap (xX ad cI cL S K n (wc + 1) dn w lw sy sb sh (va_up rv i v) (va_up kv i y) dr) H locs := hW
          exact xt_vret C hE (wc + 1, va_up rv i v, va_up kv i y) hW (xq_rank_a hi hb hz hr hk (by omega)) dX0_rankWay_110
      · refine lv_aload_n C.1 C.2.1 dX0_rankWay_16 rfl (lv_at hl 1 rfl) ?_
        refine xt_get xt_inX0 C hW 0 rfl rfl 9 (by decide) rfl flX0_rankedWeights rfl dX0_rankWay_17 ?_
        refine lv_iload C.1 C.2.1 dX0_rankWay_20 (lv_at hl 0 rfl) ?_
        refine xt_iconst C 1 dX0_rankWay_22 (by decide +kernel) ?_
        refine xt_isub C dX0_rankWay_23 (by omega) ?_
        refine xt_lald C hW 6 rfl (by decide) dX0_rankWay_24 (by omega) ?_
        refine lv_lload_n C.1 C.2.1 dX0_rankWay_25 rfl (lv_at hl 3 rfl) ?_
        refine xt_l_ge C (by rw [hr (i - 1) (by omega), xq_sh_lo (by omega)]; exact hrb _ (by omega) (by omega)) (hvb) dX0_rankWay_26 dX0_rankWay_27 (tgt := 77) (by decide) (fun h26 => ?_) (fun h26 => ?_)
        · have hz : ∀ j, j + 1 = i → v ≤ rw j := fun j hj => by rw [show j = i - 1 by omega, ← xq_sh_lo (wc := wc) (i := i) (f := rw) (show i - 1 ≤ i by omega), ← hr (i - 1) (by omega)]; exact h26
          refine lv_iload C.1 C.2.1 dX0_rankWay_77 (lv_at hl 0 rfl) ?_
          refine xt_bipush C 12 dX0_rankWay_79 (by decide +kernel) ?_
          refine xt_icmp_ge C (by omega) (by omega) dX0_rankWay_81 (tgt := 100) (by decide) (fun h81 => ?_) (fun h81 => ?_)
          · refine lv_aload_n C.1 C.2.1 dX0_rankWay_100 rfl (lv_at hl 1 rfl) ?_
            refine lv_dup C.1 C.2.1 dX0_rankWay_101 rfl ?_
            refine xt_get xt_inX0 C hW 0 rfl rfl 8 (by decide) rfl flX0_wayCount rfl dX0_rankWay_102 ?_
            refine xt_iconst C 1 dX0_rankWay_105 (by decide +kernel) ?_
            refine xt_iadd C dX0_rankWay_106 ?_
            refine xt_put (ty := .int) xt_inX0 tyX0 tyX0_ok nmX0 C hW 0 rfl rfl 8 (by decide) rfl flX0_wayCount rfl (by decide +kernel) rfl rfl (Nat.le_of_ble_eq_true rfl) dX0_rankWay_107 (fun H locs hW => ?_)
            replace hW : xt_W D A ss.heap (xX ad cI cL S K n (wc + 1) dn w lw sy sb sh rv kv dr) H locs := hW
            exact xt_vret C hE (wc + 1, rv, kv) hW (xq_rank_b hi hb hz hr hk (by omega)) dX0_rankWay_110
          · refine lv_aload_n C.1 C.2.1 dX0_rankWay_84 rfl (lv_at hl 1 rfl) ?_
            refine xt_get xt_inX0 C hW 0 rfl rfl 9 (by decide) rfl flX0_rankedWeights rfl dX0_rankWay_85 ?_
            refine lv_iload C.1 C.2.1 dX0_rankWay_88 (lv_at hl 0 rfl) ?_
            refine lv_lload_n C.1 C.2.1 dX0_rankWay_90 rfl (lv_at hl 3 rfl) ?_
            refine xt_last C hW 6 rfl (by decide) dX0_rankWay_91 (by omega) (fun H locs hW => ?_)
            replace hW : xt_W D A ss.heap (xX ad cI cL S K n wc dn w lw sy sb sh (va_up rv i v) kv dr) H locs := hW
            refine lv_aload_n C.1 C.2.1 dX0_rankWay_92 rfl (lv_at hl 1 rfl) ?_
            refine xt_get xt_inX0 C hW 0 rfl rfl 10 (by decide) rfl flX0_rankedWays rfl dX0_rankWay_93 ?_
            refine lv_iload C.1 C.2.1 dX0_rankWay_96 (lv_at hl 0 rfl) ?_
            refine lv_iload_n C.1 C.2.1 dX0_rankWay_98 rfl (lv_at hl 2 rfl) ?_
            refine xt_iast C hW 7 rfl (by decide) dX0_rankWay_99 (by omega) (fun H locs hW => ?_)
            replace hW : xt_W D A ss.heap (xX ad cI cL S K n wc dn w lw sy sb sh (va_up rv i v) (va_up kv i y) dr) H locs := hW
            refine lv_aload_n C.1 C.2.1 dX0_rankWay_100 rfl (lv_at hl 1 rfl) ?_
            refine lv_dup C.1 C.2.1 dX0_rankWay_101 rfl ?_
            refine W.eq (g2 := F0 mi 102 ls [.ref (ad 0), .ref (ad 0)]) rfl ?_
            refine xt_get xt_inX0 C hW 0 rfl rfl 8 (by decide) rfl flX0_wayCount rfl dX0_rankWay_102 ?_
            refine xt_iconst C 1 dX0_rankWay_105 (by decide +kernel) ?_
            refine xt_iadd C dX0_rankWay_106 ?_
            refine xt_put (ty := .int) xt_inX0 tyX0 tyX0_ok nmX0 C hW 0 rfl rfl 8 (by decide) rfl flX0_wayCount rfl (by decide +kernel) rfl rfl (Nat.le_of_ble_eq_true rfl) dX0_rankWay_107 (fun H locs hW => ?_)
            replace hW : xt_W D A ss.heap (xX ad cI cL S K n (wc + 1) dn w lw sy sb sh (va_up rv i v) (va_up kv i y) dr) H locs := hW
            exact xt_vret C hE (wc + 1, va_up rv i v, va_up kv i y) hW (xq_rank_a hi hb hz hr hk (by omega)) dX0_rankWay_110
        · have hlt : rw (i - 1) < v := by rw [← xq_sh_lo (wc := wc) (i := i) (f := rw) (show i - 1 ≤ i by omega), ← hr (i - 1) (by omega)]; exact h26
          refine lv_iinc (k := 0) C.1 C.2.1 dX0_rankWay_30 hl rfl (xt_dec (by omega)) (by decide) rfl (fun ls hl => ?_)
          replace hl : lv_has ls 5 [(4, .int (nI (i - 1))), (0, .ref (ad 0)), (1, .int (nI y)), (2, .long (lN v))] := hl
          refine lv_iload C.1 C.2.1 dX0_rankWay_33 (lv_at hl 0 rfl) ?_
          refine xt_iconst C 1 dX0_rankWay_35 (by decide +kernel) ?_
          refine xt_iadd C dX0_rankWay_36 ?_
          refine xt_bipush C 12 dX0_rankWay_37 (by decide +kernel) ?_
          refine xt_icmp_ge C (by omega) (by omega) dX0_rankWay_39 (tgt := 11) (by decide) (fun h39 => ?_) (fun h39 => ?_)
          · exact ih11 _ (by omega) (i - 1) rv kv rfl (by omega) (fun j h1 h2 h3 => if e : j = i - 1 then (by rw [e]; exact hlt) else hb j (by omega) h2 h3) (xq_st2 hr (by omega)) (xq_st2 hk (by omega)) ls _ _ (lv_sub hl [0, 1, 2, 3] rfl) hW
          · refine lv_aload_n C.1 C.2.1 dX0_rankWay_42 rfl (lv_at hl 1 rfl) ?_
            refine xt_get xt_inX0 C hW 0 rfl rfl 9 (by decide) rfl flX0_rankedWeights rfl dX0_rankWay_43 ?_
            refine lv_iload C.1 C.2.1 dX0_rankWay_46 (lv_at hl 0 rfl) ?_
            refine xt_iconst C 1 dX0_rankWay_48 (by decide +kernel) ?_
            refine xt_iadd C dX0_rankWay_49 ?_
            refine lv_aload_n C.1 C.2.1 dX0_rankWay_50 rfl (lv_at hl 1 rfl) ?_
            refine xt_get xt_inX0 C hW 0 rfl rfl 9 (by decide) rfl flX0_rankedWeights rfl dX0_rankWay_51 ?_
            refine lv_iload C.1 C.2.1 dX0_rankWay_54 (lv_at hl 0 rfl) ?_
            refine xt_lald C hW 6 rfl (by decide) dX0_rankWay_56 (by omega) ?_
            refine xt_last C hW 6 rfl (by decide) dX0_rankWay_57 (by omega) (fun H locs hW => ?_)
            replace hW : xt_W D A ss.heap (xX ad cI cL S K n wc dn w lw sy sb sh (va_up rv ((i - 1) + 1) (rv (i - 1))) kv dr) H locs := hW
            refine lv_aload_n C.1 C.2.1 dX0_rankWay_58 rfl (lv_at hl 1 rfl) ?_
            refine xt_get xt_inX0 C hW 0 rfl rfl 10 (by decide) rfl flX0_rankedWays rfl dX0_rankWay_59 ?_
            refine W.eq (g2 := F0 mi 62 ls [.ref (ad 7)]) rfl ?_
            refine lv_iload C.1 C.2.1 dX0_rankWay_62 (lv_at hl 0 rfl) ?_
            refine xt_iconst C 1 dX0_rankWay_64 (by decide +kernel) ?_
            refine xt_iadd C dX0_rankWay_65 ?_
            refine lv_aload_n C.1 C.2.1 dX0_rankWay_66 rfl (lv_at hl 1 rfl) ?_
            refine xt_get xt_inX0 C hW 0 rfl rfl 10 (by decide) rfl flX0_rankedWays rfl dX0_rankWay_67 ?_
            refine lv_iload C.1 C.2.1 dX0_rankWay_70 (lv_at hl 0 rfl) ?_
            refine xt_iald C hW 7 rfl (by decide) dX0_rankWay_72 (by omega) ?_
            refine xt_iast C hW 7 rfl (by decide) dX0_rankWay_73 (by omega) (fun H locs hW => ?_)
            replace hW : xt_W D A ss.heap (xX ad cI cL S K n wc dn w lw sy sb sh (va_up rv ((i - 1) + 1) (rv (i - 1))) (va_up kv ((i - 1) + 1) (kv (i - 1))) dr) H locs := hW
            refine lv_goto C.1 C.2.1 dX0_rankWay_74 (tgt := 11) (by decide) ?_
            exact ih11 _ (by omega) (i - 1) (va_up rv ((i - 1) + 1) (rv (i - 1))) (va_up kv ((i - 1) + 1) (kv (i - 1))) rfl (by omega) (fun j h1 h2 h3 => if e : j = i - 1 then (by rw [e]; exact hlt) else hb j (by omega) h2 h3) (xq_st1 hr hi (by omega) (by omega)) (xq_st1 hk hi (by omega) (by omega)) ls _ _ (lv_sub hl [0, 1, 2, 3] rfl) hW
  exact lp11 _ (min wc 12) rw rk rfl (Nat.le_refl _) (fun j h1 h2 h3 => absurd h1 (by omega)) (fun j h => xq_sh_init h) (fun j h => xq_sh_init h) ls _ _ (lv_sub hl [0, 1, 2, 3] rfl) hW
end
section
/-- rankFrom with r places left, from a beginning of number a -/
def xq_RF (l : Launch) (D : va_G) (cI cL : ClassId) (ad : Nat → Nat) (r : Nat) : Prop := ∀ (S K n wc dn : Nat) (w lw sy sb sh rw rk dr : Nat → Nat) (p y v a : Nat) (g : Nat → Nat), (p + r = n) → (n ≤ 6) → (S ≤ 3) → (0 < S) → (∀ i, i < 36 → w i ≤ 9) → (∀ p, p < n → sy p < 4) → (y = ms_pk S p a) → (v = ms_wt (xe w sy) S p a) → (v ≠ 0) → (a < S ^ p) → (ms_rr (ms_wt (xe w sy) S n) (ms_pk S n) (a * S ^ r) wc rw rk g) →
  xt_M l yX0_rankFrom cX0_rankFrom 8 none (r + 2) D cI cL [.ref (ad 0), .int (nI p), .int (nI y), .long (lN v)] (xX ad cI cL S K n wc dn w lw sy sb sh rw rk dr) (xt_Qv D cI cL (xX ad cI cL S K n wc dn w lw sy sb sh rw rk dr) (fun (u : (Nat) × (Nat → Nat) × (Nat → Nat)) => ∃ g2, ms_rr (ms_wt (xe w sy) S n) (ms_pk S n) ((a + 1) * S ^ r) u.1 u.2.1 u.2.2 g2) (fun u => xX ad cI cL S K n u.1 dn w lw sy sb sh u.2.1 u.2.2 dr))
theorem xq_k0 {a S r : Nat} : a * S ^ (r + 1) = (a * S + 0) * S ^ r := by rw [Nat.pow_succ, Nat.add_zero, Nat.mul_assoc, Nat.mul_comm S]
theorem xq_kS {a S r : Nat} : (a * S + S) * S ^ r = (a + 1) * S ^ (r + 1) := by rw [← Nat.succ_mul, Nat.pow_succ, Nat.mul_assoc, Nat.mul_comm S]
theorem xq_leaf {W pk : Nat → Nat} {a S wc v y wc2 : Nat} {rw rk rw2 rk2 g : Nat → Nat} (hrr : ms_rr W pk (a * S ^ 0) wc rw rk g) (hv : v = W a) (hy : y = pk a) (hv0 : v ≠ 0) (hins : xq_ins wc v y rw rk wc2 rw2 rk2) :
    ∃ g2, ms_rr W pk ((a + 1) * S ^ 0) wc2 rw2 rk2 g2 := by
  obtain ⟨pos, h1, h2, h3, h4, h5, h6, h7, h8⟩ := hins
  subst hv
  subst hy
  subst h8
  rw [Nat.pow_zero, Nat.mul_one] at hrr
  rw [Nat.pow_zero, Nat.mul_one]
  exact ms_rr_ins hrr hv0 h1 h2 h3 h4 h5 h6 h7
theorem xq_e81 {w sy : Nat → Nat} {S n : Nat} (hw : ∀ i, i < 36 → w i ≤ 9) (hS3 : S ≤ 3) (hsy : ∀ p, p < n → sy p < 4) : ∀ p s t, p < n → s < S → t < S → xe w sy p s t ≤ 81 :=
  fun p s t hp hs ht => xe_le hw (by omega) (by omega) (hsy p hp)
theorem xq_wtb {w sy : Nat → Nat} {S n p a : Nat} (hw : ∀ i, i < 36 → w i ≤ 9) (hS3 : S ≤ 3) (hS0 : 0 < S) (hn6 : n ≤ 6) (hp : p ≤ n) (hsy : ∀ p, p < n → sy p < 4) : ms_wt (xe w sy) S p a < 2 ^ 63 :=
  Nat.lt_of_le_of_lt (ms_wt_b hS0 (by omega) (fun q s t h1 h2 h3 => xe_le hw (by omega) (by omega) (hsy q (by omega)))) (by decide)
theorem xq_rrb {W pk : Nat → Nat} {K wc : Nat} {rw rk g : Nat → Nat} (h : ms_rr W pk K wc rw rk g) (hW : ∀ k, W k < 2 ^ 63) : ∀ j, j < wc → j < 12 → rw j < 2 ^ 63 := fun j h1 h2 => by
  rw [(h.2.1 j h1 h2).2.2.1]
  exact hW _
theorem xq_wcb {W pk : Nat → Nat} {K wc : Nat} {rw rk g : Nat → Nat} (h : ms_rr W pk K wc rw rk g) (hK : K ≤ 729) : wc < 2 ^ 30 := by
  have h1 := ms_cnt_le W K
  rw [← h.1] at h1
  omega
theorem xq_aS {S n p r a : Nat} (hS3 : S ≤ 3) (hn6 : n ≤ 6) (hpn : p + r = n) (ha : a < S ^ p) : a * S ^ r ≤ 729 := by
  have h1 : a * S ^ r ≤ S ^ p * S ^ r := Nat.mul_le_mul_right _ (Nat.le_of_lt ha)
  rw [← Nat.pow_add, hpn] at h1
  exact Nat.le_trans h1 (ms_pow_le hS3 hn6)
theorem xq_pkb {S p a : Nat} (hS0 : 0 < S) (hS3 : S ≤ 3) (hp : p ≤ 6) : ms_pk S p a < 4096 :=
  Nat.lt_of_lt_of_le (ms_pk_lt hS0 hS3 p a) (Nat.le_trans (Nat.pow_le_pow_right (by decide) hp) (by decide))
theorem xq_ls {S p a : Nat} (hS0 : 0 < S) (hS3 : S ≤ 3) : ms_pk S p a % 4 = ms_ls S p a := by
  cases p with
  | zero => rfl
  | succ p =>
    have h : a % S < S := Nat.mod_lt _ hS0
    show (ms_pk S p (a / S) * 4 + a % S) % 4 = ms_ls S (p + 1) a
    unfold ms_ls
    rw [if_neg (Nat.succ_ne_zero p)]
    omega
theorem xq_lsb {S p a : Nat} (hS0 : 0 < S) : ms_ls S p a < S := by
  unfold ms_ls
  split
  · exact hS0
  · exact Nat.mod_lt _ hS0
theorem xq_snl {S p a i : Nat} (ha : a < S ^ p) (hi : i < S) : a * S + i < S ^ (p + 1) := by
  rw [Nat.pow_succ]
  have h : (a + 1) * S ≤ S ^ p * S := Nat.mul_le_mul_right _ ha
  rw [Nat.succ_mul] at h
  omega
theorem xq_zero {w sy : Nat → Nat} {S n p r a i wc : Nat} {rw rk g : Nat → Nat} (hS0 : 0 < S) (hpn : p + (r + 1) = n) (hi : i < S) (hz : ms_wt (xe w sy) S p a * xe w sy p (ms_ls S p a) i = 0) (h : ms_rr (ms_wt (xe w sy) S n) (ms_pk S n) ((a * S + i) * S ^ r) wc rw rk g) :
    ∃ g2, ms_rr (ms_wt (xe w sy) S n) (ms_pk S n) ((a * S + (i + 1)) * S ^ r) wc rw rk g2 := by
  refine ⟨g, ?_⟩
  rw [← Nat.add_assoc, Nat.succ_mul]
  refine ms_rr_skip h _ (fun b hb => ?_)
  have e : n = (p + 1) + r := by omega
  rw [e]
  exact ms_wt_pre (xe_0 w sy) hS0 (by rw [ms_wt_snoc (xe_0 w sy) hi]; exact hz) r b hb
set_option maxHeartbeats 4000000 in
set_option maxRecDepth 100000 in
theorem cx_rankFrom_0 (l : Launch) (D : va_G) (cI cL : ClassId) (ad : Nat → Nat) : xq_RF l D cI cL ad 0 := by
  unfold xq_RF
  intro S K n wc dn w lw sy sb sh rw rk dr p y v a g hpn hn6 hS3 hS0 hw hsy hy hv hv0 haS hrr
  have hpn : p = n := by omega
  refine xt_start (own := RX0) rfl (by decide) (Nat.le_of_ble_eq_true rfl) (fun pg ev ss mi args below meth cd A Q ls C hE hA hl hW => ?_)
  replace hl : lv_has ls 8 [(0, .ref (ad 0)), (1, .int (nI p)), (2, .int (nI y)), (3, .long (lN v))] := hl
  refine lv_iload_n C.1 C.2.1 dX0_rankFrom_0 rfl (lv_at hl 1 rfl) ?_
  refine lv_aload_n C.1 C.2.1 dX0_rankFrom_1 rfl (lv_at hl 0 rfl) ?_
  refine xt_get xt_inX0 C hW 0 rfl rfl 4 (by decide) rfl flX0_seenCount rfl dX0_rankFrom_2 ?_
  refine xt_icmp_lt C (by omega) (by omega) dX0_rankFrom_5 (tgt := 15) (by decide) (fun h5 => ?_) (fun h5 => ?_)
  · exfalso
    omega
  · refine lv_aload_n C.1 C.2.1 dX0_rankFrom_8 rfl (lv_at hl 0 rfl) ?_
    refine lv_iload_n C.1 C.2.1 dX0_rankFrom_9 rfl (lv_at hl 2 rfl) ?_
    refine lv_lload_n C.1 C.2.1 dX0_rankFrom_10 rfl (lv_at hl 3 rfl) ?_
    refine xt_cvd hA hW (xt_runV C hW.1 hW.2.1 cwX0_X0_rankWay (cx_rankWay l D cI cL ad S K n wc dn w lw sy sb sh rw rk dr y v (by rw [hv]; exact xq_wtb hw hS3 hS0 hn6 (by omega) hsy) (xq_rrb hrr (fun k => xq_wtb hw hS3 hS0 hn6 (Nat.le_refl _) hsy)) (xq_wcb hrr (xq_aS hS3 hn6 (show p + 0 = n by omega) haS))) rfl rfl rfl hl.1 (rest := []) rfl (Nat.le_of_ble_eq_true rfl) ⟨(by show 1 + 1 ≤ 0 + 2; omega), (by show 8 + (5 + 11) + 40 * 1 ≤ 40 * (0 + 2); omega)⟩ ⟨Nat.zero_le _, Nat.zero_le _⟩ dX0_rankFrom_11) (fun u H locs hp11 hW => ?_)
    obtain ⟨wc_11, rw_11, rk_11⟩ := u
    replace hW : xt_W D A ss.heap (xX ad cI cL S K n wc_11 dn w lw sy sb sh rw_11 rk_11 dr) H locs := hW
    replace hp11 : xq_ins wc v y rw rk wc_11 rw_11 rk_11 := hp11
    exact xt_vret C hE (wc_11, rw_11, rk_11) hW (xq_leaf hrr (by rw [← hpn]; exact hv) (by rw [← hpn]; exact hy) hv0 hp11) dX0_rankFrom_14
set_option maxHeartbeats 4000000 in
set_option maxRecDepth 100000 in
theorem cx_rankFrom_s (l : Launch) (D : va_G) (cI cL : ClassId) (ad : Nat → Nat) (r : Nat) (ih : xq_RF l D cI cL ad r) : xq_RF l D cI cL ad (r + 1) := by
  unfold xq_RF
  intro S K n wc dn w lw sy sb sh rw rk dr p y v a g hpn hn6 hS3 hS0 hw hsy hy hv hv0 haS hrr
  have hyb : y < 4096 := by rw [hy]; exact xq_pkb hS0 hS3 (by omega)
  have hls : y % 4 = ms_ls S p a := by rw [hy]; exact xq_ls hS0 hS3
  have hlb : y % 4 < S := by rw [hls]; exact xq_lsb hS0
  refine xt_start (own := RX0) rfl (by decide) (Nat.le_of_ble_eq_true rfl) (fun pg ev ss mi args below meth cd A Q ls C hE hA hl hW => ?_)
  replace hl : lv_has ls 8 [(0, .ref (ad 0)), (1, .int (nI p)), (2, .int (nI y)), (3, .long (lN v))] := hl
  refine lv_iload_n C.1 C.2.1 dX0_rankFrom_0 rfl (lv_at hl 1 rfl) ?_
  refine lv_aload_n C.1 C.2.1 dX0_rankFrom_1 rfl (lv_at hl 0 rfl) ?_
  refine xt_get xt_inX0 C hW 0 rfl rfl 4 (by decide) rfl flX0_seenCount rfl dX0_rankFrom_2 ?_
  refine xt_icmp_lt C (by omega) (by omega) dX0_rankFrom_5 (tgt := 15) (by decide) (fun h5 => ?_) (fun h5 => ?_)
  · refine xt_iconst C 0 dX0_rankFrom_15 (by decide +kernel) ?_
    refine lv_istore C.1 C.2.1 dX0_rankFrom_16 hl (by decide) rfl (fun ls hl => ?_)
    replace hl : lv_has ls 8 [(5, .int (nI 0)), (0, .ref (ad 0)), (1, .int (nI p)), (2, .int (nI y)), (3, .long (lN v))] := hl
    have lp18 : ∀ (q : Nat) (i : Nat) (wc2 : Nat) (rv : Nat → Nat) (kv : Nat → Nat), S - i = q → (i ≤ S) → (∃ g2, ms_rr (ms_wt (xe w sy) S n) (ms_pk S n) ((a * S + i) * S ^ r) wc2 rv kv g2) → ∀ (ls : Array Slot) (H : Heap) (locs : List Loc), lv_has ls 8 [(5, .int (nI i)), (0, .ref (ad 0)), (1, .int (nI p)), (2, .int (nI y)), (3, .long (lN v))] → xt_W D A ss.heap (xX ad cI cL S K n wc2 dn w lw sy sb sh rv kv dr) H locs → W pg l ev (xt_R (r + 1 + 2)) ss mi args below meth cd H locs 0 0 Q (F0 mi 18 ls []) := by
      intro q
      induction q using Nat.strongRecOn with
      | _ q ih18 =>
        intro i wc2 rv kv hq18 hi hg ls H locs hl hW
        obtain ⟨g2, hg2⟩ := hg
        refine lv_iload C.1 C.2.1 dX0_rankFrom_18 (lv_at hl 0 rfl) ?_
        refine lv_aload_n C.1 C.2.1 dX0_rankFrom_20 rfl (lv_at hl 1 rfl) ?_
        refine xt_get xt_inX0 C hW 0 rfl rfl 0 (by decide) rfl flX0_stateCount rfl dX0_rankFrom_21 ?_
        refine xt_icmp_ge C (by omega) (by omega) dX0_rankFrom_24 (tgt := 69) (by decide) (fun h24 => ?_) (fun h24 => ?_)
        · exact xt_vret C hE (wc2, rv, kv) hW (by rw [show i = S by omega] at hg2; exact ⟨g2, by rw [← xq_kS]; exact hg2⟩) dX0_rankFrom_69
        · refine lv_lload_n C.1 C.2.1 dX0_rankFrom_27 rfl (lv_at hl 4 rfl) ?_
          refine lv_aload_n C.1 C.2.1 dX0_rankFrom_28 rfl (lv_at hl 1 rfl) ?_
          refine lv_iload_n C.1 C.2.1 dX0_rankFrom_29 rfl (lv_at hl 2 rfl) ?_
          refine lv_iload_n C.1 C.2.1 dX0_rankFrom_30 rfl (lv_at hl 3 rfl) ?_
          refine xt_iconst C 3 dX0_rankFrom_31 (by decide +kernel) ?_
          refine xt_and3 C dX0_rankFrom_32 (by omega) ?_
          refine lv_iload C.1 C.2.1 dX0_rankFrom_33 (lv_at hl 0 rfl) ?_
          refine xt_cl hA hW (xt_runV C hW.1 hW.2.1 cwX0_X0_entry (cx_entry l D cI cL ad S K n wc2 dn w lw sy sb sh rv kv dr p (y % 4) i (by omega) (by omega) (by omega) (hw) (hsy _ (by omega))) rfl rfl rfl hl.1 (rest := [.long (lN v)]) rfl (Nat.le_of_ble_eq_true rfl) ⟨(by show 1 + 1 ≤ r + 1 + 2; omega), (by show 8 + (5 + 11) + 40 * 1 ≤ 40 * (r + 1 + 2); omega)⟩ ⟨Nat.zero_le _, Nat.zero_le _⟩ dX0_rankFrom_35) (fun r35 u H locs hp35 hW => ?_)
          replace hW : xt_W D A ss.heap (xX ad cI cL S K n wc2 dn w lw sy sb sh rv kv dr) H locs := hW
          subst hp35
          refine xt_lmul C dX0_rankFrom_38 ?_
          refine lv_lstore C.1 C.2.1 dX0_rankFrom_39 hl (by decide) rfl (fun ls hl => ?_)
          replace hl : lv_has ls 8 [(6, .long (lN (v * (xe w sy p (y % 4) i)))), (5, .int (nI i)), (0, .ref (ad 0)), (1, .int (nI p)), (2, .int (nI y)), (3, .long (lN v))] := hl
          refine lv_lload C.1 C.2.1 dX0_rankFrom_41 (lv_at hl 0 rfl) ?_
          refine xt_lconst C 0 dX0_rankFrom_43 (by decide +kernel) ?_
          refine W.eq (g2 := F0 mi 44 ls [.long (lN 0), .long (lN (v * (xe w sy p (y % 4) i)))]) rfl ?_
          refine xt_l_eq C (by rw [hls, hv, ← ms_wt_snoc (xe_0 w sy) (show i < S by omega)]; exact xq_wtb hw hS3 hS0 hn6 (by omega) hsy) (by decide) dX0_rankFrom_44 dX0_rankFrom_45 (tgt := 63) (by decide) (fun h44 => ?_) (fun h44 => ?_)
          · have hz : v * xe w sy p (y % 4) i = 0 := h44
            refine lv_iinc (k := 1) C.1 C.2.1 dX0_rankFrom_63 hl rfl xt_inc (by decide) rfl (fun ls hl => ?_)
            replace hl : lv_has ls 8 [(5, .int (nI (i + 1))), (6, .long (lN (v * (xe w sy p (y % 4) i)))), (0, .ref (ad 0)), (1, .int (nI p)), (2, .int (nI y)), (3, .long (lN v))] := hl
            refine lv_goto C.1 C.2.1 dX0_rankFrom_66 (tgt := 18) (by decide) ?_
            exact ih18 _ (by omega) (i + 1) wc2 rv kv rfl (by omega) (xq_zero hS0 hpn (by omega) (by rw [← hls, ← hv]; exact hz) hg2) ls _ _ (lv_sub hl [0, 2, 3, 4, 5] rfl) hW
          · refine lv_aload_n C.1 C.2.1 dX0_rankFrom_48 rfl (lv_at hl 2 rfl) ?_
            refine lv_iload_n C.1 C.2.1 dX0_rankFrom_49 rfl (lv_at hl 3 rfl) ?_
            refine xt_iconst C 1 dX0_rankFrom_50 (by decide +kernel) ?_
            refine xt_iadd C dX0_rankFrom_51 ?_
            refine lv_iload_n C.1 C.2.1 dX0_rankFrom_52 rfl (lv_at hl 4 rfl) ?_
            refine xt_iconst C 2 dX0_rankFrom_53 (by decide +kernel) ?_
            refine xt_shl2 C dX0_rankFrom_54 (by omega) ?_
            refine lv_iload C.1 C.2.1 dX0_rankFrom_55 (lv_at hl 1 rfl) ?_
            refine xt_ior4 C dX0_rankFrom_57 (by omega) ?_
            refine lv_lload C.1 C.2.1 dX0_rankFrom_58 (lv_at hl 0 rfl) ?_
            refine xt_cvd hA hW (xt_runV C hW.1 hW.2.1 cwX0_X0_rankFrom (ih S K n wc2 dn w lw sy sb sh rv kv dr (p + 1) (y * 4 + i) (v * (xe w sy p (y % 4) i)) (a * S + i) g2 (by omega) (hn6) (hS3) (hS0) (hw) (hsy) (by rw [hy, ms_pk_snoc (show i < S by omega)]) (by rw [hls, hv, ← ms_wt_snoc (xe_0 w sy) (show i < S by omega)]) (h44) (xq_snl haS (by omega)) (hg2)) rfl rfl rfl hl.1 (rest := []) rfl (Nat.le_of_ble_eq_true rfl) ⟨(by show (r + 2) + 1 ≤ r + 1 + 2; omega), (by show 8 + (8 + 11) + 40 * (r + 2) ≤ 40 * (r + 1 + 2); omega)⟩ ⟨Nat.zero_le _, Nat.zero_le _⟩ dX0_rankFrom_60) (fun u H locs hp60 hW => ?_)
            obtain ⟨wc_60, rw_60, rk_60⟩ := u
            replace hW : xt_W D A ss.heap (xX ad cI cL S K n wc_60 dn w lw sy sb sh rw_60 rk_60 dr) H locs := hW
            replace hp60 : ∃ g2, ms_rr (ms_wt (xe w sy) S n) (ms_pk S n) ((a * S + i + 1) * S ^ r) wc_60 rw_60 rk_60 g2 := hp60
            refine lv_iinc (k := 1) C.1 C.2.1 dX0_rankFrom_63 hl rfl xt_inc (by decide) rfl (fun ls hl => ?_)
            replace hl : lv_has ls 8 [(5, .int (nI (i + 1))), (6, .long (lN (v * (xe w sy p (y % 4) i)))), (0, .ref (ad 0)), (1, .int (nI p)), (2, .int (nI y)), (3, .long (lN v))] := hl
            refine W.eq (g2 := F0 mi 66 ls []) rfl ?_
            refine lv_goto C.1 C.2.1 dX0_rankFrom_66 (tgt := 18) (by decide) ?_
            exact ih18 _ (by omega) (i + 1) wc_60 rw_60 rk_60 rfl (by omega) (hp60) ls _ _ (lv_sub hl [0, 2, 3, 4, 5] rfl) hW
    exact lp18 _ 0 wc rw rk rfl (Nat.zero_le _) (⟨g, by rw [← xq_k0]; exact hrr⟩) ls _ _ (lv_sub hl [0, 1, 2, 3, 4] rfl) hW
  · exfalso
    omega
theorem cx_rankFrom (l : Launch) (D : va_G) (cI cL : ClassId) (ad : Nat → Nat) : ∀ r : Nat, xq_RF l D cI cL ad r
  | 0 => cx_rankFrom_0 l D cI cL ad
  | r + 1 => cx_rankFrom_s l D cI cL ad r (cx_rankFrom l D cI cL ad r)
end
section
def xq_ok (S n : Nat) (w sy sb sh : Nat → Nat) (wc : Nat) (rw rk : Nat → Nat) : Prop :=
  (∀ q t, q < n → t < S → sb (q * 3 + t) = ms_bf (xe w sy) S q t) ∧ (∀ q t, q < n → t < S → sh (q * 3 + t) = ms_bh (xe w sy) S n (n - 1 - q) t) ∧ ∃ g, ms_rr (ms_wt (xe w sy) S n) (ms_pk S n) (S ^ n) wc rw rk g
theorem xq_fill {wv : Nat → Nat} {i k : Nat} (h : ∀ j, j < i → wv j = k) : ∀ j, j < i + 1 → va_up wv i k j = k := by
  intro j hj
  by_cases e : j = i
  · rw [e, xq_up]
  · rw [xq_un e]
    exact h j (by omega)
set_option maxHeartbeats 4000000 in
set_option maxRecDepth 100000 in
theorem cj_fill (l : Launch) (D : va_G) (cI cL : ClassId) (ad : Nat → Nat) (S K n wc dn : Nat) (w lw sy sb sh rw rk dr : Nat → Nat) (k : Nat) : xt_M l yJ7_fill cJ7_fill 4 none 0 D cI cL [.ref (ad 1), .int (nI k)] (xX ad cI cL S K n wc dn w lw sy sb sh rw rk dr) (xt_Qv D cI cL (xX ad cI cL S K n wc dn w lw sy sb sh rw rk dr) (fun (u : (Nat → Nat)) => ∀ j, j < 36 → u j = k) (fun u => xX ad cI cL S K n wc dn u lw sy sb sh rw rk dr)) := by
  refine xt_start (own := RJ7) rfl (by decide) (Nat.le_of_ble_eq_true rfl) (fun pg ev ss mi args below meth cd A Q ls C hE hA hl hW => ?_)
  replace hl : lv_has ls 4 [(0, .ref (ad 1)), (1, .int (nI k))] := hl
  refine xt_iconst C 0 dJ7_fill_0 (by decide +kernel) ?_
  refine lv_istore_n C.1 C.2.1 dJ7_fill_1 rfl hl (by decide) rfl (fun ls hl => ?_)
  replace hl : lv_has ls 4 [(2, .int (nI 0)), (0, .ref (ad 1)), (1, .int (nI k))] := hl
  refine lv_aload_n C.1 C.2.1 dJ7_fill_2 rfl (lv_at hl 1 rfl) ?_
  refine va_alen (v := nI 36) C.1 C.2.1 C.K hW.1 1 0 rfl rfl rfl dJ7_fill_3 ?_
  refine lv_istore_n C.1 C.2.1 dJ7_fill_4 rfl hl (by decide) rfl (fun ls hl => ?_)
  replace hl : lv_has ls 4 [(3, .int (nI 36)), (2, .int (nI 0)), (0, .ref (ad 1)), (1, .int (nI k))] := hl
  have lp5 : ∀ (q : Nat) (i : Nat) (wv : Nat → Nat), 36 - i = q → (i ≤ 36) → (∀ j, j < i → wv j = k) → ∀ (ls : Array Slot) (H : Heap) (locs : List Loc), lv_has ls 4 [(2, .int (nI i)), (3, .int (nI 36)), (0, .ref (ad 1)), (1, .int (nI k))] → xt_W D A ss.heap (xX ad cI cL S K n wc dn wv lw sy sb sh rw rk dr) H locs → W pg l ev (xt_R 0) ss mi args below meth cd H locs 0 0 Q (F0 mi 5 ls []) := by
    intro q
    induction q using Nat.strongRecOn with
    | _ q ih5 =>
      intro i wv hq5 hi hv ls H locs hl hW
      refine lv_iload_n C.1 C.2.1 dJ7_fill_5 rfl (lv_at hl 0 rfl) ?_
      refine lv_iload_n C.1 C.2.1 dJ7_fill_6 rfl (lv_at hl 1 rfl) ?_
      refine xt_icmp_ge C (by omega) (by omega) dJ7_fill_7 (tgt := 20) (by decide) (fun h7 => ?_) (fun h7 => ?_)
      · exact xt_vret C hE wv hW (fun j hj => hv j (by omega)) dJ7_fill_20
      · refine lv_aload_n C.1 C.2.1 dJ7_fill_10 rfl (lv_at hl 2 rfl) ?_
        refine lv_iload_n C.1 C.2.1 dJ7_fill_11 rfl (lv_at hl 0 rfl) ?_
        refine lv_iload_n C.1 C.2.1 dJ7_fill_12 rfl (lv_at hl 3 rfl) ?_
        refine xt_iast C hW 1 rfl (by decide) dJ7_fill_13 (by omega) (fun H locs hW => ?_)
        replace hW : xt_W D A ss.heap (xX ad cI cL S K n wc dn (va_up wv i k) lw sy sb sh rw rk dr) H locs := hW
        refine lv_iinc (k := 0) C.1 C.2.1 dJ7_fill_14 hl rfl xt_inc (by decide) rfl (fun ls hl => ?_)
        replace hl : lv_has ls 4 [(2, .int (nI (i + 1))), (3, .int (nI 36)), (0, .ref (ad 1)), (1, .int (nI k))] := hl
        refine lv_goto C.1 C.2.1 dJ7_fill_17 (tgt := 5) (by decide) ?_
        exact ih5 _ (by omega) (i + 1) (va_up wv i k) rfl (by omega) (xq_fill hv) ls _ _ (lv_sub hl [0, 1, 2, 3] rfl) hW
  exact lp5 _ 0 w rfl (Nat.zero_le _) (fun j h => absurd h (Nat.not_lt_zero j)) ls _ _ (lv_sub hl [1, 0, 2, 3] rfl) hW
set_option maxHeartbeats 4000000 in
set_option maxRecDepth 100000 in
theorem cx_reckon (l : Launch) (D : va_G) (cI cL : ClassId) (ad : Nat → Nat) (S K n wc dn : Nat) (w lw sy sb sh rw rk dr : Nat → Nat) (hn6 : n ≤ 6) (hS3 : S ≤ 3) (hS0 : 0 < S) (hw : ∀ i, i < 36 → w i ≤ 9) (hsy : ∀ p, p < n → sy p < 4) : xt_M l yX0_reckon cX0_reckon 1 none 9 D cI cL [.ref (ad 0)] (xX ad cI cL S K n wc dn w lw sy sb sh rw rk dr) (xt_Qv D cI cL (xX ad cI cL S K n wc dn w lw sy sb sh rw rk dr) (fun (u : (Nat → Nat) × (Nat → Nat) × (Nat) × (Nat → Nat) × (Nat → Nat)) => xq_ok S n w sy u.1 u.2.1 u.2.2.1 u.2.2.2.1 u.2.2.2.2) (fun u => xX ad cI cL S K n u.2.2.1 dn w lw sy u.1 u.2.1 u.2.2.2.1 u.2.2.2.2 dr)) := by
  refine xt_start (own := RX0) rfl (by decide) (Nat.le_of_ble_eq_true rfl) (fun pg ev ss mi args below meth cd A Q ls C hE hA hl hW => ?_)
  replace hl : lv_has ls 1 [(0, .ref (ad 0))] := hl
  refine lv_aload_n C.1 C.2.1 dX0_reckon_0 rfl (lv_at hl 0 rfl) ?_
  refine xt_cvd hA hW (xt_runV C hW.1 hW.2.1 cwX0_X0_sumBefore (cx_sumBefore l D cI cL ad S K n wc dn w lw sy sb sh rw rk dr (by omega) (by omega) (by omega) (hw) (hsy)) rfl rfl rfl hl.1 (rest := []) rfl (Nat.le_of_ble_eq_true rfl) ⟨(Nat.le_of_ble_eq_true rfl), (Nat.le_of_ble_eq_true rfl)⟩ ⟨Nat.zero_le _, Nat.zero_le _⟩ dX0_reckon_1) (fun u H locs hp1 hW => ?_)
  obtain ⟨sb_1, rfl⟩ : ∃ z, z = u := ⟨_, rfl⟩
  replace hW : xt_W D A ss.heap (xX ad cI cL S K n wc dn w lw sy sb_1 sh rw rk dr) H locs := hW
  replace hp1 : ∀ q t, q < n → t < S → sb_1 (q * 3 + t) = ms_bf (xe w sy) S q t := hp1
  refine lv_aload_n C.1 C.2.1 dX0_reckon_4 rfl (lv_at hl 0 rfl) ?_
  refine xt_cvd hA hW (xt_runV C hW.1 hW.2.1 cwX0_X0_sumBehind (cx_sumBehind l D cI cL ad S K n wc dn w lw sy sb_1 sh rw rk dr (by omega) (by omega) (by omega) (hw) (hsy)) rfl rfl rfl hl.1 (rest := []) rfl (Nat.le_of_ble_eq_true rfl) ⟨(Nat.le_of_ble_eq_true rfl), (Nat.le_of_ble_eq_true rfl)⟩ ⟨Nat.zero_le _, Nat.zero_le _⟩ dX0_reckon_5) (fun u H locs hp5 hW => ?_)
  obtain ⟨sh_5, rfl⟩ : ∃ z, z = u := ⟨_, rfl⟩
  replace hW : xt_W D A ss.heap (xX ad cI cL S K n wc dn w lw sy sb_1 sh_5 rw rk dr) H locs := hW
  replace hp5 : ∀ q t, q < n → t < S → sh_5 (q * 3 + t) = ms_bh (xe w sy) S n (n - 1 - q) t := hp5
  refine lv_aload_n C.1 C.2.1 dX0_reckon_8 rfl (lv_at hl 0 rfl) ?_
  refine xt_iconst C 0 dX0_reckon_9 (by decide +kernel) ?_
  refine xt_put (ty := .int) xt_inX0 tyX0 tyX0_ok nmX0 C hW 0 rfl rfl 8 (by decide) rfl flX0_wayCount rfl (by decide +kernel) rfl rfl (Nat.le_of_ble_eq_true rfl) dX0_reckon_10 (fun H locs hW => ?_)
  replace hW : xt_W D A ss.heap (xX ad cI cL S K n 0 dn w lw sy sb_1 sh_5 rw rk dr) H locs := hW
  refine lv_aload_n C.1 C.2.1 dX0_reckon_13 rfl (lv_at hl 0 rfl) ?_
  refine xt_iconst C 0 dX0_reckon_14 (by decide +kernel) ?_
  refine xt_iconst C 0 dX0_reckon_15 (by decide +kernel) ?_
  refine xt_lconst C 1 dX0_reckon_16 (by decide +kernel) ?_
  refine xt_cvd hA hW (xt_runV C hW.1 hW.2.1 cwX0_X0_rankFrom (cx_rankFrom l D cI cL ad n S K n 0 dn w lw sy sb_1 sh_5 rw rk dr 0 0 1 0 (fun _ => 0) (Nat.zero_add n) (hn6) (hS3) (hS0) (hw) (hsy) (rfl) (rfl) (Nat.one_ne_zero) (Nat.one_pos) (by rw [Nat.zero_mul]; exact ms_rr_0 _ _ _ _ _)) rfl rfl rfl hl.1 (rest := []) rfl (Nat.le_of_ble_eq_true rfl) ⟨(by show (n + 2) + 1 ≤ 9; omega), (by show 8 + (8 + 11) + 40 * (n + 2) ≤ 40 * 9; omega)⟩ ⟨Nat.zero_le _, Nat.zero_le _⟩ dX0_reckon_17) (fun u H locs hp17 hW => ?_)
  obtain ⟨wc_17, rw_17, rk_17⟩ := u
  replace hW : xt_W D A ss.heap (xX ad cI cL S K n wc_17 dn w lw sy sb_1 sh_5 rw_17 rk_17 dr) H locs := hW
  replace hp17 : ∃ g2, ms_rr (ms_wt (xe w sy) S n) (ms_pk S n) ((0 + 1) * S ^ n) wc_17 rw_17 rk_17 g2 := hp17
  refine W.eq (g2 := F0 mi 20 ls []) rfl ?_
  exact xt_vret C hE (sb_1, sh_5, wc_17, rw_17, rk_17) hW (by rw [Nat.zero_add, Nat.one_mul] at hp17; exact ⟨hp1, hp5, hp17⟩) dX0_reckon_20
set_option maxHeartbeats 4000000 in
set_option maxRecDepth 100000 in
theorem cx_startAnew (l : Launch) (D : va_G) (cI cL : ClassId) (ad : Nat → Nat) (S K n wc dn : Nat) (w lw sy sb sh rw rk dr : Nat → Nat) (a : Nat) (b : Nat) (ha1 : 1 ≤ a) (ha3 : a ≤ 3) : xt_M l yX0_startAnew cX0_startAnew 3 none 10 D cI cL [.ref (ad 0), .int (nI a), .int (nI b)] (xX ad cI cL S K n wc dn w lw sy sb sh rw rk dr) (xt_Qv D cI cL (xX ad cI cL S K n wc dn w lw sy sb sh rw rk dr) (fun (u : (Nat → Nat) × (Nat → Nat) × (Nat → Nat) × (Nat) × (Nat → Nat) × (Nat → Nat)) => (∀ j, j < 36 → u.1 j = 1) ∧ xq_ok a 0 u.1 sy u.2.1 u.2.2.1 u.2.2.2.1 u.2.2.2.2.1 u.2.2.2.2.2) (fun u => xX ad cI cL a b 0 u.2.2.2.1 0 u.1 lw sy u.2.1 u.2.2.1 u.2.2.2.2.1 u.2.2.2.2.2 dr)) := by
  refine xt_start (own := RX0) rfl (by decide) (Nat.le_of_ble_eq_true rfl) (fun pg ev ss mi args below meth cd A Q ls C hE hA hl hW => ?_)
  replace hl : lv_has ls 3 [(0, .ref (ad 0)), (1, .int (nI a)), (2, .int (nI b))] := hl
  refine lv_aload_n C.1 C.2.1 dX0_startAnew_0 rfl (lv_at hl 0 rfl) ?_
  refine lv_iload_n C.1 C.2.1 dX0_startAnew_1 rfl (lv_at hl 1 rfl) ?_
  refine xt_put (ty := .int) xt_inX0 tyX0 tyX0_ok nmX0 C hW 0 rfl rfl 0 (by decide) rfl flX0_stateCount rfl (by decide +kernel) rfl rfl (Nat.le_of_ble_eq_true rfl) dX0_startAnew_2 (fun H locs hW => ?_)
  replace hW : xt_W D A ss.heap (xX ad cI cL a K n wc dn w lw sy sb sh rw rk dr) H locs := hW
  refine lv_aload_n C.1 C.2.1 dX0_startAnew_5 rfl (lv_at hl 0 rfl) ?_
  refine lv_iload_n C.1 C.2.1 dX0_startAnew_6 rfl (lv_at hl 2 rfl) ?_
  refine xt_put (ty := .int) xt_inX0 tyX0 tyX0_ok nmX0 C hW 0 rfl rfl 1 (by decide) rfl flX0_symbolCount rfl (by decide +kernel) rfl rfl (Nat.le_of_ble_eq_true rfl) dX0_startAnew_7 (fun H locs hW => ?_)
  replace hW : xt_W D A ss.heap (xX ad cI cL a b n wc dn w lw sy sb sh rw rk dr) H locs := hW
  refine lv_aload_n C.1 C.2.1 dX0_startAnew_10 rfl (lv_at hl 0 rfl) ?_
  refine xt_iconst C 0 dX0_startAnew_11 (by decide +kernel) ?_
  refine xt_put (ty := .int) xt_inX0 tyX0 tyX0_ok nmX0 C hW 0 rfl rfl 4 (by decide) rfl flX0_seenCount rfl (by decide +kernel) rfl rfl (Nat.le_of_ble_eq_true rfl) dX0_startAnew_12 (fun H locs hW => ?_)
  replace hW : xt_W D A ss.heap (xX ad cI cL a b 0 wc dn w lw sy sb sh rw rk dr) H locs := hW
  refine lv_aload_n C.1 C.2.1 dX0_startAnew_15 rfl (lv_at hl 0 rfl) ?_
  refine xt_iconst C 0 dX0_startAnew_16 (by decide +kernel) ?_
  refine xt_put (ty := .int) xt_inX0 tyX0 tyX0_ok nmX0 C hW 0 rfl rfl 11 (by decide) rfl flX0_drawnCount rfl (by decide +kernel) rfl rfl (Nat.le_of_ble_eq_true rfl) dX0_startAnew_17 (fun H locs hW => ?_)
  replace hW : xt_W D A ss.heap (xX ad cI cL a b 0 wc 0 w lw sy sb sh rw rk dr) H locs := hW
  refine W.eq (g2 := F0 mi 20 ls []) rfl ?_
  refine lv_aload_n C.1 C.2.1 dX0_startAnew_20 rfl (lv_at hl 0 rfl) ?_
  refine xt_get xt_inX0 C hW 0 rfl rfl 2 (by decide) rfl flX0_weights rfl dX0_startAnew_21 ?_
  refine xt_iconst C 1 dX0_startAnew_24 (by decide +kernel) ?_
  refine xt_cvd hA hW (xt_runS C hW.1 hW.2.1 cwX0_J7_fill (cj_fill l D cI cL ad a b 0 wc 0 w lw sy sb sh rw rk dr 1) rfl hl.1 (rest := []) rfl (Nat.le_of_ble_eq_true rfl) ⟨(Nat.le_of_ble_eq_true rfl), (Nat.le_of_ble_eq_true rfl)⟩ ⟨Nat.zero_le _, Nat.zero_le _⟩ dX0_startAnew_25) (fun u H locs hp25 hW => ?_)
  obtain ⟨w_25, rfl⟩ : ∃ z, z = u := ⟨_, rfl⟩
  replace hW : xt_W D A ss.heap (xX ad cI cL a b 0 wc 0 w_25 lw sy sb sh rw rk dr) H locs := hW
  replace hp25 : ∀ j, j < 36 → w_25 j = 1 := hp25
  refine lv_aload_n C.1 C.2.1 dX0_startAnew_28 rfl (lv_at hl 0 rfl) ?_
  refine xt_cvd hA hW (xt_runV C hW.1 hW.2.1 cwX0_X0_reckon (cx_reckon l D cI cL ad a b 0 wc 0 w_25 lw sy sb sh rw rk dr (by omega) (by omega) (by omega) (fun i h => by rw [hp25 i h]; decide) (fun p h => absurd h (Nat.not_lt_zero p))) rfl rfl rfl hl.1 (rest := []) rfl (Nat.le_of_ble_eq_true rfl) ⟨(Nat.le_of_ble_eq_true rfl), (Nat.le_of_ble_eq_true rfl)⟩ ⟨Nat.zero_le _, Nat.zero_le _⟩ dX0_startAnew_29) (fun u H locs hp29 hW => ?_)
  obtain ⟨sb_29, sh_29, wc_29, rw_29, rk_29⟩ := u
  replace hW : xt_W D A ss.heap (xX ad cI cL a b 0 wc_29 0 w_25 lw sy sb_29 sh_29 rw_29 rk_29 dr) H locs := hW
  replace hp29 : xq_ok a 0 w_25 sy sb_29 sh_29 wc_29 rw_29 rk_29 := hp29
  exact xt_vret C hE (w_25, sb_29, sh_29, wc_29, rw_29, rk_29) hW (⟨hp25, hp29⟩) dX0_startAnew_32
end
section
theorem xq_no1 {q : Int32} {n : Nat} (hn : n < 2 ^ 31) (h : q < 0) : ¬ ∃ j, j < n ∧ q = nI j := by
  rintro ⟨j, hj, rfl⟩
  exact nI_pos (by omega) h
theorem xq_no2 {q : Int32} {n : Nat} (hn : n < 2 ^ 31) (h : nI n ≤ q) : ¬ ∃ j, j < n ∧ q = nI j := by
  rintro ⟨j, hj, rfl⟩
  have := (nI_leI hn (by omega)).mp h
  omega
theorem xq_yes {q : Int32} {n : Nat} (hn : n < 2 ^ 31) (h1 : ¬ q < 0) (h2 : ¬ nI n ≤ q) : ∃ j, j < n ∧ q = nI j := by
  rcases pk_ix q hn with h | h | h
  · exact absurd h h1
  · exact absurd h h2
  · exact h
theorem xq_sw3 {k : Int32} (h0 : ¬ k = nI 0) (h1 : ¬ k = nI 1) (h2 : ¬ k = nI 2) : k.toInt < 0 ∨ 2 < k.toInt := by
  by_cases h : k < 0
  · left
    have := Int32.lt_iff_toInt_lt.mp h
    rw [Int32.toInt_zero] at this
    exact this
  · right
    obtain ⟨j, hj, rfl⟩ := nI_of h
    rw [nI_toInt hj]
    have a0 : j ≠ 0 := fun q => h0 (by rw [q])
    have a1 : j ≠ 1 := fun q => h1 (by rw [q])
    have a2 : j ≠ 2 := fun q => h2 (by rw [q])
    omega
/-- a weight that is there -/
def xt_ok (S K : Nat) (kd ro co : Int32) (a b c : Nat) : Prop := kd = nI a ∧ ro = nI b ∧ co = nI c ∧ ((a = 0 ∧ b = 0 ∧ c < S) ∨ (a = 1 ∧ b < S ∧ c < S) ∨ (a = 2 ∧ b < S ∧ c < K))
theorem xq_okn {S K : Nat} {kd ro co : Int32} {a m n : Nat} (hS : S < 2 ^ 31) (hK : K < 2 ^ 31) (hm : m < 2 ^ 31) (hn : n < 2 ^ 31) (hd : kd = nI a) (ha : a < 3) (hmm : ∀ b c, ((a = 0 ∧ b = 0 ∧ c < S) ∨ (a = 1 ∧ b < S ∧ c < S) ∨ (a = 2 ∧ b < S ∧ c < K)) ↔ b < m ∧ c < n) (h : ro < 0 ∨ nI m ≤ ro ∨ co < 0 ∨ nI n ≤ co) : ¬ ∃ a b c, xt_ok S K kd ro co a b c := by
  rintro ⟨a', b, c, e1, rfl, rfl, hk⟩
  have ea : a' = a := by
    rw [hd] at e1
    exact ((nI_eq (by omega) (by omega)).mp e1).symm
  subst ea
  obtain ⟨h1, h2⟩ := (hmm b c).mp hk
  rcases h with h | h | h | h
  · exact nI_pos (by omega) h
  · have := (nI_leI hm (by omega)).mp h
    omega
  · exact nI_pos (by omega) h
  · have := (nI_leI hn (by omega)).mp h
    omega
theorem xq_oky {S K : Nat} {kd ro co : Int32} {a m n : Nat} (hm : m < 2 ^ 31) (hn : n < 2 ^ 31) (hd : kd = nI a) (hmm : ∀ b c, ((a = 0 ∧ b = 0 ∧ c < S) ∨ (a = 1 ∧ b < S ∧ c < S) ∨ (a = 2 ∧ b < S ∧ c < K)) ↔ b < m ∧ c < n) (h1 : ¬ ro < 0) (h2 : ¬ nI m ≤ ro) (h3 : ¬ co < 0) (h4 : ¬ nI n ≤ co) : ∃ a b c, xt_ok S K kd ro co a b c := by
  obtain ⟨b, hb, rfl⟩ := xq_yes hm h1 h2
  obtain ⟨c, hc, rfl⟩ := xq_yes hn h3 h4
  exact ⟨a, b, c, hd, rfl, rfl, (hmm b c).mpr ⟨hb, hc⟩⟩
theorem xq_okx {S K : Nat} {kd ro co : Int32} (h0 : ¬ kd = nI 0) (h1 : ¬ kd = nI 1) (h2 : ¬ kd = nI 2) : ¬ ∃ a b c, xt_ok S K kd ro co a b c := by
  rintro ⟨a, b, c, e, -, -, hk⟩
  rcases hk with h | h | h
  · exact h0 (by rw [e, h.1])
  · exact h1 (by rw [e, h.1])
  · exact h2 (by rw [e, h.1])
theorem xq_rk1 {q : Int32} {wc : Nat} (h : nI 12 ≤ q) : ¬ ∃ j, j < min wc 12 ∧ q = nI j := by
  rintro ⟨j, hj, rfl⟩
  have := (nI_leI (by omega) (by omega)).mp h
  omega
theorem xq_rk2 {q : Int32} {wc : Nat} (hwc : wc < 2 ^ 30) (h : nI wc ≤ q) : ¬ ∃ j, j < min wc 12 ∧ q = nI j := by
  rintro ⟨j, hj, rfl⟩
  have := (nI_leI (by omega) (by omega)).mp h
  omega
theorem xq_rk3 {q : Int32} {wc : Nat} (hwc : wc < 2 ^ 30) (h1 : ¬ q < 0) (h2 : ¬ nI 12 ≤ q) (h3 : ¬ nI wc ≤ q) : ∃ j, j < min wc 12 ∧ q = nI j := by
  obtain ⟨j, hj, rfl⟩ := xq_yes (by omega) h1 h2
  refine ⟨j, ?_, rfl⟩
  have : ¬ wc ≤ j := fun q => h3 ((nI_leI (by omega) (by omega)).mpr q)
  omega
theorem xq_neg1 {S K : Nat} {kd ro co : Int32} (hS : S ≤ 3) (h : ro < 0) : ¬ ∃ a b c, xt_ok S K kd ro co a b c := by
  rintro ⟨a, b, c, -, rfl, -, hk⟩
  exact nI_pos (by omega) h
set_option maxHeartbeats 4000000 in
set_option maxRecDepth 100000 in
theorem cx_rowsOf (l : Launch) (D : va_G) (cI cL : ClassId) (ad : Nat → Nat) (S K n wc dn : Nat) (w lw sy sb sh rw rk dr : Nat → Nat) (k : Int32) : xt_M l yX0_rowsOf cX0_rowsOf 2 (some .int) 0 D cI cL [.ref (ad 0), .int k] (xX ad cI cL S K n wc dn w lw sy sb sh rw rk dr) (xt_Qi D cI cL (xX ad cI cL S K n wc dn w lw sy sb sh rw rk dr) (fun (r : Int32) (u : Unit) => (k = nI 0 ∧ r = nI 1) ∨ (k = nI 1 ∧ r = nI S) ∨ (k = nI 2 ∧ r = nI S) ∨ (¬ k = nI 0 ∧ ¬ k = nI 1 ∧ ¬ k = nI 2 ∧ r = nI 0)) (fun u => xX ad cI cL S K n wc dn w lw sy sb sh rw rk dr)) := by
  refine xt_start (own := RX0) rfl (by decide) (Nat.le_of_ble_eq_true rfl) (fun pg ev ss mi args below meth cd A Q ls C hE hA hl hW => ?_)
  replace hl : lv_has ls 2 [(0, .ref (ad 0)), (1, .int k)] := hl
  refine lv_iload_n C.1 C.2.1 dX0_rowsOf_0 rfl (lv_at hl 1 rfl) ?_
  by_cases e0 : k = nI 0
  · subst e0
    replace hl : lv_has ls 2 [(0, .ref (ad 0)), (1, .int (nI 0))] := hl
    refine lv_tableIn C.1 C.2.1 dX0_rowsOf_1 (off := 27) (tgt := 28) (by decide +kernel) (by decide +kernel) (by decide +kernel) (by decide) ?_
    refine xt_iconst C 1 dX0_rowsOf_28 (by decide +kernel) ?_
    exact xt_iret C hE () hW (Or.inl ⟨rfl, rfl⟩) dX0_rowsOf_29
  by_cases e1 : k = nI 1
  · subst e1
    replace hl : lv_has ls 2 [(0, .ref (ad 0)), (1, .int (nI 1))] := hl
    refine lv_tableIn C.1 C.2.1 dX0_rowsOf_1 (off := 29) (tgt := 30) (by decide +kernel) (by decide +kernel) (by decide +kernel) (by decide) ?_
    refine lv_aload_n C.1 C.2.1 dX0_rowsOf_30 rfl (lv_at hl 0 rfl) ?_
    refine xt_get xt_inX0 C hW 0 rfl rfl 0 (by decide) rfl flX0_stateCount rfl dX0_rowsOf_31 ?_
    exact xt_iret C hE () hW (Or.inr (Or.inl ⟨rfl, rfl⟩)) dX0_rowsOf_34
  by_cases e2 : k = nI 2
  · subst e2
    replace hl : lv_has ls 2 [(0, .ref (ad 0)), (1, .int (nI 2))] := hl
    refine lv_tableIn C.1 C.2.1 dX0_rowsOf_1 (off := 29) (tgt := 30) (by decide +kernel) (by decide +kernel) (by decide +kernel) (by decide) ?_
    refine lv_aload_n C.1 C.2.1 dX0_rowsOf_30 rfl (lv_at hl 0 rfl) ?_
    refine xt_get xt_inX0 C hW 0 rfl rfl 0 (by decide) rfl flX0_stateCount rfl dX0_rowsOf_31 ?_
    exact xt_iret C hE () hW (Or.inr (Or.inr (Or.inl ⟨rfl, rfl⟩))) dX0_rowsOf_34
  refine lv_tableOut C.1 C.2.1 dX0_rowsOf_1 (xq_sw3 e0 e1 e2) (tgt := 35) (by decide) ?_
  refine xt_iconst C 0 dX0_rowsOf_35 (by decide +kernel) ?_
  exact xt_iret C hE () hW (Or.inr (Or.inr (Or.inr ⟨e0, e1, e2, rfl⟩))) dX0_rowsOf_36
set_option maxHeartbeats 4000000 in
set_option maxRecDepth 100000 in
theorem cx_columnsOf (l : Launch) (D : va_G) (cI cL : ClassId) (ad : Nat → Nat) (S K n wc dn : Nat) (w lw sy sb sh rw rk dr : Nat → Nat) (a : Nat) (ha30 : a < 2 ^ 30) : xt_M l yX0_columnsOf cX0_columnsOf 2 (some .int) 0 D cI cL [.ref (ad 0), .int (nI a)] (xX ad cI cL S K n wc dn w lw sy sb sh rw rk dr) (xt_Qi D cI cL (xX ad cI cL S K n wc dn w lw sy sb sh rw rk dr) (fun (r : Int32) (u : Unit) => r = nI (if a = 2 then K else S)) (fun u => xX ad cI cL S K n wc dn w lw sy sb sh rw rk dr)) := by
  refine xt_start (own := RX0) rfl (by decide) (Nat.le_of_ble_eq_true rfl) (fun pg ev ss mi args below meth cd A Q ls C hE hA hl hW => ?_)
  replace hl : lv_has ls 2 [(0, .ref (ad 0)), (1, .int (nI a))] := hl
  refine lv_iload_n C.1 C.2.1 dX0_columnsOf_0 rfl (lv_at hl 1 rfl) ?_
  refine xt_iconst C 2 dX0_columnsOf_1 (by decide +kernel) ?_
  refine xt_icmp_ne C (by omega) (by omega) dX0_columnsOf_2 (tgt := 12) (by decide) (fun h2 => ?_) (fun h2 => ?_)
  · refine lv_aload_n C.1 C.2.1 dX0_columnsOf_12 rfl (lv_at hl 0 rfl) ?_
    refine xt_get xt_inX0 C hW 0 rfl rfl 0 (by decide) rfl flX0_stateCount rfl dX0_columnsOf_13 ?_
    exact xt_iret C hE () hW (by show nI _ = nI _; first | rw [if_pos h2] | rw [if_neg h2]) dX0_columnsOf_16
  · refine lv_aload_n C.1 C.2.1 dX0_columnsOf_5 rfl (lv_at hl 0 rfl) ?_
    refine xt_get xt_inX0 C hW 0 rfl rfl 1 (by decide) rfl flX0_symbolCount rfl dX0_columnsOf_6 ?_
    refine lv_goto C.1 C.2.1 dX0_columnsOf_9 (tgt := 16) (by decide) ?_
    exact xt_iret C hE () hW (by show nI _ = nI _; first | rw [if_pos h2] | rw [if_neg h2]) dX0_columnsOf_16
set_option maxHeartbeats 4000000 in
set_option maxRecDepth 100000 in
theorem cx_hasPlace (l : Launch) (D : va_G) (cI cL : ClassId) (ad : Nat → Nat) (S K n wc dn : Nat) (w lw sy sb sh rw rk dr : Nat → Nat) (q : Int32) (hn6 : n ≤ 6) : xt_M l yX0_hasPlace cX0_hasPlace 2 (some .boolean) 0 D cI cL [.ref (ad 0), .int q] (xX ad cI cL S K n wc dn w lw sy sb sh rw rk dr) (xt_Qi D cI cL (xX ad cI cL S K n wc dn w lw sy sb sh rw rk dr) (fun (r : Int32) (u : Unit) => (r = nI 1 ∧ ∃ z1, z1 < n ∧ q = nI z1) ∨ (r = nI 0 ∧ ¬ ∃ z1, z1 < n ∧ q = nI z1)) (fun u => xX ad cI cL S K n wc dn w lw sy sb sh rw rk dr)) := by
  refine xt_start (own := RX0) rfl (by decide) (Nat.le_of_ble_eq_true rfl) (fun pg ev ss mi args below meth cd A Q ls C hE hA hl hW => ?_)
  replace hl : lv_has ls 2 [(0, .ref (ad 0)), (1, .int q)] := hl
  refine lv_iload_n C.1 C.2.1 dX0_hasPlace_0 rfl (lv_at hl 1 rfl) ?_
  refine lv_if_lt C.1 C.2.1 dX0_hasPlace_1 (tgt := 16) (by decide) (fun h1 => ?_) (fun h1 => ?_)
  · refine xt_iconst C 0 dX0_hasPlace_16 (by decide +kernel) ?_
    exact xt_zret C hE () hW (by first | exact Or.inl rfl | exact Or.inr rfl) (by first | exact Or.inr ⟨rfl, xq_no1 (by omega) h1⟩ | exact Or.inr ⟨rfl, xq_no2 (by omega) h9⟩ | exact Or.inl ⟨rfl, xq_yes (by omega) h1 h9⟩) dX0_hasPlace_17
  · refine lv_iload_n C.1 C.2.1 dX0_hasPlace_4 rfl (lv_at hl 1 rfl) ?_
    refine lv_aload_n C.1 C.2.1 dX0_hasPlace_5 rfl (lv_at hl 0 rfl) ?_
    refine xt_get xt_inX0 C hW 0 rfl rfl 4 (by decide) rfl flX0_seenCount rfl dX0_hasPlace_6 ?_
    refine lv_icmp_ge C.1 C.2.1 dX0_hasPlace_9 (tgt := 16) (by decide) (fun h9 => ?_) (fun h9 => ?_)
    · refine xt_iconst C 0 dX0_hasPlace_16 (by decide +kernel) ?_
      exact xt_zret C hE () hW (by first | exact Or.inl rfl | exact Or.inr rfl) (by first | exact Or.inr ⟨rfl, xq_no1 (by omega) h1⟩ | exact Or.inr ⟨rfl, xq_no2 (by omega) h9⟩ | exact Or.inl ⟨rfl, xq_yes (by omega) h1 h9⟩) dX0_hasPlace_17
    · refine xt_iconst C 1 dX0_hasPlace_12 (by decide +kernel) ?_
      refine lv_goto C.1 C.2.1 dX0_hasPlace_13 (tgt := 17) (by decide) ?_
      exact xt_zret C hE () hW (by first | exact Or.inl rfl | exact Or.inr rfl) (by first | exact Or.inr ⟨rfl, xq_no1 (by omega) h1⟩ | exact Or.inr ⟨rfl, xq_no2 (by omega) h9⟩ | exact Or.inl ⟨rfl, xq_yes (by omega) h1 h9⟩) dX0_hasPlace_17
set_option maxHeartbeats 4000000 in
set_option maxRecDepth 100000 in
theorem cx_hasState (l : Launch) (D : va_G) (cI cL : ClassId) (ad : Nat → Nat) (S K n wc dn : Nat) (w lw sy sb sh rw rk dr : Nat → Nat) (q : Int32) (hS3 : S ≤ 3) : xt_M l yX0_hasState cX0_hasState 2 (some .boolean) 0 D cI cL [.ref (ad 0), .int q] (xX ad cI cL S K n wc dn w lw sy sb sh rw rk dr) (xt_Qi D cI cL (xX ad cI cL S K n wc dn w lw sy sb sh rw rk dr) (fun (r : Int32) (u : Unit) => (r = nI 1 ∧ ∃ z1, z1 < S ∧ q = nI z1) ∨ (r = nI 0 ∧ ¬ ∃ z1, z1 < S ∧ q = nI z1)) (fun u => xX ad cI cL S K n wc dn w lw sy sb sh rw rk dr)) := by
  refine xt_start (own := RX0) rfl (by decide) (Nat.le_of_ble_eq_true rfl) (fun pg ev ss mi args below meth cd A Q ls C hE hA hl hW => ?_)
  replace hl : lv_has ls 2 [(0, .ref (ad 0)), (1, .int q)] := hl
  refine lv_iload_n C.1 C.2.1 dX0_hasState_0 rfl (lv_at hl 1 rfl) ?_
  refine lv_if_lt C.1 C.2.1 dX0_hasState_1 (tgt := 16) (by decide) (fun h1 => ?_) (fun h1 => ?_)
  · refine xt_iconst C 0 dX0_hasState_16 (by decide +kernel) ?_
    exact xt_zret C hE () hW (by first | exact Or.inl rfl | exact Or.inr rfl) (by first | exact Or.inr ⟨rfl, xq_no1 (by omega) h1⟩ | exact Or.inr ⟨rfl, xq_no2 (by omega) h9⟩ | exact Or.inl ⟨rfl, xq_yes (by omega) h1 h9⟩) dX0_hasState_17
  · refine lv_iload_n C.1 C.2.1 dX0_hasState_4 rfl (lv_at hl 1 rfl) ?_
    refine lv_aload_n C.1 C.2.1 dX0_hasState_5 rfl (lv_at hl 0 rfl) ?_
    refine xt_get xt_inX0 C hW 0 rfl rfl 0 (by decide) rfl flX0_stateCount rfl dX0_hasState_6 ?_
    refine lv_icmp_ge C.1 C.2.1 dX0_hasState_9 (tgt := 16) (by decide) (fun h9 => ?_) (fun h9 => ?_)
    · refine xt_iconst C 0 dX0_hasState_16 (by decide +kernel) ?_
      exact xt_zret C hE () hW (by first | exact Or.inl rfl | exact Or.inr rfl) (by first | exact Or.inr ⟨rfl, xq_no1 (by omega) h1⟩ | exact Or.inr ⟨rfl, xq_no2 (by omega) h9⟩ | exact Or.inl ⟨rfl, xq_yes (by omega) h1 h9⟩) dX0_hasState_17
    · refine xt_iconst C 1 dX0_hasState_12 (by decide +kernel) ?_
      refine lv_goto C.1 C.2.1 dX0_hasState_13 (tgt := 17) (by decide) ?_
      exact xt_zret C hE () hW (by first | exact Or.inl rfl | exact Or.inr rfl) (by first | exact Or.inr ⟨rfl, xq_no1 (by omega) h1⟩ | exact Or.inr ⟨rfl, xq_no2 (by omega) h9⟩ | exact Or.inl ⟨rfl, xq_yes (by omega) h1 h9⟩) dX0_hasState_17
set_option maxHeartbeats 4000000 in
set_option maxRecDepth 100000 in
theorem cx_hasRank (l : Launch) (D : va_G) (cI cL : ClassId) (ad : Nat → Nat) (S K n wc dn : Nat) (w lw sy sb sh rw rk dr : Nat → Nat) (q : Int32) (hwc : wc < 2 ^ 30) : xt_M l yX0_hasRank cX0_hasRank 2 (some .boolean) 0 D cI cL [.ref (ad 0), .int q] (xX ad cI cL S K n wc dn w lw sy sb sh rw rk dr) (xt_Qi D cI cL (xX ad cI cL S K n wc dn w lw sy sb sh rw rk dr) (fun (r : Int32) (u : Unit) => (r = nI 1 ∧ ∃ z1, z1 < min wc 12 ∧ q = nI z1) ∨ (r = nI 0 ∧ ¬ ∃ z1, z1 < min wc 12 ∧ q = nI z1)) (fun u => xX ad cI cL S K n wc dn w lw sy sb sh rw rk dr)) := by
  refine xt_start (own := RX0) rfl (by decide) (Nat.le_of_ble_eq_true rfl) (fun pg ev ss mi args below meth cd A Q ls C hE hA hl hW => ?_)
  replace hl : lv_has ls 2 [(0, .ref (ad 0)), (1, .int q)] := hl
  refine lv_iload_n C.1 C.2.1 dX0_hasRank_0 rfl (lv_at hl 1 rfl) ?_
  refine lv_if_lt C.1 C.2.1 dX0_hasRank_1 (tgt := 22) (by decide) (fun h1 => ?_) (fun h1 => ?_)
  · refine xt_iconst C 0 dX0_hasRank_22 (by decide +kernel) ?_
    exact xt_zret C hE () hW (by first | exact Or.inl rfl | exact Or.inr rfl) (by first | exact Or.inr ⟨rfl, xq_no1 (by omega) h1⟩ | exact Or.inr ⟨rfl, xq_rk1 h7⟩ | exact Or.inr ⟨rfl, xq_rk2 hwc h15⟩ | exact Or.inl ⟨rfl, xq_rk3 hwc h1 h7 h15⟩) dX0_hasRank_23
  · refine lv_iload_n C.1 C.2.1 dX0_hasRank_4 rfl (lv_at hl 1 rfl) ?_
    refine xt_bipush C 12 dX0_hasRank_5 (by decide +kernel) ?_
    refine lv_icmp_ge C.1 C.2.1 dX0_hasRank_7 (tgt := 22) (by decide) (fun h7 => ?_) (fun h7 => ?_)
    · refine xt_iconst C 0 dX0_hasRank_22 (by decide +kernel) ?_
      exact xt_zret C hE () hW (by first | exact Or.inl rfl | exact Or.inr rfl) (by first | exact Or.inr ⟨rfl, xq_no1 (by omega) h1⟩ | exact Or.inr ⟨rfl, xq_rk1 h7⟩ | exact Or.inr ⟨rfl, xq_rk2 hwc h15⟩ | exact Or.inl ⟨rfl, xq_rk3 hwc h1 h7 h15⟩) dX0_hasRank_23
    · refine lv_iload_n C.1 C.2.1 dX0_hasRank_10 rfl (lv_at hl 1 rfl) ?_
      refine lv_aload_n C.1 C.2.1 dX0_hasRank_11 rfl (lv_at hl 0 rfl) ?_
      refine xt_get xt_inX0 C hW 0 rfl rfl 8 (by decide) rfl flX0_wayCount rfl dX0_hasRank_12 ?_
      refine lv_icmp_ge C.1 C.2.1 dX0_hasRank_15 (tgt := 22) (by decide) (fun h15 => ?_) (fun h15 => ?_)
      · refine xt_iconst C 0 dX0_hasRank_22 (by decide +kernel) ?_
        exact xt_zret C hE () hW (by first | exact Or.inl rfl | exact Or.inr rfl) (by first | exact Or.inr ⟨rfl, xq_no1 (by omega) h1⟩ | exact Or.inr ⟨rfl, xq_rk1 h7⟩ | exact Or.inr ⟨rfl, xq_rk2 hwc h15⟩ | exact Or.inl ⟨rfl, xq_rk3 hwc h1 h7 h15⟩) dX0_hasRank_23
      · refine xt_iconst C 1 dX0_hasRank_18 (by decide +kernel) ?_
        refine lv_goto C.1 C.2.1 dX0_hasRank_19 (tgt := 23) (by decide) ?_
        exact xt_zret C hE () hW (by first | exact Or.inl rfl | exact Or.inr rfl) (by first | exact Or.inr ⟨rfl, xq_no1 (by omega) h1⟩ | exact Or.inr ⟨rfl, xq_rk1 h7⟩ | exact Or.inr ⟨rfl, xq_rk2 hwc h15⟩ | exact Or.inl ⟨rfl, xq_rk3 hwc h1 h7 h15⟩) dX0_hasRank_23
set_option maxHeartbeats 4000000 in
set_option maxRecDepth 100000 in
theorem cx_hasWeight (l : Launch) (D : va_G) (cI cL : ClassId) (ad : Nat → Nat) (S K n wc dn : Nat) (w lw sy sb sh rw rk dr : Nat → Nat) (kd : Int32) (ro : Int32) (co : Int32) (hS3 : S ≤ 3) (hK4 : K ≤ 4) : xt_M l yX0_hasWeight cX0_hasWeight 4 (some .boolean) 1 D cI cL [.ref (ad 0), .int kd, .int ro, .int co] (xX ad cI cL S K n wc dn w lw sy sb sh rw rk dr) (xt_Qi D cI cL (xX ad cI cL S K n wc dn w lw sy sb sh rw rk dr) (fun (r : Int32) (u : Unit) => (r = nI 1 ∧ ∃ a b c, xt_ok S K kd ro co a b c) ∨ (r = nI 0 ∧ ¬ ∃ a b c, xt_ok S K kd ro co a b c)) (fun u => xX ad cI cL S K n wc dn w lw sy sb sh rw rk dr)) := by
  refine xt_start (own := RX0) rfl (by decide) (Nat.le_of_ble_eq_true rfl) (fun pg ev ss mi args below meth cd A Q ls C hE hA hl hW => ?_)
  replace hl : lv_has ls 4 [(0, .ref (ad 0)), (1, .int kd), (2, .int ro), (3, .int co)] := hl
  refine lv_iload_n C.1 C.2.1 dX0_hasWeight_0 rfl (lv_at hl 2 rfl) ?_
  refine lv_if_lt C.1 C.2.1 dX0_hasWeight_1 (tgt := 30) (by decide) (fun h1 => ?_) (fun h1 => ?_)
  · refine xt_iconst C 0 dX0_hasWeight_30 (by decide +kernel) ?_
    exact xt_zret C hE () hW (by first | exact Or.inl rfl | exact Or.inr rfl) (by first | exact Or.inr ⟨rfl, hx⟩ | exact Or.inl ⟨rfl, xq_oky (a := 0) (m := 1) (n := S) (by omega) (by omega) rfl (fun b c => by omega) h1 h10 h14 h23⟩ | exact Or.inr ⟨rfl, xq_okn (a := 0) (m := 1) (n := S) (by omega) (by omega) (by omega) (by omega) rfl (by omega) (fun b c => by omega) (Or.inr (Or.inl h10))⟩ | exact Or.inr ⟨rfl, xq_okn (a := 0) (m := 1) (n := S) (by omega) (by omega) (by omega) (by omega) rfl (by omega) (fun b c => by omega) (Or.inr (Or.inr (Or.inl h14)))⟩ | exact Or.inr ⟨rfl, xq_okn (a := 0) (m := 1) (n := S) (by omega) (by omega) (by omega) (by omega) rfl (by omega) (fun b c => by omega) (Or.inr (Or.inr (Or.inr h23)))⟩ | exact Or.inl ⟨rfl, xq_oky (a := 1) (m := S) (n := S) (by omega) (by omega) rfl (fun b c => by omega) h1 h10 h14 h23⟩ | exact Or.inr ⟨rfl, xq_okn (a := 1) (m := S) (n := S) (by omega) (by omega) (by omega) (by omega) rfl (by omega) (fun b c => by omega) (Or.inr (Or.inl h10))⟩ | exact Or.inr ⟨rfl, xq_okn (a := 1) (m := S) (n := S) (by omega) (by omega) (by omega) (by omega) rfl (by omega) (fun b c => by omega) (Or.inr (Or.inr (Or.inl h14)))⟩ | exact Or.inr ⟨rfl, xq_okn (a := 1) (m := S) (n := S) (by omega) (by omega) (by omega) (by omega) rfl (by omega) (fun b c => by omega) (Or.inr (Or.inr (Or.inr h23)))⟩ | exact Or.inl ⟨rfl, xq_oky (a := 2) (m := S) (n := K) (by omega) (by omega) rfl (fun b c => by omega) h1 h10 h14 h23⟩ | exact Or.inr ⟨rfl, xq_okn (a := 2) (m := S) (n := K) (by omega) (by omega) (by omega) (by omega) rfl (by omega) (fun b c => by omega) (Or.inr (Or.inl h10))⟩ | exact Or.inr ⟨rfl, xq_okn (a := 2) (m := S) (n := K) (by omega) (by omega) (by omega) (by omega) rfl (by omega) (fun b c => by omega) (Or.inr (Or.inr (Or.inl h14)))⟩ | exact Or.inr ⟨rfl, xq_okn (a := 2) (m := S) (n := K) (by omega) (by omega) (by omega) (by omega) rfl (by omega) (fun b c => by omega) (Or.inr (Or.inr (Or.inr h23)))⟩ | exact Or.inr ⟨rfl, xq_neg1 (by omega) h1⟩) dX0_hasWeight_31
  · refine lv_iload_n C.1 C.2.1 dX0_hasWeight_4 rfl (lv_at hl 2 rfl) ?_
    refine lv_aload_n C.1 C.2.1 dX0_hasWeight_5 rfl (lv_at hl 0 rfl) ?_
    refine lv_iload_n C.1 C.2.1 dX0_hasWeight_6 rfl (lv_at hl 1 rfl) ?_
    refine xt_ci hA hW (xt_runV C hW.1 hW.2.1 cwX0_X0_rowsOf (cx_rowsOf l D cI cL ad S K n wc dn w lw sy sb sh rw rk dr kd) rfl rfl rfl hl.1 (rest := [.int ro]) rfl (Nat.le_of_ble_eq_true rfl) ⟨(Nat.le_of_ble_eq_true rfl), (Nat.le_of_ble_eq_true rfl)⟩ ⟨Nat.zero_le _, Nat.zero_le _⟩ dX0_hasWeight_7) (fun r7 u H locs hp7 hW => ?_)
    replace hW : xt_W D A ss.heap (xX ad cI cL S K n wc dn w lw sy sb sh rw rk dr) H locs := hW
    replace hp7 : (kd = nI 0 ∧ r7 = nI 1) ∨ (kd = nI 1 ∧ r7 = nI S) ∨ (kd = nI 2 ∧ r7 = nI S) ∨ (¬ kd = nI 0 ∧ ¬ kd = nI 1 ∧ ¬ kd = nI 2 ∧ r7 = nI 0) := hp7
    rcases hp7 with ⟨rfl, rfl⟩ | ⟨rfl, rfl⟩ | ⟨rfl, rfl⟩ | ⟨x0, x1, x2, rfl⟩
    · have hkd : nI 0 = nI 0 := rfl
      replace hl : lv_has ls 4 [(0, .ref (ad 0)), (1, .int (nI 0)), (2, .int ro), (3, .int co)] := hl
      refine lv_icmp_ge C.1 C.2.1 dX0_hasWeight_10 (tgt := 30) (by decide) (fun h10 => ?_) (fun h10 => ?_)
      · refine xt_iconst C 0 dX0_hasWeight_30 (by decide +kernel) ?_
        exact xt_zret C hE () hW (by first | exact Or.inl rfl | exact Or.inr rfl) (by first | exact Or.inr ⟨rfl, hx⟩ | exact Or.inl ⟨rfl, xq_oky (a := 0) (m := 1) (n := S) (by omega) (by omega) rfl (fun b c => by omega) h1 h10 h14 h23⟩ | exact Or.inr ⟨rfl, xq_okn (a := 0) (m := 1) (n := S) (by omega) (by omega) (by omega) (by omega) rfl (by omega) (fun b c => by omega) (Or.inr (Or.inl h10))⟩ | exact Or.inr ⟨rfl, xq_okn (a := 0) (m := 1) (n := S) (by omega) (by omega) (by omega) (by omega) rfl (by omega) (fun b c => by omega) (Or.inr (Or.inr (Or.inl h14)))⟩ | exact Or.inr ⟨rfl, xq_okn (a := 0) (m := 1) (n := S) (by omega) (by omega) (by omega) (by omega) rfl (by omega) (fun b c => by omega) (Or.inr (Or.inr (Or.inr h23)))⟩ | exact Or.inl ⟨rfl, xq_oky (a := 1) (m := S) (n := S) (by omega) (by omega) rfl (fun b c => by omega) h1 h10 h14 h23⟩ | exact Or.inr ⟨rfl, xq_okn (a := 1) (m := S) (n := S) (by omega) (by omega) (by omega) (by omega) rfl (by omega) (fun b c => by omega) (Or.inr (Or.inl h10))⟩ | exact Or.inr ⟨rfl, xq_okn (a := 1) (m := S) (n := S) (by omega) (by omega) (by omega) (by omega) rfl (by omega) (fun b c => by omega) (Or.inr (Or.inr (Or.inl h14)))⟩ | exact Or.inr ⟨rfl, xq_okn (a := 1) (m := S) (n := S) (by omega) (by omega) (by omega) (by omega) rfl (by omega) (fun b c => by omega) (Or.inr (Or.inr (Or.inr h23)))⟩ | exact Or.inl ⟨rfl, xq_oky (a := 2) (m := S) (n := K) (by omega) (by omega) rfl (fun b c => by omega) h1 h10 h14 h23⟩ | exact Or.inr ⟨rfl, xq_okn (a := 2) (m := S) (n := K) (by omega) (by omega) (by omega) (by omega) rfl (by omega) (fun b c => by omega) (Or.inr (Or.inl h10))⟩ | exact Or.inr ⟨rfl, xq_okn (a := 2) (m := S) (n := K) (by omega) (by omega) (by omega) (by omega) rfl (by omega) (fun b c => by omega) (Or.inr (Or.inr (Or.inl h14)))⟩ | exact Or.inr ⟨rfl, xq_okn (a := 2) (m := S) (n := K) (by omega) (by omega) (by omega) (by omega) rfl (by omega) (fun b c => by omega) (Or.inr (Or.inr (Or.inr h23)))⟩ | exact Or.inr ⟨rfl, xq_neg1 (by omega) h1⟩) dX0_hasWeight_31
      · refine lv_iload_n C.1 C.2.1 dX0_hasWeight_13 rfl (lv_at hl 3 rfl) ?_
        refine lv_if_lt C.1 C.2.1 dX0_hasWeight_14 (tgt := 30) (by decide) (fun h14 => ?_) (fun h14 => ?_)
        · refine xt_iconst C 0 dX0_hasWeight_30 (by decide +kernel) ?_
          exact xt_zret C hE () hW (by first | exact Or.inl rfl | exact Or.inr rfl) (by first | exact Or.inr ⟨rfl, hx⟩ | exact Or.inl ⟨rfl, xq_oky (a := 0) (m := 1) (n := S) (by omega) (by omega) rfl (fun b c => by omega) h1 h10 h14 h23⟩ | exact Or.inr ⟨rfl, xq_okn (a := 0) (m := 1) (n := S) (by omega) (by omega) (by omega) (by omega) rfl (by omega) (fun b c => by omega) (Or.inr (Or.inl h10))⟩ | exact Or.inr ⟨rfl, xq_okn (a := 0) (m := 1) (n := S) (by omega) (by omega) (by omega) (by omega) rfl (by omega) (fun b c => by omega) (Or.inr (Or.inr (Or.inl h14)))⟩ | exact Or.inr ⟨rfl, xq_okn (a := 0) (m := 1) (n := S) (by omega) (by omega) (by omega) (by omega) rfl (by omega) (fun b c => by omega) (Or.inr (Or.inr (Or.inr h23)))⟩ | exact Or.inl ⟨rfl, xq_oky (a := 1) (m := S) (n := S) (by omega) (by omega) rfl (fun b c => by omega) h1 h10 h14 h23⟩ | exact Or.inr ⟨rfl, xq_okn (a := 1) (m := S) (n := S) (by omega) (by omega) (by omega) (by omega) rfl (by omega) (fun b c => by omega) (Or.inr (Or.inl h10))⟩ | exact Or.inr ⟨rfl, xq_okn (a := 1) (m := S) (n := S) (by omega) (by omega) (by omega) (by omega) rfl (by omega) (fun b c => by omega) (Or.inr (Or.inr (Or.inl h14)))⟩ | exact Or.inr ⟨rfl, xq_okn (a := 1) (m := S) (n := S) (by omega) (by omega) (by omega) (by omega) rfl (by omega) (fun b c => by omega) (Or.inr (Or.inr (Or.inr h23)))⟩ | exact Or.inl ⟨rfl, xq_oky (a := 2) (m := S) (n := K) (by omega) (by omega) rfl (fun b c => by omega) h1 h10 h14 h23⟩ | exact Or.inr ⟨rfl, xq_okn (a := 2) (m := S) (n := K) (by omega) (by omega) (by omega) (by omega) rfl (by omega) (fun b c => by omega) (Or.inr (Or.inl h10))⟩ | exact Or.inr ⟨rfl, xq_okn (a := 2) (m := S) (n := K) (by omega) (by omega) (by omega) (by omega) rfl (by omega) (fun b c => by omega) (Or.inr (Or.inr (Or.inl h14)))⟩ | exact Or.inr ⟨rfl, xq_okn (a := 2) (m := S) (n := K) (by omega) (by omega) (by omega) (by omega) rfl (by omega) (fun b c => by omega) (Or.inr (Or.inr (Or.inr h23)))⟩ | exact Or.inr ⟨rfl, xq_neg1 (by omega) h1⟩) dX0_hasWeight_31
        · refine lv_iload_n C.1 C.2.1 dX0_hasWeight_17 rfl (lv_at hl 3 rfl) ?_
          refine lv_aload_n C.1 C.2.1 dX0_hasWeight_18 rfl (lv_at hl 0 rfl) ?_
          refine lv_iload_n C.1 C.2.1 dX0_hasWeight_19 rfl (lv_at hl 1 rfl) ?_
          refine xt_ci hA hW (xt_runV C hW.1 hW.2.1 cwX0_X0_columnsOf (cx_columnsOf l D cI cL ad S K n wc dn w lw sy sb sh rw rk dr 0 (by omega)) rfl rfl rfl hl.1 (rest := [.int co]) rfl (Nat.le_of_ble_eq_true rfl) ⟨(Nat.le_of_ble_eq_true rfl), (Nat.le_of_ble_eq_true rfl)⟩ ⟨Nat.zero_le _, Nat.zero_le _⟩ dX0_hasWeight_20) (fun r20 u H locs hp20 hW => ?_)
          replace hW : xt_W D A ss.heap (xX ad cI cL S K n wc dn w lw sy sb sh rw rk dr) H locs := hW
          subst hp20
          refine lv_icmp_ge C.1 C.2.1 dX0_hasWeight_23 (tgt := 30) (by decide) (fun h23 => ?_) (fun h23 => ?_)
          · refine xt_iconst C 0 dX0_hasWeight_30 (by decide +kernel) ?_
            exact xt_zret C hE () hW (by first | exact Or.inl rfl | exact Or.inr rfl) (by first | exact Or.inr ⟨rfl, hx⟩ | exact Or.inl ⟨rfl, xq_oky (a := 0) (m := 1) (n := S) (by omega) (by omega) rfl (fun b c => by omega) h1 h10 h14 h23⟩ | exact Or.inr ⟨rfl, xq_okn (a := 0) (m := 1) (n := S) (by omega) (by omega) (by omega) (by omega) rfl (by omega) (fun b c => by omega) (Or.inr (Or.inl h10))⟩ | exact Or.inr ⟨rfl, xq_okn (a := 0) (m := 1) (n := S) (by omega) (by omega) (by omega) (by omega) rfl (by omega) (fun b c => by omega) (Or.inr (Or.inr (Or.inl h14)))⟩ | exact Or.inr ⟨rfl, xq_okn (a := 0) (m := 1) (n := S) (by omega) (by omega) (by omega) (by omega) rfl (by omega) (fun b c => by omega) (Or.inr (Or.inr (Or.inr h23)))⟩ | exact Or.inl ⟨rfl, xq_oky (a := 1) (m := S) (n := S) (by omega) (by omega) rfl (fun b c => by omega) h1 h10 h14 h23⟩ | exact Or.inr ⟨rfl, xq_okn (a := 1) (m := S) (n := S) (by omega) (by omega) (by omega) (by omega) rfl (by omega) (fun b c => by omega) (Or.inr (Or.inl h10))⟩ | exact Or.inr ⟨rfl, xq_okn (a := 1) (m := S) (n := S) (by omega) (by omega) (by omega) (by omega) rfl (by omega) (fun b c => by omega) (Or.inr (Or.inr (Or.inl h14)))⟩ | exact Or.inr ⟨rfl, xq_okn (a := 1) (m := S) (n := S) (by omega) (by omega) (by omega) (by omega) rfl (by omega) (fun b c => by omega) (Or.inr (Or.inr (Or.inr h23)))⟩ | exact Or.inl ⟨rfl, xq_oky (a := 2) (m := S) (n := K) (by omega) (by omega) rfl (fun b c => by omega) h1 h10 h14 h23⟩ | exact Or.inr ⟨rfl, xq_okn (a := 2) (m := S) (n := K) (by omega) (by omega) (by omega) (by omega) rfl (by omega) (fun b c => by omega) (Or.inr (Or.inl h10))⟩ | exact Or.inr ⟨rfl, xq_okn (a := 2) (m := S) (n := K) (by omega) (by omega) (by omega) (by omega) rfl (by omega) (fun b c => by omega) (Or.inr (Or.inr (Or.inl h14)))⟩ | exact Or.inr ⟨rfl, xq_okn (a := 2) (m := S) (n := K) (by omega) (by omega) (by omega) (by omega) rfl (by omega) (fun b c => by omega) (Or.inr (Or.inr (Or.inr h23)))⟩ | exact Or.inr ⟨rfl, xq_neg1 (by omega) h1⟩) dX0_hasWeight_31
          · refine xt_iconst C 1 dX0_hasWeight_26 (by decide +kernel) ?_
            refine lv_goto C.1 C.2.1 dX0_hasWeight_27 (tgt := 31) (by decide) ?_
            exact xt_zret C hE () hW (by first | exact Or.inl rfl | exact Or.inr rfl) (by first | exact Or.inr ⟨rfl, hx⟩ | exact Or.inl ⟨rfl, xq_oky (a := 0) (m := 1) (n := S) (by omega) (by omega) rfl (fun b c => by omega) h1 h10 h14 h23⟩ | exact Or.inr ⟨rfl, xq_okn (a := 0) (m := 1) (n := S) (by omega) (by omega) (by omega) (by omega) rfl (by omega) (fun b c => by omega) (Or.inr (Or.inl h10))⟩ | exact Or.inr ⟨rfl, xq_okn (a := 0) (m := 1) (n := S) (by omega) (by omega) (by omega) (by omega) rfl (by omega) (fun b c => by omega) (Or.inr (Or.inr (Or.inl h14)))⟩ | exact Or.inr ⟨rfl, xq_okn (a := 0) (m := 1) (n := S) (by omega) (by omega) (by omega) (by omega) rfl (by omega) (fun b c => by omega) (Or.inr (Or.inr (Or.inr h23)))⟩ | exact Or.inl ⟨rfl, xq_oky (a := 1) (m := S) (n := S) (by omega) (by omega) rfl (fun b c => by omega) h1 h10 h14 h23⟩ | exact Or.inr ⟨rfl, xq_okn (a := 1) (m := S) (n := S) (by omega) (by omega) (by omega) (by omega) rfl (by omega) (fun b c => by omega) (Or.inr (Or.inl h10))⟩ | exact Or.inr ⟨rfl, xq_okn (a := 1) (m := S) (n := S) (by omega) (by omega) (by omega) (by omega) rfl (by omega) (fun b c => by omega) (Or.inr (Or.inr (Or.inl h14)))⟩ | exact Or.inr ⟨rfl, xq_okn (a := 1) (m := S) (n := S) (by omega) (by omega) (by omega) (by omega) rfl (by omega) (fun b c => by omega) (Or.inr (Or.inr (Or.inr h23)))⟩ | exact Or.inl ⟨rfl, xq_oky (a := 2) (m := S) (n := K) (by omega) (by omega) rfl (fun b c => by omega) h1 h10 h14 h23⟩ | exact Or.inr ⟨rfl, xq_okn (a := 2) (m := S) (n := K) (by omega) (by omega) (by omega) (by omega) rfl (by omega) (fun b c => by omega) (Or.inr (Or.inl h10))⟩ | exact Or.inr ⟨rfl, xq_okn (a := 2) (m := S) (n := K) (by omega) (by omega) (by omega) (by omega) rfl (by omega) (fun b c => by omega) (Or.inr (Or.inr (Or.inl h14)))⟩ | exact Or.inr ⟨rfl, xq_okn (a := 2) (m := S) (n := K) (by omega) (by omega) (by omega) (by omega) rfl (by omega) (fun b c => by omega) (Or.inr (Or.inr (Or.inr h23)))⟩ | exact Or.inr ⟨rfl, xq_neg1 (by omega) h1⟩) dX0_hasWeight_31
    · have hkd : nI 1 = nI 1 := rfl
      replace hl : lv_has ls 4 [(0, .ref (ad 0)), (1, .int (nI 1)), (2, .int ro), (3, .int co)] := hl
      refine lv_icmp_ge C.1 C.2.1 dX0_hasWeight_10 (tgt := 30) (by decide) (fun h10 => ?_) (fun h10 => ?_)
      · refine xt_iconst C 0 dX0_hasWeight_30 (by decide +kernel) ?_
        exact xt_zret C hE () hW (by first | exact Or.inl rfl | exact Or.inr rfl) (by first | exact Or.inr ⟨rfl, hx⟩ | exact Or.inl ⟨rfl, xq_oky (a := 0) (m := 1) (n := S) (by omega) (by omega) rfl (fun b c => by omega) h1 h10 h14 h23⟩ | exact Or.inr ⟨rfl, xq_okn (a := 0) (m := 1) (n := S) (by omega) (by omega) (by omega) (by omega) rfl (by omega) (fun b c => by omega) (Or.inr (Or.inl h10))⟩ | exact Or.inr ⟨rfl, xq_okn (a := 0) (m := 1) (n := S) (by omega) (by omega) (by omega) (by omega) rfl (by omega) (fun b c => by omega) (Or.inr (Or.inr (Or.inl h14)))⟩ | exact Or.inr ⟨rfl, xq_okn (a := 0) (m := 1) (n := S) (by omega) (by omega) (by omega) (by omega) rfl (by omega) (fun b c => by omega) (Or.inr (Or.inr (Or.inr h23)))⟩ | exact Or.inl ⟨rfl, xq_oky (a := 1) (m := S) (n := S) (by omega) (by omega) rfl (fun b c => by omega) h1 h10 h14 h23⟩ | exact Or.inr ⟨rfl, xq_okn (a := 1) (m := S) (n := S) (by omega) (by omega) (by omega) (by omega) rfl (by omega) (fun b c => by omega) (Or.inr (Or.inl h10))⟩ | exact Or.inr ⟨rfl, xq_okn (a := 1) (m := S) (n := S) (by omega) (by omega) (by omega) (by omega) rfl (by omega) (fun b c => by omega) (Or.inr (Or.inr (Or.inl h14)))⟩ | exact Or.inr ⟨rfl, xq_okn (a := 1) (m := S) (n := S) (by omega) (by omega) (by omega) (by omega) rfl (by omega) (fun b c => by omega) (Or.inr (Or.inr (Or.inr h23)))⟩ | exact Or.inl ⟨rfl, xq_oky (a := 2) (m := S) (n := K) (by omega) (by omega) rfl (fun b c => by omega) h1 h10 h14 h23⟩ | exact Or.inr ⟨rfl, xq_okn (a := 2) (m := S) (n := K) (by omega) (by omega) (by omega) (by omega) rfl (by omega) (fun b c => by omega) (Or.inr (Or.inl h10))⟩ | exact Or.inr ⟨rfl, xq_okn (a := 2) (m := S) (n := K) (by omega) (by omega) (by omega) (by omega) rfl (by omega) (fun b c => by omega) (Or.inr (Or.inr (Or.inl h14)))⟩ | exact Or.inr ⟨rfl, xq_okn (a := 2) (m := S) (n := K) (by omega) (by omega) (by omega) (by omega) rfl (by omega) (fun b c => by omega) (Or.inr (Or.inr (Or.inr h23)))⟩ | exact Or.inr ⟨rfl, xq_neg1 (by omega) h1⟩) dX0_hasWeight_31
      · refine lv_iload_n C.1 C.2.1 dX0_hasWeight_13 rfl (lv_at hl 3 rfl) ?_
        refine lv_if_lt C.1 C.2.1 dX0_hasWeight_14 (tgt := 30) (by decide) (fun h14 => ?_) (fun h14 => ?_)
        · refine xt_iconst C 0 dX0_hasWeight_30 (by decide +kernel) ?_
          exact xt_zret C hE () hW (by first | exact Or.inl rfl | exact Or.inr rfl) (by first | exact Or.inr ⟨rfl, hx⟩ | exact Or.inl ⟨rfl, xq_oky (a := 0) (m := 1) (n := S) (by omega) (by omega) rfl (fun b c => by omega) h1 h10 h14 h23⟩ | exact Or.inr ⟨rfl, xq_okn (a := 0) (m := 1) (n := S) (by omega) (by omega) (by omega) (by omega) rfl (by omega) (fun b c => by omega) (Or.inr (Or.inl h10))⟩ | exact Or.inr ⟨rfl, xq_okn (a := 0) (m := 1) (n := S) (by omega) (by omega) (by omega) (by omega) rfl (by omega) (fun b c => by omega) (Or.inr (Or.inr (Or.inl h14)))⟩ | exact Or.inr ⟨rfl, xq_okn (a := 0) (m := 1) (n := S) (by omega) (by omega) (by omega) (by omega) rfl (by omega) (fun b c => by omega) (Or.inr (Or.inr (Or.inr h23)))⟩ | exact Or.inl ⟨rfl, xq_oky (a := 1) (m := S) (n := S) (by omega) (by omega) rfl (fun b c => by omega) h1 h10 h14 h23⟩ | exact Or.inr ⟨rfl, xq_okn (a := 1) (m := S) (n := S) (by omega) (by omega) (by omega) (by omega) rfl (by omega) (fun b c => by omega) (Or.inr (Or.inl h10))⟩ | exact Or.inr ⟨rfl, xq_okn (a := 1) (m := S) (n := S) (by omega) (by omega) (by omega) (by omega) rfl (by omega) (fun b c => by omega) (Or.inr (Or.inr (Or.inl h14)))⟩ | exact Or.inr ⟨rfl, xq_okn (a := 1) (m := S) (n := S) (by omega) (by omega) (by omega) (by omega) rfl (by omega) (fun b c => by omega) (Or.inr (Or.inr (Or.inr h23)))⟩ | exact Or.inl ⟨rfl, xq_oky (a := 2) (m := S) (n := K) (by omega) (by omega) rfl (fun b c => by omega) h1 h10 h14 h23⟩ | exact Or.inr ⟨rfl, xq_okn (a := 2) (m := S) (n := K) (by omega) (by omega) (by omega) (by omega) rfl (by omega) (fun b c => by omega) (Or.inr (Or.inl h10))⟩ | exact Or.inr ⟨rfl, xq_okn (a := 2) (m := S) (n := K) (by omega) (by omega) (by omega) (by omega) rfl (by omega) (fun b c => by omega) (Or.inr (Or.inr (Or.inl h14)))⟩ | exact Or.inr ⟨rfl, xq_okn (a := 2) (m := S) (n := K) (by omega) (by omega) (by omega) (by omega) rfl (by omega) (fun b c => by omega) (Or.inr (Or.inr (Or.inr h23)))⟩ | exact Or.inr ⟨rfl, xq_neg1 (by omega) h1⟩) dX0_hasWeight_31
        · refine lv_iload_n C.1 C.2.1 dX0_hasWeight_17 rfl (lv_at hl 3 rfl) ?_
          refine lv_aload_n C.1 C.2.1 dX0_hasWeight_18 rfl (lv_at hl 0 rfl) ?_
          refine lv_iload_n C.1 C.2.1 dX0_hasWeight_19 rfl (lv_at hl 1 rfl) ?_
          refine xt_ci hA hW (xt_runV C hW.1 hW.2.1 cwX0_X0_columnsOf (cx_columnsOf l D cI cL ad S K n wc dn w lw sy sb sh rw rk dr 1 (by omega)) rfl rfl rfl hl.1 (rest := [.int co]) rfl (Nat.le_of_ble_eq_true rfl) ⟨(Nat.le_of_ble_eq_true rfl), (Nat.le_of_ble_eq_true rfl)⟩ ⟨Nat.zero_le _, Nat.zero_le _⟩ dX0_hasWeight_20) (fun r20 u H locs hp20 hW => ?_)
          replace hW : xt_W D A ss.heap (xX ad cI cL S K n wc dn w lw sy sb sh rw rk dr) H locs := hW
          subst hp20
          refine lv_icmp_ge C.1 C.2.1 dX0_hasWeight_23 (tgt := 30) (by decide) (fun h23 => ?_) (fun h23 => ?_)
          · refine xt_iconst C 0 dX0_hasWeight_30 (by decide +kernel) ?_
            exact xt_zret C hE () hW (by first | exact Or.inl rfl | exact Or.inr rfl) (by first | exact Or.inr ⟨rfl, hx⟩ | exact Or.inl ⟨rfl, xq_oky (a := 0) (m := 1) (n := S) (by omega) (by omega) rfl (fun b c => by omega) h1 h10 h14 h23⟩ | exact Or.inr ⟨rfl, xq_okn (a := 0) (m := 1) (n := S) (by omega) (by omega) (by omega) (by omega) rfl (by omega) (fun b c => by omega) (Or.inr (Or.inl h10))⟩ | exact Or.inr ⟨rfl, xq_okn (a := 0) (m := 1) (n := S) (by omega) (by omega) (by omega) (by omega) rfl (by omega) (fun b c => by omega) (Or.inr (Or.inr (Or.inl h14)))⟩ | exact Or.inr ⟨rfl, xq_okn (a := 0) (m := 1) (n := S) (by omega) (by omega) (by omega) (by omega) rfl (by omega) (fun b c => by omega) (Or.inr (Or.inr (Or.inr h23)))⟩ | exact Or.inl ⟨rfl, xq_oky (a := 1) (m := S) (n := S) (by omega) (by omega) rfl (fun b c => by omega) h1 h10 h14 h23⟩ | exact Or.inr ⟨rfl, xq_okn (a := 1) (m := S) (n := S) (by omega) (by omega) (by omega) (by omega) rfl (by omega) (fun b c => by omega) (Or.inr (Or.inl h10))⟩ | exact Or.inr ⟨rfl, xq_okn (a := 1) (m := S) (n := S) (by omega) (by omega) (by omega) (by omega) rfl (by omega) (fun b c => by omega) (Or.inr (Or.inr (Or.inl h14)))⟩ | exact Or.inr ⟨rfl, xq_okn (a := 1) (m := S) (n := S) (by omega) (by omega) (by omega) (by omega) rfl (by omega) (fun b c => by omega) (Or.inr (Or.inr (Or.inr h23)))⟩ | exact Or.inl ⟨rfl, xq_oky (a := 2) (m := S) (n := K) (by omega) (by omega) rfl (fun b c => by omega) h1 h10 h14 h23⟩ | exact Or.inr ⟨rfl, xq_okn (a := 2) (m := S) (n := K) (by omega) (by omega) (by omega) (by omega) rfl (by omega) (fun b c => by omega) (Or.inr (Or.inl h10))⟩ | exact Or.inr ⟨rfl, xq_okn (a := 2) (m := S) (n := K) (by omega) (by omega) (by omega) (by omega) rfl (by omega) (fun b c => by omega) (Or.inr (Or.inr (Or.inl h14)))⟩ | exact Or.inr ⟨rfl, xq_okn (a := 2) (m := S) (n := K) (by omega) (by omega) (by omega) (by omega) rfl (by omega) (fun b c => by omega) (Or.inr (Or.inr (Or.inr h23)))⟩ | exact Or.inr ⟨rfl, xq_neg1 (by omega) h1⟩) dX0_hasWeight_31
          · refine xt_iconst C 1 dX0_hasWeight_26 (by decide +kernel) ?_
            refine lv_goto C.1 C.2.1 dX0_hasWeight_27 (tgt := 31) (by decide) ?_
            exact xt_zret C hE () hW (by first | exact Or.inl rfl | exact Or.inr rfl) (by first | exact Or.inr ⟨rfl, hx⟩ | exact Or.inl ⟨rfl, xq_oky (a := 0) (m := 1) (n := S) (by omega) (by omega) rfl (fun b c => by omega) h1 h10 h14 h23⟩ | exact Or.inr ⟨rfl, xq_okn (a := 0) (m := 1) (n := S) (by omega) (by omega) (by omega) (by omega) rfl (by omega) (fun b c => by omega) (Or.inr (Or.inl h10))⟩ | exact Or.inr ⟨rfl, xq_okn (a := 0) (m := 1) (n := S) (by omega) (by omega) (by omega) (by omega) rfl (by omega) (fun b c => by omega) (Or.inr (Or.inr (Or.inl h14)))⟩ | exact Or.inr ⟨rfl, xq_okn (a := 0) (m := 1) (n := S) (by omega) (by omega) (by omega) (by omega) rfl (by omega) (fun b c => by omega) (Or.inr (Or.inr (Or.inr h23)))⟩ | exact Or.inl ⟨rfl, xq_oky (a := 1) (m := S) (n := S) (by omega) (by omega) rfl (fun b c => by omega) h1 h10 h14 h23⟩ | exact Or.inr ⟨rfl, xq_okn (a := 1) (m := S) (n := S) (by omega) (by omega) (by omega) (by omega) rfl (by omega) (fun b c => by omega) (Or.inr (Or.inl h10))⟩ | exact Or.inr ⟨rfl, xq_okn (a := 1) (m := S) (n := S) (by omega) (by omega) (by omega) (by omega) rfl (by omega) (fun b c => by omega) (Or.inr (Or.inr (Or.inl h14)))⟩ | exact Or.inr ⟨rfl, xq_okn (a := 1) (m := S) (n := S) (by omega) (by omega) (by omega) (by omega) rfl (by omega) (fun b c => by omega) (Or.inr (Or.inr (Or.inr h23)))⟩ | exact Or.inl ⟨rfl, xq_oky (a := 2) (m := S) (n := K) (by omega) (by omega) rfl (fun b c => by omega) h1 h10 h14 h23⟩ | exact Or.inr ⟨rfl, xq_okn (a := 2) (m := S) (n := K) (by omega) (by omega) (by omega) (by omega) rfl (by omega) (fun b c => by omega) (Or.inr (Or.inl h10))⟩ | exact Or.inr ⟨rfl, xq_okn (a := 2) (m := S) (n := K) (by omega) (by omega) (by omega) (by omega) rfl (by omega) (fun b c => by omega) (Or.inr (Or.inr (Or.inl h14)))⟩ | exact Or.inr ⟨rfl, xq_okn (a := 2) (m := S) (n := K) (by omega) (by omega) (by omega) (by omega) rfl (by omega) (fun b c => by omega) (Or.inr (Or.inr (Or.inr h23)))⟩ | exact Or.inr ⟨rfl, xq_neg1 (by omega) h1⟩) dX0_hasWeight_31
    · have hkd : nI 2 = nI 2 := rfl
      replace hl : lv_has ls 4 [(0, .ref (ad 0)), (1, .int (nI 2)), (2, .int ro), (3, .int co)] := hl
      refine lv_icmp_ge C.1 C.2.1 dX0_hasWeight_10 (tgt := 30) (by decide) (fun h10 => ?_) (fun h10 => ?_)
      · refine xt_iconst C 0 dX0_hasWeight_30 (by decide +kernel) ?_
        exact xt_zret C hE () hW (by first | exact Or.inl rfl | exact Or.inr rfl) (by first | exact Or.inr ⟨rfl, hx⟩ | exact Or.inl ⟨rfl, xq_oky (a := 0) (m := 1) (n := S) (by omega) (by omega) rfl (fun b c => by omega) h1 h10 h14 h23⟩ | exact Or.inr ⟨rfl, xq_okn (a := 0) (m := 1) (n := S) (by omega) (by omega) (by omega) (by omega) rfl (by omega) (fun b c => by omega) (Or.inr (Or.inl h10))⟩ | exact Or.inr ⟨rfl, xq_okn (a := 0) (m := 1) (n := S) (by omega) (by omega) (by omega) (by omega) rfl (by omega) (fun b c => by omega) (Or.inr (Or.inr (Or.inl h14)))⟩ | exact Or.inr ⟨rfl, xq_okn (a := 0) (m := 1) (n := S) (by omega) (by omega) (by omega) (by omega) rfl (by omega) (fun b c => by omega) (Or.inr (Or.inr (Or.inr h23)))⟩ | exact Or.inl ⟨rfl, xq_oky (a := 1) (m := S) (n := S) (by omega) (by omega) rfl (fun b c => by omega) h1 h10 h14 h23⟩ | exact Or.inr ⟨rfl, xq_okn (a := 1) (m := S) (n := S) (by omega) (by omega) (by omega) (by omega) rfl (by omega) (fun b c => by omega) (Or.inr (Or.inl h10))⟩ | exact Or.inr ⟨rfl, xq_okn (a := 1) (m := S) (n := S) (by omega) (by omega) (by omega) (by omega) rfl (by omega) (fun b c => by omega) (Or.inr (Or.inr (Or.inl h14)))⟩ | exact Or.inr ⟨rfl, xq_okn (a := 1) (m := S) (n := S) (by omega) (by omega) (by omega) (by omega) rfl (by omega) (fun b c => by omega) (Or.inr (Or.inr (Or.inr h23)))⟩ | exact Or.inl ⟨rfl, xq_oky (a := 2) (m := S) (n := K) (by omega) (by omega) rfl (fun b c => by omega) h1 h10 h14 h23⟩ | exact Or.inr ⟨rfl, xq_okn (a := 2) (m := S) (n := K) (by omega) (by omega) (by omega) (by omega) rfl (by omega) (fun b c => by omega) (Or.inr (Or.inl h10))⟩ | exact Or.inr ⟨rfl, xq_okn (a := 2) (m := S) (n := K) (by omega) (by omega) (by omega) (by omega) rfl (by omega) (fun b c => by omega) (Or.inr (Or.inr (Or.inl h14)))⟩ | exact Or.inr ⟨rfl, xq_okn (a := 2) (m := S) (n := K) (by omega) (by omega) (by omega) (by omega) rfl (by omega) (fun b c => by omega) (Or.inr (Or.inr (Or.inr h23)))⟩ | exact Or.inr ⟨rfl, xq_neg1 (by omega) h1⟩) dX0_hasWeight_31
      · refine lv_iload_n C.1 C.2.1 dX0_hasWeight_13 rfl (lv_at hl 3 rfl) ?_
        refine lv_if_lt C.1 C.2.1 dX0_hasWeight_14 (tgt := 30) (by decide) (fun h14 => ?_) (fun h14 => ?_)
        · refine xt_iconst C 0 dX0_hasWeight_30 (by decide +kernel) ?_
          exact xt_zret C hE () hW (by first | exact Or.inl rfl | exact Or.inr rfl) (by first | exact Or.inr ⟨rfl, hx⟩ | exact Or.inl ⟨rfl, xq_oky (a := 0) (m := 1) (n := S) (by omega) (by omega) rfl (fun b c => by omega) h1 h10 h14 h23⟩ | exact Or.inr ⟨rfl, xq_okn (a := 0) (m := 1) (n := S) (by omega) (by omega) (by omega) (by omega) rfl (by omega) (fun b c => by omega) (Or.inr (Or.inl h10))⟩ | exact Or.inr ⟨rfl, xq_okn (a := 0) (m := 1) (n := S) (by omega) (by omega) (by omega) (by omega) rfl (by omega) (fun b c => by omega) (Or.inr (Or.inr (Or.inl h14)))⟩ | exact Or.inr ⟨rfl, xq_okn (a := 0) (m := 1) (n := S) (by omega) (by omega) (by omega) (by omega) rfl (by omega) (fun b c => by omega) (Or.inr (Or.inr (Or.inr h23)))⟩ | exact Or.inl ⟨rfl, xq_oky (a := 1) (m := S) (n := S) (by omega) (by omega) rfl (fun b c => by omega) h1 h10 h14 h23⟩ | exact Or.inr ⟨rfl, xq_okn (a := 1) (m := S) (n := S) (by omega) (by omega) (by omega) (by omega) rfl (by omega) (fun b c => by omega) (Or.inr (Or.inl h10))⟩ | exact Or.inr ⟨rfl, xq_okn (a := 1) (m := S) (n := S) (by omega) (by omega) (by omega) (by omega) rfl (by omega) (fun b c => by omega) (Or.inr (Or.inr (Or.inl h14)))⟩ | exact Or.inr ⟨rfl, xq_okn (a := 1) (m := S) (n := S) (by omega) (by omega) (by omega) (by omega) rfl (by omega) (fun b c => by omega) (Or.inr (Or.inr (Or.inr h23)))⟩ | exact Or.inl ⟨rfl, xq_oky (a := 2) (m := S) (n := K) (by omega) (by omega) rfl (fun b c => by omega) h1 h10 h14 h23⟩ | exact Or.inr ⟨rfl, xq_okn (a := 2) (m := S) (n := K) (by omega) (by omega) (by omega) (by omega) rfl (by omega) (fun b c => by omega) (Or.inr (Or.inl h10))⟩ | exact Or.inr ⟨rfl, xq_okn (a := 2) (m := S) (n := K) (by omega) (by omega) (by omega) (by omega) rfl (by omega) (fun b c => by omega) (Or.inr (Or.inr (Or.inl h14)))⟩ | exact Or.inr ⟨rfl, xq_okn (a := 2) (m := S) (n := K) (by omega) (by omega) (by omega) (by omega) rfl (by omega) (fun b c => by omega) (Or.inr (Or.inr (Or.inr h23)))⟩ | exact Or.inr ⟨rfl, xq_neg1 (by omega) h1⟩) dX0_hasWeight_31
        · refine lv_iload_n C.1 C.2.1 dX0_hasWeight_17 rfl (lv_at hl 3 rfl) ?_
          refine lv_aload_n C.1 C.2.1 dX0_hasWeight_18 rfl (lv_at hl 0 rfl) ?_
          refine lv_iload_n C.1 C.2.1 dX0_hasWeight_19 rfl (lv_at hl 1 rfl) ?_
          refine xt_ci hA hW (xt_runV C hW.1 hW.2.1 cwX0_X0_columnsOf (cx_columnsOf l D cI cL ad S K n wc dn w lw sy sb sh rw rk dr 2 (by omega)) rfl rfl rfl hl.1 (rest := [.int co]) rfl (Nat.le_of_ble_eq_true rfl) ⟨(Nat.le_of_ble_eq_true rfl), (Nat.le_of_ble_eq_true rfl)⟩ ⟨Nat.zero_le _, Nat.zero_le _⟩ dX0_hasWeight_20) (fun r20 u H locs hp20 hW => ?_)
          replace hW : xt_W D A ss.heap (xX ad cI cL S K n wc dn w lw sy sb sh rw rk dr) H locs := hW
          subst hp20
          refine lv_icmp_ge C.1 C.2.1 dX0_hasWeight_23 (tgt := 30) (by decide) (fun h23 => ?_) (fun h23 => ?_)
          · refine xt_iconst C 0 dX0_hasWeight_30 (by decide +kernel) ?_
            exact xt_zret C hE () hW (by first | exact Or.inl rfl | exact Or.inr rfl) (by first | exact Or.inr ⟨rfl, hx⟩ | exact Or.inl ⟨rfl, xq_oky (a := 0) (m := 1) (n := S) (by omega) (by omega) rfl (fun b c => by omega) h1 h10 h14 h23⟩ | exact Or.inr ⟨rfl, xq_okn (a := 0) (m := 1) (n := S) (by omega) (by omega) (by omega) (by omega) rfl (by omega) (fun b c => by omega) (Or.inr (Or.inl h10))⟩ | exact Or.inr ⟨rfl, xq_okn (a := 0) (m := 1) (n := S) (by omega) (by omega) (by omega) (by omega) rfl (by omega) (fun b c => by omega) (Or.inr (Or.inr (Or.inl h14)))⟩ | exact Or.inr ⟨rfl, xq_okn (a := 0) (m := 1) (n := S) (by omega) (by omega) (by omega) (by omega) rfl (by omega) (fun b c => by omega) (Or.inr (Or.inr (Or.inr h23)))⟩ | exact Or.inl ⟨rfl, xq_oky (a := 1) (m := S) (n := S) (by omega) (by omega) rfl (fun b c => by omega) h1 h10 h14 h23⟩ | exact Or.inr ⟨rfl, xq_okn (a := 1) (m := S) (n := S) (by omega) (by omega) (by omega) (by omega) rfl (by omega) (fun b c => by omega) (Or.inr (Or.inl h10))⟩ | exact Or.inr ⟨rfl, xq_okn (a := 1) (m := S) (n := S) (by omega) (by omega) (by omega) (by omega) rfl (by omega) (fun b c => by omega) (Or.inr (Or.inr (Or.inl h14)))⟩ | exact Or.inr ⟨rfl, xq_okn (a := 1) (m := S) (n := S) (by omega) (by omega) (by omega) (by omega) rfl (by omega) (fun b c => by omega) (Or.inr (Or.inr (Or.inr h23)))⟩ | exact Or.inl ⟨rfl, xq_oky (a := 2) (m := S) (n := K) (by omega) (by omega) rfl (fun b c => by omega) h1 h10 h14 h23⟩ | exact Or.inr ⟨rfl, xq_okn (a := 2) (m := S) (n := K) (by omega) (by omega) (by omega) (by omega) rfl (by omega) (fun b c => by omega) (Or.inr (Or.inl h10))⟩ | exact Or.inr ⟨rfl, xq_okn (a := 2) (m := S) (n := K) (by omega) (by omega) (by omega) (by omega) rfl (by omega) (fun b c => by omega) (Or.inr (Or.inr (Or.inl h14)))⟩ | exact Or.inr ⟨rfl, xq_okn (a := 2) (m := S) (n := K) (by omega) (by omega) (by omega) (by omega) rfl (by omega) (fun b c => by omega) (Or.inr (Or.inr (Or.inr h23)))⟩ | exact Or.inr ⟨rfl, xq_neg1 (by omega) h1⟩) dX0_hasWeight_31
          · refine xt_iconst C 1 dX0_hasWeight_26 (by decide +kernel) ?_
            refine lv_goto C.1 C.2.1 dX0_hasWeight_27 (tgt := 31) (by decide) ?_
            exact xt_zret C hE () hW (by first | exact Or.inl rfl | exact Or.inr rfl) (by first | exact Or.inr ⟨rfl, hx⟩ | exact Or.inl ⟨rfl, xq_oky (a := 0) (m := 1) (n := S) (by omega) (by omega) rfl (fun b c => by omega) h1 h10 h14 h23⟩ | exact Or.inr ⟨rfl, xq_okn (a := 0) (m := 1) (n := S) (by omega) (by omega) (by omega) (by omega) rfl (by omega) (fun b c => by omega) (Or.inr (Or.inl h10))⟩ | exact Or.inr ⟨rfl, xq_okn (a := 0) (m := 1) (n := S) (by omega) (by omega) (by omega) (by omega) rfl (by omega) (fun b c => by omega) (Or.inr (Or.inr (Or.inl h14)))⟩ | exact Or.inr ⟨rfl, xq_okn (a := 0) (m := 1) (n := S) (by omega) (by omega) (by omega) (by omega) rfl (by omega) (fun b c => by omega) (Or.inr (Or.inr (Or.inr h23)))⟩ | exact Or.inl ⟨rfl, xq_oky (a := 1) (m := S) (n := S) (by omega) (by omega) rfl (fun b c => by omega) h1 h10 h14 h23⟩ | exact Or.inr ⟨rfl, xq_okn (a := 1) (m := S) (n := S) (by omega) (by omega) (by omega) (by omega) rfl (by omega) (fun b c => by omega) (Or.inr (Or.inl h10))⟩ | exact Or.inr ⟨rfl, xq_okn (a := 1) (m := S) (n := S) (by omega) (by omega) (by omega) (by omega) rfl (by omega) (fun b c => by omega) (Or.inr (Or.inr (Or.inl h14)))⟩ | exact Or.inr ⟨rfl, xq_okn (a := 1) (m := S) (n := S) (by omega) (by omega) (by omega) (by omega) rfl (by omega) (fun b c => by omega) (Or.inr (Or.inr (Or.inr h23)))⟩ | exact Or.inl ⟨rfl, xq_oky (a := 2) (m := S) (n := K) (by omega) (by omega) rfl (fun b c => by omega) h1 h10 h14 h23⟩ | exact Or.inr ⟨rfl, xq_okn (a := 2) (m := S) (n := K) (by omega) (by omega) (by omega) (by omega) rfl (by omega) (fun b c => by omega) (Or.inr (Or.inl h10))⟩ | exact Or.inr ⟨rfl, xq_okn (a := 2) (m := S) (n := K) (by omega) (by omega) (by omega) (by omega) rfl (by omega) (fun b c => by omega) (Or.inr (Or.inr (Or.inl h14)))⟩ | exact Or.inr ⟨rfl, xq_okn (a := 2) (m := S) (n := K) (by omega) (by omega) (by omega) (by omega) rfl (by omega) (fun b c => by omega) (Or.inr (Or.inr (Or.inr h23)))⟩ | exact Or.inr ⟨rfl, xq_neg1 (by omega) h1⟩) dX0_hasWeight_31
    · have hx := xq_okx (S := S) (K := K) (ro := ro) (co := co) x0 x1 x2
      replace hl : lv_has ls 4 [(0, .ref (ad 0)), (1, .int kd), (2, .int ro), (3, .int co)] := hl
      refine lv_icmp_ge C.1 C.2.1 dX0_hasWeight_10 (tgt := 30) (by decide) (fun h10 => ?_) (fun h10 => ?_)
      · refine xt_iconst C 0 dX0_hasWeight_30 (by decide +kernel) ?_
        exact xt_zret C hE () hW (by first | exact Or.inl rfl | exact Or.inr rfl) (by first | exact Or.inr ⟨rfl, hx⟩ | exact Or.inl ⟨rfl, xq_oky (a := 0) (m := 1) (n := S) (by omega) (by omega) rfl (fun b c => by omega) h1 h10 h14 h23⟩ | exact Or.inr ⟨rfl, xq_okn (a := 0) (m := 1) (n := S) (by omega) (by omega) (by omega) (by omega) rfl (by omega) (fun b c => by omega) (Or.inr (Or.inl h10))⟩ | exact Or.inr ⟨rfl, xq_okn (a := 0) (m := 1) (n := S) (by omega) (by omega) (by omega) (by omega) rfl (by omega) (fun b c => by omega) (Or.inr (Or.inr (Or.inl h14)))⟩ | exact Or.inr ⟨rfl, xq_okn (a := 0) (m := 1) (n := S) (by omega) (by omega) (by omega) (by omega) rfl (by omega) (fun b c => by omega) (Or.inr (Or.inr (Or.inr h23)))⟩ | exact Or.inl ⟨rfl, xq_oky (a := 1) (m := S) (n := S) (by omega) (by omega) rfl (fun b c => by omega) h1 h10 h14 h23⟩ | exact Or.inr ⟨rfl, xq_okn (a := 1) (m := S) (n := S) (by omega) (by omega) (by omega) (by omega) rfl (by omega) (fun b c => by omega) (Or.inr (Or.inl h10))⟩ | exact Or.inr ⟨rfl, xq_okn (a := 1) (m := S) (n := S) (by omega) (by omega) (by omega) (by omega) rfl (by omega) (fun b c => by omega) (Or.inr (Or.inr (Or.inl h14)))⟩ | exact Or.inr ⟨rfl, xq_okn (a := 1) (m := S) (n := S) (by omega) (by omega) (by omega) (by omega) rfl (by omega) (fun b c => by omega) (Or.inr (Or.inr (Or.inr h23)))⟩ | exact Or.inl ⟨rfl, xq_oky (a := 2) (m := S) (n := K) (by omega) (by omega) rfl (fun b c => by omega) h1 h10 h14 h23⟩ | exact Or.inr ⟨rfl, xq_okn (a := 2) (m := S) (n := K) (by omega) (by omega) (by omega) (by omega) rfl (by omega) (fun b c => by omega) (Or.inr (Or.inl h10))⟩ | exact Or.inr ⟨rfl, xq_okn (a := 2) (m := S) (n := K) (by omega) (by omega) (by omega) (by omega) rfl (by omega) (fun b c => by omega) (Or.inr (Or.inr (Or.inl h14)))⟩ | exact Or.inr ⟨rfl, xq_okn (a := 2) (m := S) (n := K) (by omega) (by omega) (by omega) (by omega) rfl (by omega) (fun b c => by omega) (Or.inr (Or.inr (Or.inr h23)))⟩ | exact Or.inr ⟨rfl, xq_neg1 (by omega) h1⟩) dX0_hasWeight_31
      · exfalso
        exact h10 (by rw [nI_0]; exact Int32.not_lt.mp h1)
end
section
/-- a state of the class that holds together -/
def xq_V (S K n wc : Nat) (w lw sy sb sh rw rk : Nat → Nat) : Prop := 0 < S ∧ S ≤ 3 ∧ 0 < K ∧ K ≤ 4 ∧ n ≤ 6 ∧ (∀ i, i < 36 → w i ≤ 9) ∧ (∀ i, i < 36 → lw i ≤ 9) ∧ (∀ p, p < n → sy p < K) ∧ xq_ok S n w sy sb sh wc rw rk
/-- kind, row and column of a weight -/
def xq_kr (S K a b c : Nat) : Prop := (a = 0 ∧ b = 0 ∧ c < S) ∨ (a = 1 ∧ b < S ∧ c < S) ∨ (a = 2 ∧ b < S ∧ c < K)
theorem xq_sz {a b : Int32} (h1 : ¬ a < nI 1) (h2 : ¬ nI 3 < a) (h3 : ¬ b < nI 1) (h4 : b ≤ nI 4) : ∃ s k, a = nI s ∧ b = nI k ∧ 1 ≤ s ∧ s ≤ 3 ∧ 1 ≤ k ∧ k ≤ 4 := by
  have t1 : (nI 1).toInt = 1 := by decide
  have t3 : (nI 3).toInt = 3 := by decide
  have t4 : (nI 4).toInt = 4 := by decide
  rw [Int32.lt_iff_toInt_lt, t1] at h1 h3
  rw [Int32.lt_iff_toInt_lt, t3] at h2
  rw [Int32.le_iff_toInt_le, t4] at h4
  have ga : ¬ a < 0 := by rw [Int32.lt_iff_toInt_lt, Int32.toInt_zero]; omega
  have gb : ¬ b < 0 := by rw [Int32.lt_iff_toInt_lt, Int32.toInt_zero]; omega
  obtain ⟨s, hs, rfl⟩ := nI_of ga
  obtain ⟨k, hk, rfl⟩ := nI_of gb
  rw [nI_toInt hs] at h1 h2
  rw [nI_toInt hk] at h3 h4
  exact ⟨s, k, rfl, rfl, by omega, by omega, by omega, by omega⟩
theorem xq_le {x : Int32} {m : Nat} (hm : m < 2 ^ 31) (h1 : ¬ x < 0) (h2 : x ≤ nI m) : ∃ v, v ≤ m ∧ x = nI v := by
  obtain ⟨v, hv, rfl⟩ := nI_of h1
  exact ⟨v, (nI_leI hv hm).mp h2, rfl⟩
theorem xq_upb {w : Nat → Nat} {k v m N : Nat} (hw : ∀ i, i < N → w i ≤ m) (hv : v ≤ m) : ∀ i, i < N → va_up w k v i ≤ m := by
  intro i hi
  by_cases e : i = k
  · rw [e, xq_up]; exact hv
  · rw [xq_un e]; exact hw i hi
theorem xq_upl {sy : Nat → Nat} {n k m : Nat} (hs : ∀ p, p < n → sy p < m) (hk : k < m) : ∀ p, p < n + 1 → va_up sy n k p < m := by
  intro p hp
  by_cases e : p = n
  · rw [e, xq_up]; exact hk
  · rw [xq_un e]; exact hs p (by omega)
theorem xq_total {S n wc : Nat} {w sy sb sh rw rk : Nat → Nat} (hok : xq_ok S n w sy sb sh wc rw rk) (hn : n ≠ 0) : ms_sum (fun z1 => sb ((n - 1) * 3 + z1)) S = ms_sum (fun z1 => ms_wt (xe w sy) S n z1) (S ^ n) := by
  rw [ms_total (xe_0 w sy) (by omega)]
  exact ms_sum_congr (fun t ht => hok.1 (n - 1) t (by omega) ht)
theorem xq_total0 {S n : Nat} {w sy : Nat → Nat} (hn : n = 0) : 1 = ms_sum (fun z1 => ms_wt (xe w sy) S n z1) (S ^ n) := by
  subst hn
  rfl
theorem xq_wc {S n wc : Nat} {w sy sb sh rw rk : Nat → Nat} (hok : xq_ok S n w sy sb sh wc rw rk) (hS3 : S ≤ 3) (hn6 : n ≤ 6) : wc < 2 ^ 30 := by
  obtain ⟨-, -, g, hg⟩ := hok
  exact xq_wcb hg (ms_pow_le hS3 hn6)
theorem xq_rkb {S n wc i : Nat} {w sy sb sh rw rk : Nat → Nat} (hok : xq_ok S n w sy sb sh wc rw rk) (hS0 : 0 < S) (hS3 : S ≤ 3) (hn6 : n ≤ 6) (hi : i < min wc 12) : rk i < 4096 := by
  obtain ⟨-, -, g, hg⟩ := hok
  rw [(hg.2.1 i (by omega) (by omega)).2.2.2]
  exact xq_pkb hS0 hS3 hn6
set_option maxHeartbeats 4000000 in
set_option maxRecDepth 100000 in
theorem cx_size_y (l : Launch) (D : va_G) (cI cL : ClassId) (ad : Nat → Nat) (S K n wc dn : Nat) (w lw sy sb sh rw rk dr : Nat → Nat) (a : Nat) (b : Nat) (ha1 : 1 ≤ a) (ha3 : a ≤ 3) (hb1 : 1 ≤ b) (hb4 : b ≤ 4) : xt_M l yX0_size cX0_size 3 (some .boolean) 11 D cI cL [.ref (ad 0), .int (nI a), .int (nI b)] (xX ad cI cL S K n wc dn w lw sy sb sh rw rk dr) (xt_Qi D cI cL (xX ad cI cL S K n wc dn w lw sy sb sh rw rk dr) (fun (r : Int32) (u : (Nat → Nat) × (Nat → Nat) × (Nat → Nat) × (Nat) × (Nat → Nat) × (Nat → Nat)) => r = nI 1 ∧ (∀ j, j < 36 → u.1 j = 1) ∧ xq_ok a 0 u.1 sy u.2.1 u.2.2.1 u.2.2.2.1 u.2.2.2.2.1 u.2.2.2.2.2) (fun u => xX ad cI cL a b 0 u.2.2.2.1 0 u.1 lw sy u.2.1 u.2.2.1 u.2.2.2.2.1 u.2.2.2.2.2 dr)) := by
  refine xt_start (own := RX0) rfl (by decide) (Nat.le_of_ble_eq_true rfl) (fun pg ev ss mi args below meth cd A Q ls C hE hA hl hW => ?_)
  replace hl : lv_has ls 3 [(0, .ref (ad 0)), (1, .int (nI a)), (2, .int (nI b))] := hl
  refine lv_iload_n C.1 C.2.1 dX0_size_0 rfl (lv_at hl 1 rfl) ?_
  refine xt_iconst C 1 dX0_size_1 (by decide +kernel) ?_
  refine xt_icmp_lt C (by omega) (by omega) dX0_size_2 (tgt := 20) (by decide) (fun h2 => ?_) (fun h2 => ?_)
  · exfalso
    omega
  · refine lv_iload_n C.1 C.2.1 dX0_size_5 rfl (lv_at hl 1 rfl) ?_
    refine xt_iconst C 3 dX0_size_6 (by decide +kernel) ?_
    refine xt_icmp_gt C (by omega) (by omega) dX0_size_7 (tgt := 20) (by decide) (fun h7 => ?_) (fun h7 => ?_)
    · exfalso
      omega
    · refine lv_iload_n C.1 C.2.1 dX0_size_10 rfl (lv_at hl 2 rfl) ?_
      refine xt_iconst C 1 dX0_size_11 (by decide +kernel) ?_
      refine xt_icmp_lt C (by omega) (by omega) dX0_size_12 (tgt := 20) (by decide) (fun h12 => ?_) (fun h12 => ?_)
      · exfalso
        omega
      · refine lv_iload_n C.1 C.2.1 dX0_size_15 rfl (lv_at hl 2 rfl) ?_
        refine xt_iconst C 4 dX0_size_16 (by decide +kernel) ?_
        refine xt_icmp_le C (by omega) (by omega) dX0_size_17 (tgt := 22) (by decide) (fun h17 => ?_) (fun h17 => ?_)
        · refine lv_aload_n C.1 C.2.1 dX0_size_22 rfl (lv_at hl 0 rfl) ?_
          refine lv_iload_n C.1 C.2.1 dX0_size_23 rfl (lv_at hl 1 rfl) ?_
          refine lv_iload_n C.1 C.2.1 dX0_size_24 rfl (lv_at hl 2 rfl) ?_
          refine xt_cvd hA hW (xt_runV C hW.1 hW.2.1 cwX0_X0_startAnew (cx_startAnew l D cI cL ad S K n wc dn w lw sy sb sh rw rk dr a b (by omega) (by omega)) rfl rfl rfl hl.1 (rest := []) rfl (Nat.le_of_ble_eq_true rfl) ⟨(Nat.le_of_ble_eq_true rfl), (Nat.le_of_ble_eq_true rfl)⟩ ⟨Nat.zero_le _, Nat.zero_le _⟩ dX0_size_25) (fun u H locs hp25 hW => ?_)
          obtain ⟨w_25, sb_25, sh_25, wc_25, rw_25, rk_25⟩ := u
          replace hW : xt_W D A ss.heap (xX ad cI cL a b 0 wc_25 0 w_25 lw sy sb_25 sh_25 rw_25 rk_25 dr) H locs := hW
          replace hp25 : (∀ j, j < 36 → w_25 j = 1) ∧ xq_ok a 0 w_25 sy sb_25 sh_25 wc_25 rw_25 rk_25 := hp25
          refine xt_iconst C 1 dX0_size_28 (by decide +kernel) ?_
          exact xt_zret C hE (w_25, sb_25, sh_25, wc_25, rw_25, rk_25) hW (by first | exact Or.inl rfl | exact Or.inr rfl) (⟨rfl, hp25⟩) dX0_size_29
        · exfalso
          omega
set_option maxHeartbeats 4000000 in
set_option maxRecDepth 100000 in
theorem cx_size_n (l : Launch) (D : va_G) (cI cL : ClassId) (ad : Nat → Nat) (S K n wc dn : Nat) (w lw sy sb sh rw rk dr : Nat → Nat) (a : Int32) (b : Int32) (hno : ¬ ∃ s k, a = nI s ∧ b = nI k ∧ 1 ≤ s ∧ s ≤ 3 ∧ 1 ≤ k ∧ k ≤ 4) : xt_M l yX0_size cX0_size 3 (some .boolean) 11 D cI cL [.ref (ad 0), .int a, .int b] (xX ad cI cL S K n wc dn w lw sy sb sh rw rk dr) (xt_Qi D cI cL (xX ad cI cL S K n wc dn w lw sy sb sh rw rk dr) (fun (r : Int32) (u : Unit) => r = nI 0) (fun u => xX ad cI cL S K n wc dn w lw sy sb sh rw rk dr)) := by
  refine xt_start (own := RX0) rfl (by decide) (Nat.le_of_ble_eq_true rfl) (fun pg ev ss mi args below meth cd A Q ls C hE hA hl hW => ?_)
  replace hl : lv_has ls 3 [(0, .ref (ad 0)), (1, .int a), (2, .int b)] := hl
  refine lv_iload_n C.1 C.2.1 dX0_size_0 rfl (lv_at hl 1 rfl) ?_
  refine xt_iconst C 1 dX0_size_1 (by decide +kernel) ?_
  refine lv_icmp_lt C.1 C.2.1 dX0_size_2 (tgt := 20) (by decide) (fun h2 => ?_) (fun h2 => ?_)
  · refine xt_iconst C 0 dX0_size_20 (by decide +kernel) ?_
    exact xt_zret C hE () hW (by first | exact Or.inl rfl | exact Or.inr rfl) (rfl) dX0_size_21
  · refine lv_iload_n C.1 C.2.1 dX0_size_5 rfl (lv_at hl 1 rfl) ?_
    refine xt_iconst C 3 dX0_size_6 (by decide +kernel) ?_
    refine lv_icmp_gt C.1 C.2.1 dX0_size_7 (tgt := 20) (by decide) (fun h7 => ?_) (fun h7 => ?_)
    · refine xt_iconst C 0 dX0_size_20 (by decide +kernel) ?_
      exact xt_zret C hE () hW (by first | exact Or.inl rfl | exact Or.inr rfl) (rfl) dX0_size_21
    · refine lv_iload_n C.1 C.2.1 dX0_size_10 rfl (lv_at hl 2 rfl) ?_
      refine xt_iconst C 1 dX0_size_11 (by decide +kernel) ?_
      refine lv_icmp_lt C.1 C.2.1 dX0_size_12 (tgt := 20) (by decide) (fun h12 => ?_) (fun h12 => ?_)
      · refine xt_iconst C 0 dX0_size_20 (by decide +kernel) ?_
        exact xt_zret C hE () hW (by first | exact Or.inl rfl | exact Or.inr rfl) (rfl) dX0_size_21
      · refine lv_iload_n C.1 C.2.1 dX0_size_15 rfl (lv_at hl 2 rfl) ?_
        refine xt_iconst C 4 dX0_size_16 (by decide +kernel) ?_
        refine lv_icmp_le C.1 C.2.1 dX0_size_17 (tgt := 22) (by decide) (fun h17 => ?_) (fun h17 => ?_)
        · exfalso
          exact hno (xq_sz h2 h7 h12 h17)
        · refine xt_iconst C 0 dX0_size_20 (by decide +kernel) ?_
          exact xt_zret C hE () hW (by first | exact Or.inl rfl | exact Or.inr rfl) (rfl) dX0_size_21
set_option maxHeartbeats 4000000 in
set_option maxRecDepth 100000 in
theorem cx_weigh_y (l : Launch) (D : va_G) (cI cL : ClassId) (ad : Nat → Nat) (S K n wc dn : Nat) (w lw sy sb sh rw rk dr : Nat → Nat) (ka : Nat) (kb : Nat) (kc : Nat) (v : Nat) (hV : xq_V S K n wc w lw sy sb sh rw rk) (hk : xq_kr S K ka kb kc) (hv9 : v ≤ 9) : xt_M l yX0_weigh cX0_weigh 5 (some .boolean) 10 D cI cL [.ref (ad 0), .int (nI ka), .int (nI kb), .int (nI kc), .int (nI v)] (xX ad cI cL S K n wc dn w lw sy sb sh rw rk dr) (xt_Qi D cI cL (xX ad cI cL S K n wc dn w lw sy sb sh rw rk dr) (fun (r : Int32) (u : (Nat → Nat) × (Nat → Nat) × (Nat) × (Nat → Nat) × (Nat → Nat)) => r = nI 1 ∧ xq_ok S n (va_up w ((ka * 3 + kb) * 4 + kc) v) sy u.1 u.2.1 u.2.2.1 u.2.2.2.1 u.2.2.2.2) (fun u => xX ad cI cL S K n u.2.2.1 dn (va_up w ((ka * 3 + kb) * 4 + kc) v) lw sy u.1 u.2.1 u.2.2.2.1 u.2.2.2.2 dr)) := by
  obtain ⟨hS0, hS3, hK0, hK4, hn6, hw, hlw, hsK, hok⟩ := hV
  have hsy : ∀ p, p < n → sy p < 4 := fun p h => Nat.lt_of_lt_of_le (hsK p h) hK4
  have hku := hk; unfold xq_kr at hku
  refine xt_start (own := RX0) rfl (by decide) (Nat.le_of_ble_eq_true rfl) (fun pg ev ss mi args below meth cd A Q ls C hE hA hl hW => ?_)
  replace hl : lv_has ls 5 [(0, .ref (ad 0)), (1, .int (nI ka)), (2, .int (nI kb)), (3, .int (nI kc)), (4, .int (nI v))] := hl
  refine lv_aload_n C.1 C.2.1 dX0_weigh_0 rfl (lv_at hl 0 rfl) ?_
  refine lv_iload_n C.1 C.2.1 dX0_weigh_1 rfl (lv_at hl 1 rfl) ?_
  refine lv_iload_n C.1 C.2.1 dX0_weigh_2 rfl (lv_at hl 2 rfl) ?_
  refine lv_iload_n C.1 C.2.1 dX0_weigh_3 rfl (lv_at hl 3 rfl) ?_
  refine xt_ci hA hW (xt_runV C hW.1 hW.2.1 cwX0_X0_hasWeight (cx_hasWeight l D cI cL ad S K n wc dn w lw sy sb sh rw rk dr (nI ka) (nI kb) (nI kc) (by omega) (by omega)) rfl rfl rfl hl.1 (rest := []) rfl (Nat.le_of_ble_eq_true rfl) ⟨(Nat.le_of_ble_eq_true rfl), (Nat.le_of_ble_eq_true rfl)⟩ ⟨Nat.zero_le _, Nat.zero_le _⟩ dX0_weigh_4) (fun r4 u H locs hp4 hW => ?_)
  replace hW : xt_W D A ss.heap (xX ad cI cL S K n wc dn w lw sy sb sh rw rk dr) H locs := hW
  replace hp4 : (r4 = nI 1 ∧ ∃ a b c, xt_ok S K (nI ka) (nI kb) (nI kc) a b c) ∨ (r4 = nI 0 ∧ ¬ ∃ a b c, xt_ok S K (nI ka) (nI kb) (nI kc) a b c) := hp4
  rcases hp4 with ⟨rfl, -⟩ | ⟨-, hno⟩
  · replace hl : lv_has ls 5 [(0, .ref (ad 0)), (1, .int (nI ka)), (2, .int (nI kb)), (3, .int (nI kc)), (4, .int (nI v))] := hl
    refine xt_if_eq C (by omega) dX0_weigh_7 (tgt := 22) (by decide) (fun h7 => ?_) (fun h7 => ?_)
    · exfalso
      omega
    · refine lv_iload C.1 C.2.1 dX0_weigh_10 (lv_at hl 4 rfl) ?_
      refine xt_if_lt C (by omega) dX0_weigh_12 (tgt := 22) (by decide) ?_
      refine lv_iload C.1 C.2.1 dX0_weigh_15 (lv_at hl 4 rfl) ?_
      refine xt_bipush C 9 dX0_weigh_17 (by decide +kernel) ?_
      refine xt_icmp_le C (by omega) (by omega) dX0_weigh_19 (tgt := 24) (by decide) (fun h19 => ?_) (fun h19 => ?_)
      · refine lv_aload_n C.1 C.2.1 dX0_weigh_24 rfl (lv_at hl 0 rfl) ?_
        refine xt_get xt_inX0 C hW 0 rfl rfl 2 (by decide) rfl flX0_weights rfl dX0_weigh_25 ?_
        refine lv_iload_n C.1 C.2.1 dX0_weigh_28 rfl (lv_at hl 1 rfl) ?_
        refine lv_iload_n C.1 C.2.1 dX0_weigh_29 rfl (lv_at hl 2 rfl) ?_
        refine lv_iload_n C.1 C.2.1 dX0_weigh_30 rfl (lv_at hl 3 rfl) ?_
        refine xt_ci hA hW (xt_runS C hW.1 hW.2.1 cwX0_X0_slot (cx_slot l D cI cL (xX ad cI cL S K n wc dn w lw sy sb sh rw rk dr) ka kb kc) rfl hl.1 (rest := [.ref (ad 1)]) rfl (Nat.le_of_ble_eq_true rfl) ⟨(Nat.le_of_ble_eq_true rfl), (Nat.le_of_ble_eq_true rfl)⟩ ⟨Nat.zero_le _, Nat.zero_le _⟩ dX0_weigh_31) (fun r31 u H locs hp31 hW => ?_)
        replace hW : xt_W D A ss.heap (xX ad cI cL S K n wc dn w lw sy sb sh rw rk dr) H locs := hW
        subst hp31
        refine lv_iload C.1 C.2.1 dX0_weigh_34 (lv_at hl 4 rfl) ?_
        refine xt_iast C hW 1 rfl (by decide) dX0_weigh_36 (by omega) (fun H locs hW => ?_)
        replace hW : xt_W D A ss.heap (xX ad cI cL S K n wc dn (va_up w ((ka * 3 + kb) * 4 + kc) v) lw sy sb sh rw rk dr) H locs := hW
        refine lv_aload_n C.1 C.2.1 dX0_weigh_37 rfl (lv_at hl 0 rfl) ?_
        refine xt_cvd hA hW (xt_runV C hW.1 hW.2.1 cwX0_X0_reckon (cx_reckon l D cI cL ad S K n wc dn (va_up w ((ka * 3 + kb) * 4 + kc) v) lw sy sb sh rw rk dr (by omega) (by omega) (by omega) (xq_upb hw hv9) (hsy)) rfl rfl rfl hl.1 (rest := []) rfl (Nat.le_of_ble_eq_true rfl) ⟨(Nat.le_of_ble_eq_true rfl), (Nat.le_of_ble_eq_true rfl)⟩ ⟨Nat.zero_le _, Nat.zero_le _⟩ dX0_weigh_38) (fun u H locs hp38 hW => ?_)
        obtain ⟨sb_38, sh_38, wc_38, rw_38, rk_38⟩ := u
        replace hW : xt_W D A ss.heap (xX ad cI cL S K n wc_38 dn (va_up w ((ka * 3 + kb) * 4 + kc) v) lw sy sb_38 sh_38 rw_38 rk_38 dr) H locs := hW
        replace hp38 : xq_ok S n (va_up w ((ka * 3 + kb) * 4 + kc) v) sy sb_38 sh_38 wc_38 rw_38 rk_38 := hp38
        refine xt_iconst C 1 dX0_weigh_41 (by decide +kernel) ?_
        exact xt_zret C hE (sb_38, sh_38, wc_38, rw_38, rk_38) hW (by first | exact Or.inl rfl | exact Or.inr rfl) (⟨rfl, hp38⟩) dX0_weigh_42
      · exfalso
        omega
  · exact absurd (⟨ka, kb, kc, rfl, rfl, rfl, hk⟩) hno
set_option maxHeartbeats 4000000 in
set_option maxRecDepth 100000 in
theorem cx_weigh_n (l : Launch) (D : va_G) (cI cL : ClassId) (ad : Nat → Nat) (S K n wc dn : Nat) (w lw sy sb sh rw rk dr : Nat → Nat) (kd : Int32) (ro : Int32) (co : Int32) (x : Int32) (hV : xq_V S K n wc w lw sy sb sh rw rk) (hno : ¬ ((∃ a b c, xt_ok S K kd ro co a b c) ∧ ∃ v, v ≤ 9 ∧ x = nI v)) : xt_M l yX0_weigh cX0_weigh 5 (some .boolean) 10 D cI cL [.ref (ad 0), .int kd, .int ro, .int co, .int x] (xX ad cI cL S K n wc dn w lw sy sb sh rw rk dr) (xt_Qi D cI cL (xX ad cI cL S K n wc dn w lw sy sb sh rw rk dr) (fun (r : Int32) (u : Unit) => r = nI 0) (fun u => xX ad cI cL S K n wc dn w lw sy sb sh rw rk dr)) := by
  obtain ⟨hS0, hS3, hK0, hK4, hn6, hw, hlw, hsK, hok⟩ := hV
  have hsy : ∀ p, p < n → sy p < 4 := fun p h => Nat.lt_of_lt_of_le (hsK p h) hK4
  refine xt_start (own := RX0) rfl (by decide) (Nat.le_of_ble_eq_true rfl) (fun pg ev ss mi args below meth cd A Q ls C hE hA hl hW => ?_)
  replace hl : lv_has ls 5 [(0, .ref (ad 0)), (1, .int kd), (2, .int ro), (3, .int co), (4, .int x)] := hl
  refine lv_aload_n C.1 C.2.1 dX0_weigh_0 rfl (lv_at hl 0 rfl) ?_
  refine lv_iload_n C.1 C.2.1 dX0_weigh_1 rfl (lv_at hl 1 rfl) ?_
  refine lv_iload_n C.1 C.2.1 dX0_weigh_2 rfl (lv_at hl 2 rfl) ?_
  refine lv_iload_n C.1 C.2.1 dX0_weigh_3 rfl (lv_at hl 3 rfl) ?_
  refine xt_ci hA hW (xt_runV C hW.1 hW.2.1 cwX0_X0_hasWeight (cx_hasWeight l D cI cL ad S K n wc dn w lw sy sb sh rw rk dr kd ro co (by omega) (by omega)) rfl rfl rfl hl.1 (rest := []) rfl (Nat.le_of_ble_eq_true rfl) ⟨(Nat.le_of_ble_eq_true rfl), (Nat.le_of_ble_eq_true rfl)⟩ ⟨Nat.zero_le _, Nat.zero_le _⟩ dX0_weigh_4) (fun r4 u H locs hp4 hW => ?_)
  replace hW : xt_W D A ss.heap (xX ad cI cL S K n wc dn w lw sy sb sh rw rk dr) H locs := hW
  replace hp4 : (r4 = nI 1 ∧ ∃ a b c, xt_ok S K kd ro co a b c) ∨ (r4 = nI 0 ∧ ¬ ∃ a b c, xt_ok S K kd ro co a b c) := hp4
  rcases hp4 with ⟨rfl, hyes⟩ | ⟨rfl, -⟩
  · replace hl : lv_has ls 5 [(0, .ref (ad 0)), (1, .int kd), (2, .int ro), (3, .int co), (4, .int x)] := hl
    refine xt_if_eq C (by omega) dX0_weigh_7 (tgt := 22) (by decide) (fun h7 => ?_) (fun h7 => ?_)
    · exfalso
      omega
    · refine lv_iload C.1 C.2.1 dX0_weigh_10 (lv_at hl 4 rfl) ?_
      refine lv_if_lt C.1 C.2.1 dX0_weigh_12 (tgt := 22) (by decide) (fun h12 => ?_) (fun h12 => ?_)
      · refine xt_iconst C 0 dX0_weigh_22 (by decide +kernel) ?_
        exact xt_zret C hE () hW (by first | exact Or.inl rfl | exact Or.inr rfl) (rfl) dX0_weigh_23
      · refine lv_iload C.1 C.2.1 dX0_weigh_15 (lv_at hl 4 rfl) ?_
        refine xt_bipush C 9 dX0_weigh_17 (by decide +kernel) ?_
        refine lv_icmp_le C.1 C.2.1 dX0_weigh_19 (tgt := 24) (by decide) (fun h19 => ?_) (fun h19 => ?_)
        · exfalso
          exact hno ⟨hyes, xq_le (by omega) h12 h19⟩
        · refine xt_iconst C 0 dX0_weigh_22 (by decide +kernel) ?_
          exact xt_zret C hE () hW (by first | exact Or.inl rfl | exact Or.inr rfl) (rfl) dX0_weigh_23
  · replace hl : lv_has ls 5 [(0, .ref (ad 0)), (1, .int kd), (2, .int ro), (3, .int co), (4, .int x)] := hl
    refine xt_if_eq C (by omega) dX0_weigh_7 (tgt := 22) (by decide) (fun h7 => ?_) (fun h7 => ?_)
    · refine xt_iconst C 0 dX0_weigh_22 (by decide +kernel) ?_
      exact xt_zret C hE () hW (by first | exact Or.inl rfl | exact Or.inr rfl) (rfl) dX0_weigh_23
    · exfalso
      omega
set_option maxHeartbeats 4000000 in
set_option maxRecDepth 100000 in
theorem cx_weight_y (l : Launch) (D : va_G) (cI cL : ClassId) (ad : Nat → Nat) (S K n wc dn : Nat) (w lw sy sb sh rw rk dr : Nat → Nat) (ka : Nat) (kb : Nat) (kc : Nat) (hV : xq_V S K n wc w lw sy sb sh rw rk) (hk : xq_kr S K ka kb kc) : xt_M l yX0_weight cX0_weight 4 (some .int) 2 D cI cL [.ref (ad 0), .int (nI ka), .int (nI kb), .int (nI kc)] (xX ad cI cL S K n wc dn w lw sy sb sh rw rk dr) (xt_Qi D cI cL (xX ad cI cL S K n wc dn w lw sy sb sh rw rk dr) (fun (r : Int32) (u : Unit) => r = nI (w ((ka * 3 + kb) * 4 + kc))) (fun u => xX ad cI cL S K n wc dn w lw sy sb sh rw rk dr)) := by
  obtain ⟨hS0, hS3, hK0, hK4, hn6, hw, hlw, hsK, hok⟩ := hV
  have hsy : ∀ p, p < n → sy p < 4 := fun p h => Nat.lt_of_lt_of_le (hsK p h) hK4
  have hku := hk; unfold xq_kr at hku
  refine xt_start (own := RX0) rfl (by decide) (Nat.le_of_ble_eq_true rfl) (fun pg ev ss mi args below meth cd A Q ls C hE hA hl hW => ?_)
  replace hl : lv_has ls 4 [(0, .ref (ad 0)), (1, .int (nI ka)), (2, .int (nI kb)), (3, .int (nI kc))] := hl
  refine lv_aload_n C.1 C.2.1 dX0_weight_0 rfl (lv_at hl 0 rfl) ?_
  refine lv_iload_n C.1 C.2.1 dX0_weight_1 rfl (lv_at hl 1 rfl) ?_
  refine lv_iload_n C.1 C.2.1 dX0_weight_2 rfl (lv_at hl 2 rfl) ?_
  refine lv_iload_n C.1 C.2.1 dX0_weight_3 rfl (lv_at hl 3 rfl) ?_
  refine xt_ci hA hW (xt_runV C hW.1 hW.2.1 cwX0_X0_hasWeight (cx_hasWeight l D cI cL ad S K n wc dn w lw sy sb sh rw rk dr (nI ka) (nI kb) (nI kc) (by omega) (by omega)) rfl rfl rfl hl.1 (rest := []) rfl (Nat.le_of_ble_eq_true rfl) ⟨(Nat.le_of_ble_eq_true rfl), (Nat.le_of_ble_eq_true rfl)⟩ ⟨Nat.zero_le _, Nat.zero_le _⟩ dX0_weight_4) (fun r4 u H locs hp4 hW => ?_)
  replace hW : xt_W D A ss.heap (xX ad cI cL S K n wc dn w lw sy sb sh rw rk dr) H locs := hW
  replace hp4 : (r4 = nI 1 ∧ ∃ a b c, xt_ok S K (nI ka) (nI kb) (nI kc) a b c) ∨ (r4 = nI 0 ∧ ¬ ∃ a b c, xt_ok S K (nI ka) (nI kb) (nI kc) a b c) := hp4
  rcases hp4 with ⟨rfl, -⟩ | ⟨-, hno⟩
  · replace hl : lv_has ls 4 [(0, .ref (ad 0)), (1, .int (nI ka)), (2, .int (nI kb)), (3, .int (nI kc))] := hl
    refine xt_if_eq C (by omega) dX0_weight_7 (tgt := 24) (by decide) (fun h7 => ?_) (fun h7 => ?_)
    · exfalso
      omega
    · refine lv_aload_n C.1 C.2.1 dX0_weight_10 rfl (lv_at hl 0 rfl) ?_
      refine xt_get xt_inX0 C hW 0 rfl rfl 2 (by decide) rfl flX0_weights rfl dX0_weight_11 ?_
      refine lv_iload_n C.1 C.2.1 dX0_weight_14 rfl (lv_at hl 1 rfl) ?_
      refine lv_iload_n C.1 C.2.1 dX0_weight_15 rfl (lv_at hl 2 rfl) ?_
      refine lv_iload_n C.1 C.2.1 dX0_weight_16 rfl (lv_at hl 3 rfl) ?_
      refine xt_ci hA hW (xt_runS C hW.1 hW.2.1 cwX0_X0_slot (cx_slot l D cI cL (xX ad cI cL S K n wc dn w lw sy sb sh rw rk dr) ka kb kc) rfl hl.1 (rest := [.ref (ad 1)]) rfl (Nat.le_of_ble_eq_true rfl) ⟨(Nat.le_of_ble_eq_true rfl), (Nat.le_of_ble_eq_true rfl)⟩ ⟨Nat.zero_le _, Nat.zero_le _⟩ dX0_weight_17) (fun r17 u H locs hp17 hW => ?_)
      replace hW : xt_W D A ss.heap (xX ad cI cL S K n wc dn w lw sy sb sh rw rk dr) H locs := hW
      subst hp17
      refine xt_iald C hW 1 rfl (by decide) dX0_weight_20 (by omega) ?_
      refine lv_goto C.1 C.2.1 dX0_weight_21 (tgt := 25) (by decide) ?_
      exact xt_iret C hE () hW (rfl) dX0_weight_25
  · exact absurd (⟨ka, kb, kc, rfl, rfl, rfl, hk⟩) hno
set_option maxHeartbeats 4000000 in
set_option maxRecDepth 100000 in
theorem cx_weight_n (l : Launch) (D : va_G) (cI cL : ClassId) (ad : Nat → Nat) (S K n wc dn : Nat) (w lw sy sb sh rw rk dr : Nat → Nat) (kd : Int32) (ro : Int32) (co : Int32) (hV : xq_V S K n wc w lw sy sb sh rw rk) (hno : ¬ ∃ a b c, xt_ok S K kd ro co a b c) : xt_M l yX0_weight cX0_weight 4 (some .int) 2 D cI cL [.ref (ad 0), .int kd, .int ro, .int co] (xX ad cI cL S K n wc dn w lw sy sb sh rw rk dr) (xt_Qi D cI cL (xX ad cI cL S K n wc dn w lw sy sb sh rw rk dr) (fun (r : Int32) (u : Unit) => r =  (-1)) (fun u => xX ad cI cL S K n wc dn w lw sy sb sh rw rk dr)) := by
  obtain ⟨hS0, hS3, hK0, hK4, hn6, hw, hlw, hsK, hok⟩ := hV
  have hsy : ∀ p, p < n → sy p < 4 := fun p h => Nat.lt_of_lt_of_le (hsK p h) hK4
  refine xt_start (own := RX0) rfl (by decide) (Nat.le_of_ble_eq_true rfl) (fun pg ev ss mi args below meth cd A Q ls C hE hA hl hW => ?_)
  replace hl : lv_has ls 4 [(0, .ref (ad 0)), (1, .int kd), (2, .int ro), (3, .int co)] := hl
  refine lv_aload_n C.1 C.2.1 dX0_weight_0 rfl (lv_at hl 0 rfl) ?_
  refine lv_iload_n C.1 C.2.1 dX0_weight_1 rfl (lv_at hl 1 rfl) ?_
  refine lv_iload_n C.1 C.2.1 dX0_weight_2 rfl (lv_at hl 2 rfl) ?_
  refine lv_iload_n C.1 C.2.1 dX0_weight_3 rfl (lv_at hl 3 rfl) ?_
  refine xt_ci hA hW (xt_runV C hW.1 hW.2.1 cwX0_X0_hasWeight (cx_hasWeight l D cI cL ad S K n wc dn w lw sy sb sh rw rk dr kd ro co (by omega) (by omega)) rfl rfl rfl hl.1 (rest := []) rfl (Nat.le_of_ble_eq_true rfl) ⟨(Nat.le_of_ble_eq_true rfl), (Nat.le_of_ble_eq_true rfl)⟩ ⟨Nat.zero_le _, Nat.zero_le _⟩ dX0_weight_4) (fun r4 u H locs hp4 hW => ?_)
  replace hW : xt_W D A ss.heap (xX ad cI cL S K n wc dn w lw sy sb sh rw rk dr) H locs := hW
  replace hp4 : (r4 = nI 1 ∧ ∃ a b c, xt_ok S K kd ro co a b c) ∨ (r4 = nI 0 ∧ ¬ ∃ a b c, xt_ok S K kd ro co a b c) := hp4
  rcases hp4 with ⟨-, hz⟩ | ⟨rfl, -⟩
  · exact absurd (hz) hno
  · replace hl : lv_has ls 4 [(0, .ref (ad 0)), (1, .int kd), (2, .int ro), (3, .int co)] := hl
    refine xt_if_eq C (by omega) dX0_weight_7 (tgt := 24) (by decide) (fun h7 => ?_) (fun h7 => ?_)
    · refine lv_iconst (v := -1) C.1 C.2.1 dX0_weight_24 (by decide +kernel) ?_
      exact xt_iret C hE () hW (rfl) dX0_weight_25
    · exfalso
      omega
set_option maxHeartbeats 4000000 in
set_option maxRecDepth 100000 in
theorem cx_see_y (l : Launch) (D : va_G) (cI cL : ClassId) (ad : Nat → Nat) (S K n wc dn : Nat) (w lw sy sb sh rw rk dr : Nat → Nat) (k : Nat) (hV : xq_V S K n wc w lw sy sb sh rw rk) (hkK : k < K) (hnn : n < 6) : xt_M l yX0_see cX0_see 2 (some .int) 10 D cI cL [.ref (ad 0), .int (nI k)] (xX ad cI cL S K n wc dn w lw sy sb sh rw rk dr) (xt_Qi D cI cL (xX ad cI cL S K n wc dn w lw sy sb sh rw rk dr) (fun (r : Int32) (u : (Nat → Nat) × (Nat → Nat) × (Nat) × (Nat → Nat) × (Nat → Nat)) => r = nI (n + 1) ∧ xq_ok S (n + 1) w (va_up sy n k) u.1 u.2.1 u.2.2.1 u.2.2.2.1 u.2.2.2.2) (fun u => xX ad cI cL S K (n + 1) u.2.2.1 dn w lw (va_up sy n k) u.1 u.2.1 u.2.2.2.1 u.2.2.2.2 dr)) := by
  obtain ⟨hS0, hS3, hK0, hK4, hn6, hw, hlw, hsK, hok⟩ := hV
  have hsy : ∀ p, p < n → sy p < 4 := fun p h => Nat.lt_of_lt_of_le (hsK p h) hK4
  refine xt_start (own := RX0) rfl (by decide) (Nat.le_of_ble_eq_true rfl) (fun pg ev ss mi args below meth cd A Q ls C hE hA hl hW => ?_)
  replace hl : lv_has ls 2 [(0, .ref (ad 0)), (1, .int (nI k))] := hl
  refine lv_iload_n C.1 C.2.1 dX0_see_0 rfl (lv_at hl 1 rfl) ?_
  refine xt_if_lt C (by omega) dX0_see_1 (tgt := 21) (by decide) ?_
  refine lv_iload_n C.1 C.2.1 dX0_see_4 rfl (lv_at hl 1 rfl) ?_
  refine lv_aload_n C.1 C.2.1 dX0_see_5 rfl (lv_at hl 0 rfl) ?_
  refine xt_get xt_inX0 C hW 0 rfl rfl 1 (by decide) rfl flX0_symbolCount rfl dX0_see_6 ?_
  refine xt_icmp_ge C (by omega) (by omega) dX0_see_9 (tgt := 21) (by decide) (fun h9 => ?_) (fun h9 => ?_)
  · exfalso
    omega
  · refine lv_aload_n C.1 C.2.1 dX0_see_12 rfl (lv_at hl 0 rfl) ?_
    refine xt_get xt_inX0 C hW 0 rfl rfl 4 (by decide) rfl flX0_seenCount rfl dX0_see_13 ?_
    refine xt_bipush C 6 dX0_see_16 (by decide +kernel) ?_
    refine xt_icmp_lt C (by omega) (by omega) dX0_see_18 (tgt := 23) (by decide) (fun h18 => ?_) (fun h18 => ?_)
    · refine lv_aload_n C.1 C.2.1 dX0_see_23 rfl (lv_at hl 0 rfl) ?_
      refine xt_get xt_inX0 C hW 0 rfl rfl 5 (by decide) rfl flX0_seenSymbols rfl dX0_see_24 ?_
      refine lv_aload_n C.1 C.2.1 dX0_see_27 rfl (lv_at hl 0 rfl) ?_
      refine xt_get xt_inX0 C hW 0 rfl rfl 4 (by decide) rfl flX0_seenCount rfl dX0_see_28 ?_
      refine lv_iload_n C.1 C.2.1 dX0_see_31 rfl (lv_at hl 1 rfl) ?_
      refine xt_iast C hW 3 rfl (by decide) dX0_see_32 (by omega) (fun H locs hW => ?_)
      replace hW : xt_W D A ss.heap (xX ad cI cL S K n wc dn w lw (va_up sy n k) sb sh rw rk dr) H locs := hW
      refine lv_aload_n C.1 C.2.1 dX0_see_33 rfl (lv_at hl 0 rfl) ?_
      refine lv_dup C.1 C.2.1 dX0_see_34 rfl ?_
      refine xt_get xt_inX0 C hW 0 rfl rfl 4 (by decide) rfl flX0_seenCount rfl dX0_see_35 ?_
      refine xt_iconst C 1 dX0_see_38 (by decide +kernel) ?_
      refine xt_iadd C dX0_see_39 ?_
      refine xt_put (ty := .int) xt_inX0 tyX0 tyX0_ok nmX0 C hW 0 rfl rfl 4 (by decide) rfl flX0_seenCount rfl (by decide +kernel) rfl rfl (Nat.le_of_ble_eq_true rfl) dX0_see_40 (fun H locs hW => ?_)
      replace hW : xt_W D A ss.heap (xX ad cI cL S K (n + 1) wc dn w lw (va_up sy n k) sb sh rw rk dr) H locs := hW
      refine W.eq (g2 := F0 mi 43 ls []) rfl ?_
      refine lv_aload_n C.1 C.2.1 dX0_see_43 rfl (lv_at hl 0 rfl) ?_
      refine xt_cvd hA hW (xt_runV C hW.1 hW.2.1 cwX0_X0_reckon (cx_reckon l D cI cL ad S K (n + 1) wc dn w lw (va_up sy n k) sb sh rw rk dr (by omega) (by omega) (by omega) (hw) (xq_upl hsy (by omega))) rfl rfl rfl hl.1 (rest := []) rfl (Nat.le_of_ble_eq_true rfl) ⟨(Nat.le_of_ble_eq_true rfl), (Nat.le_of_ble_eq_true rfl)⟩ ⟨Nat.zero_le _, Nat.zero_le _⟩ dX0_see_44) (fun u H locs hp44 hW => ?_)
      obtain ⟨sb_44, sh_44, wc_44, rw_44, rk_44⟩ := u
      replace hW : xt_W D A ss.heap (xX ad cI cL S K (n + 1) wc_44 dn w lw (va_up sy n k) sb_44 sh_44 rw_44 rk_44 dr) H locs := hW
      replace hp44 : xq_ok S (n + 1) w (va_up sy n k) sb_44 sh_44 wc_44 rw_44 rk_44 := hp44
      refine lv_aload_n C.1 C.2.1 dX0_see_47 rfl (lv_at hl 0 rfl) ?_
      refine xt_get xt_inX0 C hW 0 rfl rfl 4 (by decide) rfl flX0_seenCount rfl dX0_see_48 ?_
      exact xt_iret C hE (sb_44, sh_44, wc_44, rw_44, rk_44) hW (⟨rfl, hp44⟩) dX0_see_51
    · exfalso
      omega
set_option maxHeartbeats 4000000 in
set_option maxRecDepth 100000 in
theorem cx_see_n (l : Launch) (D : va_G) (cI cL : ClassId) (ad : Nat → Nat) (S K n wc dn : Nat) (w lw sy sb sh rw rk dr : Nat → Nat) (q : Int32) (hV : xq_V S K n wc w lw sy sb sh rw rk) (hno : ¬ ((∃ j, j < K ∧ q = nI j) ∧ n < 6)) : xt_M l yX0_see cX0_see 2 (some .int) 10 D cI cL [.ref (ad 0), .int q] (xX ad cI cL S K n wc dn w lw sy sb sh rw rk dr) (xt_Qi D cI cL (xX ad cI cL S K n wc dn w lw sy sb sh rw rk dr) (fun (r : Int32) (u : Unit) => r =  (-1)) (fun u => xX ad cI cL S K n wc dn w lw sy sb sh rw rk dr)) := by
  obtain ⟨hS0, hS3, hK0, hK4, hn6, hw, hlw, hsK, hok⟩ := hV
  have hsy : ∀ p, p < n → sy p < 4 := fun p h => Nat.lt_of_lt_of_le (hsK p h) hK4
  refine xt_start (own := RX0) rfl (by decide) (Nat.le_of_ble_eq_true rfl) (fun pg ev ss mi args below meth cd A Q ls C hE hA hl hW => ?_)
  replace hl : lv_has ls 2 [(0, .ref (ad 0)), (1, .int q)] := hl
  refine lv_iload_n C.1 C.2.1 dX0_see_0 rfl (lv_at hl 1 rfl) ?_
  refine lv_if_lt C.1 C.2.1 dX0_see_1 (tgt := 21) (by decide) (fun h1 => ?_) (fun h1 => ?_)
  · refine lv_iconst (v := -1) C.1 C.2.1 dX0_see_21 (by decide +kernel) ?_
    exact xt_iret C hE () hW (rfl) dX0_see_22
  · refine lv_iload_n C.1 C.2.1 dX0_see_4 rfl (lv_at hl 1 rfl) ?_
    refine lv_aload_n C.1 C.2.1 dX0_see_5 rfl (lv_at hl 0 rfl) ?_
    refine xt_get xt_inX0 C hW 0 rfl rfl 1 (by decide) rfl flX0_symbolCount rfl dX0_see_6 ?_
    refine lv_icmp_ge C.1 C.2.1 dX0_see_9 (tgt := 21) (by decide) (fun h9 => ?_) (fun h9 => ?_)
    · refine lv_iconst (v := -1) C.1 C.2.1 dX0_see_21 (by decide +kernel) ?_
      exact xt_iret C hE () hW (rfl) dX0_see_22
    · refine lv_aload_n C.1 C.2.1 dX0_see_12 rfl (lv_at hl 0 rfl) ?_
      refine xt_get xt_inX0 C hW 0 rfl rfl 4 (by decide) rfl flX0_seenCount rfl dX0_see_13 ?_
      refine xt_bipush C 6 dX0_see_16 (by decide +kernel) ?_
      refine xt_icmp_lt C (by omega) (by omega) dX0_see_18 (tgt := 23) (by decide) (fun h18 => ?_) (fun h18 => ?_)
      · exfalso
        exact hno ⟨xq_yes (by omega) h1 h9, by omega⟩
      · refine lv_iconst (v := -1) C.1 C.2.1 dX0_see_21 (by decide +kernel) ?_
        exact xt_iret C hE () hW (rfl) dX0_see_22
set_option maxHeartbeats 4000000 in
set_option maxRecDepth 100000 in
theorem cx_forget_y (l : Launch) (D : va_G) (cI cL : ClassId) (ad : Nat → Nat) (S K n wc dn : Nat) (w lw sy sb sh rw rk dr : Nat → Nat) (j : Nat) (hV : xq_V S K n wc w lw sy sb sh rw rk) (hjn : j ≤ n) : xt_M l yX0_forget cX0_forget 3 (some .int) 10 D cI cL [.ref (ad 0), .int (nI j)] (xX ad cI cL S K n wc dn w lw sy sb sh rw rk dr) (xt_Qi D cI cL (xX ad cI cL S K n wc dn w lw sy sb sh rw rk dr) (fun (r : Int32) (u : (Nat → Nat) × (Nat → Nat) × (Nat) × (Nat → Nat) × (Nat → Nat)) => r = nI (n - j) ∧ xq_ok S j w sy u.1 u.2.1 u.2.2.1 u.2.2.2.1 u.2.2.2.2) (fun u => xX ad cI cL S K j u.2.2.1 dn w lw sy u.1 u.2.1 u.2.2.2.1 u.2.2.2.2 dr)) := by
  obtain ⟨hS0, hS3, hK0, hK4, hn6, hw, hlw, hsK, hok⟩ := hV
  have hsy : ∀ p, p < n → sy p < 4 := fun p h => Nat.lt_of_lt_of_le (hsK p h) hK4
  refine xt_start (own := RX0) rfl (by decide) (Nat.le_of_ble_eq_true rfl) (fun pg ev ss mi args below meth cd A Q ls C hE hA hl hW => ?_)
  replace hl : lv_has ls 3 [(0, .ref (ad 0)), (1, .int (nI j))] := hl
  refine lv_iload_n C.1 C.2.1 dX0_forget_0 rfl (lv_at hl 1 rfl) ?_
  refine xt_if_lt C (by omega) dX0_forget_1 (tgt := 12) (by decide) ?_
  refine lv_iload_n C.1 C.2.1 dX0_forget_4 rfl (lv_at hl 1 rfl) ?_
  refine lv_aload_n C.1 C.2.1 dX0_forget_5 rfl (lv_at hl 0 rfl) ?_
  refine xt_get xt_inX0 C hW 0 rfl rfl 4 (by decide) rfl flX0_seenCount rfl dX0_forget_6 ?_
  refine xt_icmp_le C (by omega) (by omega) dX0_forget_9 (tgt := 14) (by decide) (fun h9 => ?_) (fun h9 => ?_)
  · refine lv_aload_n C.1 C.2.1 dX0_forget_14 rfl (lv_at hl 0 rfl) ?_
    refine xt_get xt_inX0 C hW 0 rfl rfl 4 (by decide) rfl flX0_seenCount rfl dX0_forget_15 ?_
    refine lv_iload_n C.1 C.2.1 dX0_forget_18 rfl (lv_at hl 1 rfl) ?_
    refine xt_isub C dX0_forget_19 (by omega) ?_
    refine lv_istore_n C.1 C.2.1 dX0_forget_20 rfl hl (by decide) rfl (fun ls hl => ?_)
    replace hl : lv_has ls 3 [(2, .int (nI (n - j))), (0, .ref (ad 0)), (1, .int (nI j))] := hl
    refine lv_aload_n C.1 C.2.1 dX0_forget_21 rfl (lv_at hl 1 rfl) ?_
    refine lv_iload_n C.1 C.2.1 dX0_forget_22 rfl (lv_at hl 2 rfl) ?_
    refine xt_put (ty := .int) xt_inX0 tyX0 tyX0_ok nmX0 C hW 0 rfl rfl 4 (by decide) rfl flX0_seenCount rfl (by decide +kernel) rfl rfl (Nat.le_of_ble_eq_true rfl) dX0_forget_23 (fun H locs hW => ?_)
    replace hW : xt_W D A ss.heap (xX ad cI cL S K j wc dn w lw sy sb sh rw rk dr) H locs := hW
    refine lv_aload_n C.1 C.2.1 dX0_forget_26 rfl (lv_at hl 1 rfl) ?_
    refine xt_cvd hA hW (xt_runV C hW.1 hW.2.1 cwX0_X0_reckon (cx_reckon l D cI cL ad S K j wc dn w lw sy sb sh rw rk dr (by omega) (by omega) (by omega) (hw) (fun p h => hsy p (by omega))) rfl rfl rfl hl.1 (rest := []) rfl (Nat.le_of_ble_eq_true rfl) ⟨(Nat.le_of_ble_eq_true rfl), (Nat.le_of_ble_eq_true rfl)⟩ ⟨Nat.zero_le _, Nat.zero_le _⟩ dX0_forget_27) (fun u H locs hp27 hW => ?_)
    obtain ⟨sb_27, sh_27, wc_27, rw_27, rk_27⟩ := u
    replace hW : xt_W D A ss.heap (xX ad cI cL S K j wc_27 dn w lw sy sb_27 sh_27 rw_27 rk_27 dr) H locs := hW
    replace hp27 : xq_ok S j w sy sb_27 sh_27 wc_27 rw_27 rk_27 := hp27
    refine lv_iload_n C.1 C.2.1 dX0_forget_30 rfl (lv_at hl 0 rfl) ?_
    exact xt_iret C hE (sb_27, sh_27, wc_27, rw_27, rk_27) hW (⟨rfl, hp27⟩) dX0_forget_31
  · exfalso
    omega
set_option maxHeartbeats 4000000 in
set_option maxRecDepth 100000 in
theorem cx_forget_n (l : Launch) (D : va_G) (cI cL : ClassId) (ad : Nat → Nat) (S K n wc dn : Nat) (w lw sy sb sh rw rk dr : Nat → Nat) (q : Int32) (hV : xq_V S K n wc w lw sy sb sh rw rk) (hno : ¬ ∃ j, j ≤ n ∧ q = nI j) : xt_M l yX0_forget cX0_forget 3 (some .int) 10 D cI cL [.ref (ad 0), .int q] (xX ad cI cL S K n wc dn w lw sy sb sh rw rk dr) (xt_Qi D cI cL (xX ad cI cL S K n wc dn w lw sy sb sh rw rk dr) (fun (r : Int32) (u : Unit) => r =  (-1)) (fun u => xX ad cI cL S K n wc dn w lw sy sb sh rw rk dr)) := by
  obtain ⟨hS0, hS3, hK0, hK4, hn6, hw, hlw, hsK, hok⟩ := hV
  have hsy : ∀ p, p < n → sy p < 4 := fun p h => Nat.lt_of_lt_of_le (hsK p h) hK4
  refine xt_start (own := RX0) rfl (by decide) (Nat.le_of_ble_eq_true rfl) (fun pg ev ss mi args below meth cd A Q ls C hE hA hl hW => ?_)
  replace hl : lv_has ls 3 [(0, .ref (ad 0)), (1, .int q)] := hl
  refine lv_iload_n C.1 C.2.1 dX0_forget_0 rfl (lv_at hl 1 rfl) ?_
  refine lv_if_lt C.1 C.2.1 dX0_forget_1 (tgt := 12) (by decide) (fun h1 => ?_) (fun h1 => ?_)
  · refine lv_iconst (v := -1) C.1 C.2.1 dX0_forget_12 (by decide +kernel) ?_
    exact xt_iret C hE () hW (rfl) dX0_forget_13
  · refine lv_iload_n C.1 C.2.1 dX0_forget_4 rfl (lv_at hl 1 rfl) ?_
    refine lv_aload_n C.1 C.2.1 dX0_forget_5 rfl (lv_at hl 0 rfl) ?_
    refine xt_get xt_inX0 C hW 0 rfl rfl 4 (by decide) rfl flX0_seenCount rfl dX0_forget_6 ?_
    refine lv_icmp_le C.1 C.2.1 dX0_forget_9 (tgt := 14) (by decide) (fun h9 => ?_) (fun h9 => ?_)
    · exfalso
      exact hno (xq_le (by omega) h1 h9)
    · refine lv_iconst (v := -1) C.1 C.2.1 dX0_forget_12 (by decide +kernel) ?_
      exact xt_iret C hE () hW (rfl) dX0_forget_13
set_option maxHeartbeats 4000000 in
set_option maxRecDepth 100000 in
theorem cx_seen (l : Launch) (D : va_G) (cI cL : ClassId) (ad : Nat → Nat) (S K n wc dn : Nat) (w lw sy sb sh rw rk dr : Nat → Nat) : xt_M l yX0_seen cX0_seen 1 (some .int) 0 D cI cL [.ref (ad 0)] (xX ad cI cL S K n wc dn w lw sy sb sh rw rk dr) (xt_Qi D cI cL (xX ad cI cL S K n wc dn w lw sy sb sh rw rk dr) (fun (r : Int32) (u : Unit) => r = nI n) (fun u => xX ad cI cL S K n wc dn w lw sy sb sh rw rk dr)) := by
  refine xt_start (own := RX0) rfl (by decide) (Nat.le_of_ble_eq_true rfl) (fun pg ev ss mi args below meth cd A Q ls C hE hA hl hW => ?_)
  replace hl : lv_has ls 1 [(0, .ref (ad 0))] := hl
  refine lv_aload_n C.1 C.2.1 dX0_seen_0 rfl (lv_at hl 0 rfl) ?_
  refine xt_get xt_inX0 C hW 0 rfl rfl 4 (by decide) rfl flX0_seenCount rfl dX0_seen_1 ?_
  exact xt_iret C hE () hW (rfl) dX0_seen_4
set_option maxHeartbeats 4000000 in
set_option maxRecDepth 100000 in
theorem cx_symbol_y (l : Launch) (D : va_G) (cI cL : ClassId) (ad : Nat → Nat) (S K n wc dn : Nat) (w lw sy sb sh rw rk dr : Nat → Nat) (j : Nat) (hV : xq_V S K n wc w lw sy sb sh rw rk) (hj : j < n) : xt_M l yX0_symbol cX0_symbol 2 (some .int) 1 D cI cL [.ref (ad 0), .int (nI j)] (xX ad cI cL S K n wc dn w lw sy sb sh rw rk dr) (xt_Qi D cI cL (xX ad cI cL S K n wc dn w lw sy sb sh rw rk dr) (fun (r : Int32) (u : Unit) => r = nI (sy j)) (fun u => xX ad cI cL S K n wc dn w lw sy sb sh rw rk dr)) := by
  obtain ⟨hS0, hS3, hK0, hK4, hn6, hw, hlw, hsK, hok⟩ := hV
  have hsy : ∀ p, p < n → sy p < 4 := fun p h => Nat.lt_of_lt_of_le (hsK p h) hK4
  refine xt_start (own := RX0) rfl (by decide) (Nat.le_of_ble_eq_true rfl) (fun pg ev ss mi args below meth cd A Q ls C hE hA hl hW => ?_)
  replace hl : lv_has ls 2 [(0, .ref (ad 0)), (1, .int (nI j))] := hl
  refine lv_aload_n C.1 C.2.1 dX0_symbol_0 rfl (lv_at hl 0 rfl) ?_
  refine lv_iload_n C.1 C.2.1 dX0_symbol_1 rfl (lv_at hl 1 rfl) ?_
  refine xt_ci hA hW (xt_runV C hW.1 hW.2.1 cwX0_X0_hasPlace (cx_hasPlace l D cI cL ad S K n wc dn w lw sy sb sh rw rk dr (nI j) (by omega)) rfl rfl rfl hl.1 (rest := []) rfl (Nat.le_of_ble_eq_true rfl) ⟨(Nat.le_of_ble_eq_true rfl), (Nat.le_of_ble_eq_true rfl)⟩ ⟨Nat.zero_le _, Nat.zero_le _⟩ dX0_symbol_2) (fun r2 u H locs hp2 hW => ?_)
  replace hW : xt_W D A ss.heap (xX ad cI cL S K n wc dn w lw sy sb sh rw rk dr) H locs := hW
  replace hp2 : (r2 = nI 1 ∧ ∃ z1, z1 < n ∧ (nI j) = nI z1) ∨ (r2 = nI 0 ∧ ¬ ∃ z1, z1 < n ∧ (nI j) = nI z1) := hp2
  rcases hp2 with ⟨rfl, -⟩ | ⟨-, hno⟩
  · replace hl : lv_has ls 2 [(0, .ref (ad 0)), (1, .int (nI j))] := hl
    refine xt_if_eq C (by omega) dX0_symbol_5 (tgt := 17) (by decide) (fun h5 => ?_) (fun h5 => ?_)
    · exfalso
      omega
    · refine lv_aload_n C.1 C.2.1 dX0_symbol_8 rfl (lv_at hl 0 rfl) ?_
      refine xt_get xt_inX0 C hW 0 rfl rfl 5 (by decide) rfl flX0_seenSymbols rfl dX0_symbol_9 ?_
      refine lv_iload_n C.1 C.2.1 dX0_symbol_12 rfl (lv_at hl 1 rfl) ?_
      refine xt_iald C hW 3 rfl (by decide) dX0_symbol_13 (by omega) ?_
      refine lv_goto C.1 C.2.1 dX0_symbol_14 (tgt := 18) (by decide) ?_
      exact xt_iret C hE () hW (rfl) dX0_symbol_18
  · exact absurd (⟨j, by omega, rfl⟩) hno
set_option maxHeartbeats 4000000 in
set_option maxRecDepth 100000 in
theorem cx_symbol_n (l : Launch) (D : va_G) (cI cL : ClassId) (ad : Nat → Nat) (S K n wc dn : Nat) (w lw sy sb sh rw rk dr : Nat → Nat) (q : Int32) (hV : xq_V S K n wc w lw sy sb sh rw rk) (hno : ¬ ∃ j, j < n ∧ q = nI j) : xt_M l yX0_symbol cX0_symbol 2 (some .int) 1 D cI cL [.ref (ad 0), .int q] (xX ad cI cL S K n wc dn w lw sy sb sh rw rk dr) (xt_Qi D cI cL (xX ad cI cL S K n wc dn w lw sy sb sh rw rk dr) (fun (r : Int32) (u : Unit) => r =  (-1)) (fun u => xX ad cI cL S K n wc dn w lw sy sb sh rw rk dr)) := by
  obtain ⟨hS0, hS3, hK0, hK4, hn6, hw, hlw, hsK, hok⟩ := hV
  have hsy : ∀ p, p < n → sy p < 4 := fun p h => Nat.lt_of_lt_of_le (hsK p h) hK4
  refine xt_start (own := RX0) rfl (by decide) (Nat.le_of_ble_eq_true rfl) (fun pg ev ss mi args below meth cd A Q ls C hE hA hl hW => ?_)
  replace hl : lv_has ls 2 [(0, .ref (ad 0)), (1, .int q)] := hl
  refine lv_aload_n C.1 C.2.1 dX0_symbol_0 rfl (lv_at hl 0 rfl) ?_
  refine lv_iload_n C.1 C.2.1 dX0_symbol_1 rfl (lv_at hl 1 rfl) ?_
  refine xt_ci hA hW (xt_runV C hW.1 hW.2.1 cwX0_X0_hasPlace (cx_hasPlace l D cI cL ad S K n wc dn w lw sy sb sh rw rk dr q (by omega)) rfl rfl rfl hl.1 (rest := []) rfl (Nat.le_of_ble_eq_true rfl) ⟨(Nat.le_of_ble_eq_true rfl), (Nat.le_of_ble_eq_true rfl)⟩ ⟨Nat.zero_le _, Nat.zero_le _⟩ dX0_symbol_2) (fun r2 u H locs hp2 hW => ?_)
  replace hW : xt_W D A ss.heap (xX ad cI cL S K n wc dn w lw sy sb sh rw rk dr) H locs := hW
  replace hp2 : (r2 = nI 1 ∧ ∃ z1, z1 < n ∧ q = nI z1) ∨ (r2 = nI 0 ∧ ¬ ∃ z1, z1 < n ∧ q = nI z1) := hp2
  rcases hp2 with ⟨-, hz⟩ | ⟨rfl, -⟩
  · exact absurd (hz) hno
  · replace hl : lv_has ls 2 [(0, .ref (ad 0)), (1, .int q)] := hl
    refine xt_if_eq C (by omega) dX0_symbol_5 (tgt := 17) (by decide) (fun h5 => ?_) (fun h5 => ?_)
    · refine lv_iconst (v := -1) C.1 C.2.1 dX0_symbol_17 (by decide +kernel) ?_
      exact xt_iret C hE () hW (rfl) dX0_symbol_18
    · exfalso
      omega
set_option maxHeartbeats 4000000 in
set_option maxRecDepth 100000 in
theorem cx_total (l : Launch) (D : va_G) (cI cL : ClassId) (ad : Nat → Nat) (S K n wc dn : Nat) (w lw sy sb sh rw rk dr : Nat → Nat) (hV : xq_V S K n wc w lw sy sb sh rw rk) : xt_M l yX0_total cX0_total 4 (some .long) 1 D cI cL [.ref (ad 0)] (xX ad cI cL S K n wc dn w lw sy sb sh rw rk dr) (xt_Ql D cI cL (xX ad cI cL S K n wc dn w lw sy sb sh rw rk dr) (fun (r : Int64) (u : Unit) => r = lN (ms_sum (fun z1 => ms_wt (xe w sy) S n z1) (S ^ n))) (fun u => xX ad cI cL S K n wc dn w lw sy sb sh rw rk dr)) := by
  obtain ⟨hS0, hS3, hK0, hK4, hn6, hw, hlw, hsK, hok⟩ := hV
  have hsy : ∀ p, p < n → sy p < 4 := fun p h => Nat.lt_of_lt_of_le (hsK p h) hK4
  refine xt_start (own := RX0) rfl (by decide) (Nat.le_of_ble_eq_true rfl) (fun pg ev ss mi args below meth cd A Q ls C hE hA hl hW => ?_)
  replace hl : lv_has ls 4 [(0, .ref (ad 0))] := hl
  refine lv_aload_n C.1 C.2.1 dX0_total_0 rfl (lv_at hl 0 rfl) ?_
  refine xt_get xt_inX0 C hW 0 rfl rfl 4 (by decide) rfl flX0_seenCount rfl dX0_total_1 ?_
  refine xt_if_ne C (by omega) dX0_total_4 (tgt := 9) (by decide) (fun h4 => ?_) (fun h4 => ?_)
  · refine xt_lconst C 0 dX0_total_9 (by decide +kernel) ?_
    refine lv_lstore_n C.1 C.2.1 dX0_total_10 rfl hl (by decide) rfl (fun ls hl => ?_)
    replace hl : lv_has ls 4 [(1, .long (lN 0)), (0, .ref (ad 0))] := hl
    refine xt_iconst C 0 dX0_total_11 (by decide +kernel) ?_
    refine lv_istore_n C.1 C.2.1 dX0_total_12 rfl hl (by decide) rfl (fun ls hl => ?_)
    replace hl : lv_has ls 4 [(3, .int (nI 0)), (1, .long (lN 0)), (0, .ref (ad 0))] := hl
    have lp13 : ∀ (q : Nat) (i : Nat), S - i = q → (i ≤ S) → ∀ (ls : Array Slot) (H : Heap) (locs : List Loc), lv_has ls 4 [(3, .int (nI i)), (1, .long (lN (ms_sum (fun z1 => sb ((n - 1) * 3 + z1)) i))), (0, .ref (ad 0))] → xt_W D A ss.heap (xX ad cI cL S K n wc dn w lw sy sb sh rw rk dr) H locs → W pg l ev (xt_R 1) ss mi args below meth cd H locs 0 0 Q (F0 mi 13 ls []) := by
      intro q
      induction q using Nat.strongRecOn with
      | _ q ih13 =>
        intro i hq13 hi ls H locs hl hW
        refine lv_iload_n C.1 C.2.1 dX0_total_13 rfl (lv_at hl 0 rfl) ?_
        refine lv_aload_n C.1 C.2.1 dX0_total_14 rfl (lv_at hl 2 rfl) ?_
        refine xt_get xt_inX0 C hW 0 rfl rfl 0 (by decide) rfl flX0_stateCount rfl dX0_total_15 ?_
        refine xt_icmp_ge C (by omega) (by omega) dX0_total_18 (tgt := 45) (by decide) (fun h18 => ?_) (fun h18 => ?_)
        · refine lv_lload_n C.1 C.2.1 dX0_total_45 rfl (lv_at hl 1 rfl) ?_
          exact xt_lret C hE () hW (by show lN (ms_sum _ i) = lN _; rw [show i = S by omega, xq_total hok h4]) dX0_total_46
        · refine lv_lload_n C.1 C.2.1 dX0_total_21 rfl (lv_at hl 1 rfl) ?_
          refine lv_aload_n C.1 C.2.1 dX0_total_22 rfl (lv_at hl 2 rfl) ?_
          refine xt_get xt_inX0 C hW 0 rfl rfl 6 (by decide) rfl flX0_sumsBefore rfl dX0_total_23 ?_
          refine lv_aload_n C.1 C.2.1 dX0_total_26 rfl (lv_at hl 2 rfl) ?_
          refine xt_get xt_inX0 C hW 0 rfl rfl 4 (by decide) rfl flX0_seenCount rfl dX0_total_27 ?_
          refine xt_iconst C 1 dX0_total_30 (by decide +kernel) ?_
          refine xt_isub C dX0_total_31 (by omega) ?_
          refine lv_iload_n C.1 C.2.1 dX0_total_32 rfl (lv_at hl 0 rfl) ?_
          refine xt_ci hA hW (xt_runS C hW.1 hW.2.1 cwX0_X0_cell (cx_cell l D cI cL (xX ad cI cL S K n wc dn w lw sy sb sh rw rk dr) (n - 1) i) rfl hl.1 (rest := [.ref (ad 4), .long (lN (ms_sum (fun z1 => sb ((n - 1) * 3 + z1)) i))]) rfl (Nat.le_of_ble_eq_true rfl) ⟨(Nat.le_of_ble_eq_true rfl), (Nat.le_of_ble_eq_true rfl)⟩ ⟨Nat.zero_le _, Nat.zero_le _⟩ dX0_total_33) (fun r33 u H locs hp33 hW => ?_)
          replace hW : xt_W D A ss.heap (xX ad cI cL S K n wc dn w lw sy sb sh rw rk dr) H locs := hW
          subst hp33
          refine xt_lald C hW 4 rfl (by decide) dX0_total_36 (by omega) ?_
          refine xt_ladd C dX0_total_37 ?_
          refine lv_lstore_n C.1 C.2.1 dX0_total_38 rfl hl (by decide) rfl (fun ls hl => ?_)
          replace hl : lv_has ls 4 [(1, .long (lN ((ms_sum (fun z1 => sb ((n - 1) * 3 + z1)) i) + (sb ((n - 1) * 3 + i))))), (3, .int (nI i)), (0, .ref (ad 0))] := hl
          refine W.eq (g2 := F0 mi 39 ls []) rfl ?_
          refine lv_iinc (k := 1) C.1 C.2.1 dX0_total_39 hl rfl xt_inc (by decide) rfl (fun ls hl => ?_)
          replace hl : lv_has ls 4 [(3, .int (nI (i + 1))), (1, .long (lN ((ms_sum (fun z1 => sb ((n - 1) * 3 + z1)) i) + (sb ((n - 1) * 3 + i))))), (0, .ref (ad 0))] := hl
          refine lv_goto C.1 C.2.1 dX0_total_42 (tgt := 13) (by decide) ?_
          exact ih13 _ (by omega) (i + 1) rfl (by omega) ls _ _ (lv_sub hl [0, 1, 2] rfl) hW
    exact lp13 _ 0 rfl (Nat.zero_le _) ls _ _ (lv_sub hl [0, 1, 2] rfl) hW
  · refine xt_lconst C 1 dX0_total_7 (by decide +kernel) ?_
    exact xt_lret C hE () hW (by show lN 1 = lN _; rw [← xq_total0 h4]) dX0_total_8
set_option maxHeartbeats 4000000 in
set_option maxRecDepth 100000 in
theorem cx_before_y (l : Launch) (D : va_G) (cI cL : ClassId) (ad : Nat → Nat) (S K n wc dn : Nat) (w lw sy sb sh rw rk dr : Nat → Nat) (p : Nat) (q : Nat) (hV : xq_V S K n wc w lw sy sb sh rw rk) (hpn : p < n) (hqS : q < S) : xt_M l yX0_before cX0_before 3 (some .long) 1 D cI cL [.ref (ad 0), .int (nI p), .int (nI q)] (xX ad cI cL S K n wc dn w lw sy sb sh rw rk dr) (xt_Ql D cI cL (xX ad cI cL S K n wc dn w lw sy sb sh rw rk dr) (fun (r : Int64) (u : Unit) => r = lN (ms_bf (xe w sy) S p q)) (fun u => xX ad cI cL S K n wc dn w lw sy sb sh rw rk dr)) := by
  obtain ⟨hS0, hS3, hK0, hK4, hn6, hw, hlw, hsK, hok⟩ := hV
  have hsy : ∀ p, p < n → sy p < 4 := fun p h => Nat.lt_of_lt_of_le (hsK p h) hK4
  refine xt_start (own := RX0) rfl (by decide) (Nat.le_of_ble_eq_true rfl) (fun pg ev ss mi args below meth cd A Q ls C hE hA hl hW => ?_)
  replace hl : lv_has ls 3 [(0, .ref (ad 0)), (1, .int (nI p)), (2, .int (nI q))] := hl
  refine lv_aload_n C.1 C.2.1 dX0_before_0 rfl (lv_at hl 0 rfl) ?_
  refine lv_iload_n C.1 C.2.1 dX0_before_1 rfl (lv_at hl 1 rfl) ?_
  refine xt_ci hA hW (xt_runV C hW.1 hW.2.1 cwX0_X0_hasPlace (cx_hasPlace l D cI cL ad S K n wc dn w lw sy sb sh rw rk dr (nI p) (by omega)) rfl rfl rfl hl.1 (rest := []) rfl (Nat.le_of_ble_eq_true rfl) ⟨(Nat.le_of_ble_eq_true rfl), (Nat.le_of_ble_eq_true rfl)⟩ ⟨Nat.zero_le _, Nat.zero_le _⟩ dX0_before_2) (fun r2 u H locs hp2 hW => ?_)
  replace hW : xt_W D A ss.heap (xX ad cI cL S K n wc dn w lw sy sb sh rw rk dr) H locs := hW
  replace hp2 : (r2 = nI 1 ∧ ∃ z1, z1 < n ∧ (nI p) = nI z1) ∨ (r2 = nI 0 ∧ ¬ ∃ z1, z1 < n ∧ (nI p) = nI z1) := hp2
  rcases hp2 with ⟨rfl, -⟩ | ⟨-, hno⟩
  · replace hl : lv_has ls 3 [(0, .ref (ad 0)), (1, .int (nI p)), (2, .int (nI q))] := hl
    refine xt_if_eq C (by omega) dX0_before_5 (tgt := 29) (by decide) (fun h5 => ?_) (fun h5 => ?_)
    · exfalso
      omega
    · refine lv_aload_n C.1 C.2.1 dX0_before_8 rfl (lv_at hl 0 rfl) ?_
      refine lv_iload_n C.1 C.2.1 dX0_before_9 rfl (lv_at hl 2 rfl) ?_
      refine xt_ci hA hW (xt_runV C hW.1 hW.2.1 cwX0_X0_hasState (cx_hasState l D cI cL ad S K n wc dn w lw sy sb sh rw rk dr (nI q) (by omega)) rfl rfl rfl hl.1 (rest := []) rfl (Nat.le_of_ble_eq_true rfl) ⟨(Nat.le_of_ble_eq_true rfl), (Nat.le_of_ble_eq_true rfl)⟩ ⟨Nat.zero_le _, Nat.zero_le _⟩ dX0_before_10) (fun r10 u H locs hp10 hW => ?_)
      replace hW : xt_W D A ss.heap (xX ad cI cL S K n wc dn w lw sy sb sh rw rk dr) H locs := hW
      replace hp10 : (r10 = nI 1 ∧ ∃ z1, z1 < S ∧ (nI q) = nI z1) ∨ (r10 = nI 0 ∧ ¬ ∃ z1, z1 < S ∧ (nI q) = nI z1) := hp10
      rcases hp10 with ⟨rfl, -⟩ | ⟨-, hno⟩
      · replace hl : lv_has ls 3 [(0, .ref (ad 0)), (1, .int (nI p)), (2, .int (nI q))] := hl
        refine xt_if_eq C (by omega) dX0_before_13 (tgt := 29) (by decide) (fun h13 => ?_) (fun h13 => ?_)
        · exfalso
          omega
        · refine lv_aload_n C.1 C.2.1 dX0_before_16 rfl (lv_at hl 0 rfl) ?_
          refine xt_get xt_inX0 C hW 0 rfl rfl 6 (by decide) rfl flX0_sumsBefore rfl dX0_before_17 ?_
          refine lv_iload_n C.1 C.2.1 dX0_before_20 rfl (lv_at hl 1 rfl) ?_
          refine lv_iload_n C.1 C.2.1 dX0_before_21 rfl (lv_at hl 2 rfl) ?_
          refine xt_ci hA hW (xt_runS C hW.1 hW.2.1 cwX0_X0_cell (cx_cell l D cI cL (xX ad cI cL S K n wc dn w lw sy sb sh rw rk dr) p q) rfl hl.1 (rest := [.ref (ad 4)]) rfl (Nat.le_of_ble_eq_true rfl) ⟨(Nat.le_of_ble_eq_true rfl), (Nat.le_of_ble_eq_true rfl)⟩ ⟨Nat.zero_le _, Nat.zero_le _⟩ dX0_before_22) (fun r22 u H locs hp22 hW => ?_)
          replace hW : xt_W D A ss.heap (xX ad cI cL S K n wc dn w lw sy sb sh rw rk dr) H locs := hW
          subst hp22
          refine xt_lald C hW 4 rfl (by decide) dX0_before_25 (by omega) ?_
          refine lv_goto C.1 C.2.1 dX0_before_26 (tgt := 30) (by decide) ?_
          exact xt_lret C hE () hW (by show lN (sb (p * 3 + q)) = lN _; rw [hok.1 p q hpn hqS]) dX0_before_30
      · exact absurd (⟨q, by omega, rfl⟩) hno
  · exact absurd (⟨p, by omega, rfl⟩) hno
set_option maxHeartbeats 4000000 in
set_option maxRecDepth 100000 in
theorem cx_before_n (l : Launch) (D : va_G) (cI cL : ClassId) (ad : Nat → Nat) (S K n wc dn : Nat) (w lw sy sb sh rw rk dr : Nat → Nat) (p : Int32) (q : Int32) (hV : xq_V S K n wc w lw sy sb sh rw rk) (hno : ¬ ((∃ j, j < n ∧ p = nI j) ∧ ∃ j, j < S ∧ q = nI j)) : xt_M l yX0_before cX0_before 3 (some .long) 1 D cI cL [.ref (ad 0), .int p, .int q] (xX ad cI cL S K n wc dn w lw sy sb sh rw rk dr) (xt_Ql D cI cL (xX ad cI cL S K n wc dn w lw sy sb sh rw rk dr) (fun (r : Int64) (u : Unit) => r = lN 0) (fun u => xX ad cI cL S K n wc dn w lw sy sb sh rw rk dr)) := by
  obtain ⟨hS0, hS3, hK0, hK4, hn6, hw, hlw, hsK, hok⟩ := hV
  have hsy : ∀ p, p < n → sy p < 4 := fun p h => Nat.lt_of_lt_of_le (hsK p h) hK4
  refine xt_start (own := RX0) rfl (by decide) (Nat.le_of_ble_eq_true rfl) (fun pg ev ss mi args below meth cd A Q ls C hE hA hl hW => ?_)
  replace hl : lv_has ls 3 [(0, .ref (ad 0)), (1, .int p), (2, .int q)] := hl
  refine lv_aload_n C.1 C.2.1 dX0_before_0 rfl (lv_at hl 0 rfl) ?_
  refine lv_iload_n C.1 C.2.1 dX0_before_1 rfl (lv_at hl 1 rfl) ?_
  refine xt_ci hA hW (xt_runV C hW.1 hW.2.1 cwX0_X0_hasPlace (cx_hasPlace l D cI cL ad S K n wc dn w lw sy sb sh rw rk dr p (by omega)) rfl rfl rfl hl.1 (rest := []) rfl (Nat.le_of_ble_eq_true rfl) ⟨(Nat.le_of_ble_eq_true rfl), (Nat.le_of_ble_eq_true rfl)⟩ ⟨Nat.zero_le _, Nat.zero_le _⟩ dX0_before_2) (fun r2 u H locs hp2 hW => ?_)
  replace hW : xt_W D A ss.heap (xX ad cI cL S K n wc dn w lw sy sb sh rw rk dr) H locs := hW
  replace hp2 : (r2 = nI 1 ∧ ∃ z1, z1 < n ∧ p = nI z1) ∨ (r2 = nI 0 ∧ ¬ ∃ z1, z1 < n ∧ p = nI z1) := hp2
  rcases hp2 with ⟨rfl, hy1⟩ | ⟨rfl, -⟩
  · replace hl : lv_has ls 3 [(0, .ref (ad 0)), (1, .int p), (2, .int q)] := hl
    refine xt_if_eq C (by omega) dX0_before_5 (tgt := 29) (by decide) (fun h5 => ?_) (fun h5 => ?_)
    · exfalso
      omega
    · refine lv_aload_n C.1 C.2.1 dX0_before_8 rfl (lv_at hl 0 rfl) ?_
      refine lv_iload_n C.1 C.2.1 dX0_before_9 rfl (lv_at hl 2 rfl) ?_
      refine xt_ci hA hW (xt_runV C hW.1 hW.2.1 cwX0_X0_hasState (cx_hasState l D cI cL ad S K n wc dn w lw sy sb sh rw rk dr q (by omega)) rfl rfl rfl hl.1 (rest := []) rfl (Nat.le_of_ble_eq_true rfl) ⟨(Nat.le_of_ble_eq_true rfl), (Nat.le_of_ble_eq_true rfl)⟩ ⟨Nat.zero_le _, Nat.zero_le _⟩ dX0_before_10) (fun r10 u H locs hp10 hW => ?_)
      replace hW : xt_W D A ss.heap (xX ad cI cL S K n wc dn w lw sy sb sh rw rk dr) H locs := hW
      replace hp10 : (r10 = nI 1 ∧ ∃ z1, z1 < S ∧ q = nI z1) ∨ (r10 = nI 0 ∧ ¬ ∃ z1, z1 < S ∧ q = nI z1) := hp10
      rcases hp10 with ⟨-, hz⟩ | ⟨rfl, -⟩
      · exact absurd (⟨hy1, hz⟩) hno
      · replace hl : lv_has ls 3 [(0, .ref (ad 0)), (1, .int p), (2, .int q)] := hl
        refine xt_if_eq C (by omega) dX0_before_13 (tgt := 29) (by decide) (fun h13 => ?_) (fun h13 => ?_)
        · refine xt_lconst C 0 dX0_before_29 (by decide +kernel) ?_
          exact xt_lret C hE () hW (rfl) dX0_before_30
        · exfalso
          omega
  · replace hl : lv_has ls 3 [(0, .ref (ad 0)), (1, .int p), (2, .int q)] := hl
    refine xt_if_eq C (by omega) dX0_before_5 (tgt := 29) (by decide) (fun h5 => ?_) (fun h5 => ?_)
    · refine xt_lconst C 0 dX0_before_29 (by decide +kernel) ?_
      exact xt_lret C hE () hW (rfl) dX0_before_30
    · exfalso
      omega
set_option maxHeartbeats 4000000 in
set_option maxRecDepth 100000 in
theorem cx_behind_y (l : Launch) (D : va_G) (cI cL : ClassId) (ad : Nat → Nat) (S K n wc dn : Nat) (w lw sy sb sh rw rk dr : Nat → Nat) (p : Nat) (q : Nat) (hV : xq_V S K n wc w lw sy sb sh rw rk) (hpn : p < n) (hqS : q < S) : xt_M l yX0_behind cX0_behind 3 (some .long) 1 D cI cL [.ref (ad 0), .int (nI p), .int (nI q)] (xX ad cI cL S K n wc dn w lw sy sb sh rw rk dr) (xt_Ql D cI cL (xX ad cI cL S K n wc dn w lw sy sb sh rw rk dr) (fun (r : Int64) (u : Unit) => r = lN (ms_bh (xe w sy) S n (n - 1 - p) q)) (fun u => xX ad cI cL S K n wc dn w lw sy sb sh rw rk dr)) := by
  obtain ⟨hS0, hS3, hK0, hK4, hn6, hw, hlw, hsK, hok⟩ := hV
  have hsy : ∀ p, p < n → sy p < 4 := fun p h => Nat.lt_of_lt_of_le (hsK p h) hK4
  refine xt_start (own := RX0) rfl (by decide) (Nat.le_of_ble_eq_true rfl) (fun pg ev ss mi args below meth cd A Q ls C hE hA hl hW => ?_)
  replace hl : lv_has ls 3 [(0, .ref (ad 0)), (1, .int (nI p)), (2, .int (nI q))] := hl
  refine lv_aload_n C.1 C.2.1 dX0_behind_0 rfl (lv_at hl 0 rfl) ?_
  refine lv_iload_n C.1 C.2.1 dX0_behind_1 rfl (lv_at hl 1 rfl) ?_
  refine xt_ci hA hW (xt_runV C hW.1 hW.2.1 cwX0_X0_hasPlace (cx_hasPlace l D cI cL ad S K n wc dn w lw sy sb sh rw rk dr (nI p) (by omega)) rfl rfl rfl hl.1 (rest := []) rfl (Nat.le_of_ble_eq_true rfl) ⟨(Nat.le_of_ble_eq_true rfl), (Nat.le_of_ble_eq_true rfl)⟩ ⟨Nat.zero_le _, Nat.zero_le _⟩ dX0_behind_2) (fun r2 u H locs hp2 hW => ?_)
  replace hW : xt_W D A ss.heap (xX ad cI cL S K n wc dn w lw sy sb sh rw rk dr) H locs := hW
  replace hp2 : (r2 = nI 1 ∧ ∃ z1, z1 < n ∧ (nI p) = nI z1) ∨ (r2 = nI 0 ∧ ¬ ∃ z1, z1 < n ∧ (nI p) = nI z1) := hp2
  rcases hp2 with ⟨rfl, -⟩ | ⟨-, hno⟩
  · replace hl : lv_has ls 3 [(0, .ref (ad 0)), (1, .int (nI p)), (2, .int (nI q))] := hl
    refine xt_if_eq C (by omega) dX0_behind_5 (tgt := 29) (by decide) (fun h5 => ?_) (fun h5 => ?_)
    · exfalso
      omega
    · refine lv_aload_n C.1 C.2.1 dX0_behind_8 rfl (lv_at hl 0 rfl) ?_
      refine lv_iload_n C.1 C.2.1 dX0_behind_9 rfl (lv_at hl 2 rfl) ?_
      refine xt_ci hA hW (xt_runV C hW.1 hW.2.1 cwX0_X0_hasState (cx_hasState l D cI cL ad S K n wc dn w lw sy sb sh rw rk dr (nI q) (by omega)) rfl rfl rfl hl.1 (rest := []) rfl (Nat.le_of_ble_eq_true rfl) ⟨(Nat.le_of_ble_eq_true rfl), (Nat.le_of_ble_eq_true rfl)⟩ ⟨Nat.zero_le _, Nat.zero_le _⟩ dX0_behind_10) (fun r10 u H locs hp10 hW => ?_)
      replace hW : xt_W D A ss.heap (xX ad cI cL S K n wc dn w lw sy sb sh rw rk dr) H locs := hW
      replace hp10 : (r10 = nI 1 ∧ ∃ z1, z1 < S ∧ (nI q) = nI z1) ∨ (r10 = nI 0 ∧ ¬ ∃ z1, z1 < S ∧ (nI q) = nI z1) := hp10
      rcases hp10 with ⟨rfl, -⟩ | ⟨-, hno⟩
      · replace hl : lv_has ls 3 [(0, .ref (ad 0)), (1, .int (nI p)), (2, .int (nI q))] := hl
        refine xt_if_eq C (by omega) dX0_behind_13 (tgt := 29) (by decide) (fun h13 => ?_) (fun h13 => ?_)
        · exfalso
          omega
        · refine lv_aload_n C.1 C.2.1 dX0_behind_16 rfl (lv_at hl 0 rfl) ?_
          refine xt_get xt_inX0 C hW 0 rfl rfl 7 (by decide) rfl flX0_sumsBehind rfl dX0_behind_17 ?_
          refine lv_iload_n C.1 C.2.1 dX0_behind_20 rfl (lv_at hl 1 rfl) ?_
          refine lv_iload_n C.1 C.2.1 dX0_behind_21 rfl (lv_at hl 2 rfl) ?_
          refine xt_ci hA hW (xt_runS C hW.1 hW.2.1 cwX0_X0_cell (cx_cell l D cI cL (xX ad cI cL S K n wc dn w lw sy sb sh rw rk dr) p q) rfl hl.1 (rest := [.ref (ad 5)]) rfl (Nat.le_of_ble_eq_true rfl) ⟨(Nat.le_of_ble_eq_true rfl), (Nat.le_of_ble_eq_true rfl)⟩ ⟨Nat.zero_le _, Nat.zero_le _⟩ dX0_behind_22) (fun r22 u H locs hp22 hW => ?_)
          replace hW : xt_W D A ss.heap (xX ad cI cL S K n wc dn w lw sy sb sh rw rk dr) H locs := hW
          subst hp22
          refine xt_lald C hW 5 rfl (by decide) dX0_behind_25 (by omega) ?_
          refine lv_goto C.1 C.2.1 dX0_behind_26 (tgt := 30) (by decide) ?_
          exact xt_lret C hE () hW (by show lN (sh (p * 3 + q)) = lN _; rw [hok.2.1 p q hpn hqS]) dX0_behind_30
      · exact absurd (⟨q, by omega, rfl⟩) hno
  · exact absurd (⟨p, by omega, rfl⟩) hno
set_option maxHeartbeats 4000000 in
set_option maxRecDepth 100000 in
theorem cx_behind_n (l : Launch) (D : va_G) (cI cL : ClassId) (ad : Nat → Nat) (S K n wc dn : Nat) (w lw sy sb sh rw rk dr : Nat → Nat) (p : Int32) (q : Int32) (hV : xq_V S K n wc w lw sy sb sh rw rk) (hno : ¬ ((∃ j, j < n ∧ p = nI j) ∧ ∃ j, j < S ∧ q = nI j)) : xt_M l yX0_behind cX0_behind 3 (some .long) 1 D cI cL [.ref (ad 0), .int p, .int q] (xX ad cI cL S K n wc dn w lw sy sb sh rw rk dr) (xt_Ql D cI cL (xX ad cI cL S K n wc dn w lw sy sb sh rw rk dr) (fun (r : Int64) (u : Unit) => r = lN 0) (fun u => xX ad cI cL S K n wc dn w lw sy sb sh rw rk dr)) := by
  obtain ⟨hS0, hS3, hK0, hK4, hn6, hw, hlw, hsK, hok⟩ := hV
  have hsy : ∀ p, p < n → sy p < 4 := fun p h => Nat.lt_of_lt_of_le (hsK p h) hK4
  refine xt_start (own := RX0) rfl (by decide) (Nat.le_of_ble_eq_true rfl) (fun pg ev ss mi args below meth cd A Q ls C hE hA hl hW => ?_)
  replace hl : lv_has ls 3 [(0, .ref (ad 0)), (1, .int p), (2, .int q)] := hl
  refine lv_aload_n C.1 C.2.1 dX0_behind_0 rfl (lv_at hl 0 rfl) ?_
  refine lv_iload_n C.1 C.2.1 dX0_behind_1 rfl (lv_at hl 1 rfl) ?_
  refine xt_ci hA hW (xt_runV C hW.1 hW.2.1 cwX0_X0_hasPlace (cx_hasPlace l D cI cL ad S K n wc dn w lw sy sb sh rw rk dr p (by omega)) rfl rfl rfl hl.1 (rest := []) rfl (Nat.le_of_ble_eq_true rfl) ⟨(Nat.le_of_ble_eq_true rfl), (Nat.le_of_ble_eq_true rfl)⟩ ⟨Nat.zero_le _, Nat.zero_le _⟩ dX0_behind_2) (fun r2 u H locs hp2 hW => ?_)
  replace hW : xt_W D A ss.heap (xX ad cI cL S K n wc dn w lw sy sb sh rw rk dr) H locs := hW
  replace hp2 : (r2 = nI 1 ∧ ∃ z1, z1 < n ∧ p = nI z1) ∨ (r2 = nI 0 ∧ ¬ ∃ z1, z1 < n ∧ p = nI z1) := hp2
  rcases hp2 with ⟨rfl, hy1⟩ | ⟨rfl, -⟩
  · replace hl : lv_has ls 3 [(0, .ref (ad 0)), (1, .int p), (2, .int q)] := hl
    refine xt_if_eq C (by omega) dX0_behind_5 (tgt := 29) (by decide) (fun h5 => ?_) (fun h5 => ?_)
    · exfalso
      omega
    · refine lv_aload_n C.1 C.2.1 dX0_behind_8 rfl (lv_at hl 0 rfl) ?_
      refine lv_iload_n C.1 C.2.1 dX0_behind_9 rfl (lv_at hl 2 rfl) ?_
      refine xt_ci hA hW (xt_runV C hW.1 hW.2.1 cwX0_X0_hasState (cx_hasState l D cI cL ad S K n wc dn w lw sy sb sh rw rk dr q (by omega)) rfl rfl rfl hl.1 (rest := []) rfl (Nat.le_of_ble_eq_true rfl) ⟨(Nat.le_of_ble_eq_true rfl), (Nat.le_of_ble_eq_true rfl)⟩ ⟨Nat.zero_le _, Nat.zero_le _⟩ dX0_behind_10) (fun r10 u H locs hp10 hW => ?_)
      replace hW : xt_W D A ss.heap (xX ad cI cL S K n wc dn w lw sy sb sh rw rk dr) H locs := hW
      replace hp10 : (r10 = nI 1 ∧ ∃ z1, z1 < S ∧ q = nI z1) ∨ (r10 = nI 0 ∧ ¬ ∃ z1, z1 < S ∧ q = nI z1) := hp10
      rcases hp10 with ⟨-, hz⟩ | ⟨rfl, -⟩
      · exact absurd (⟨hy1, hz⟩) hno
      · replace hl : lv_has ls 3 [(0, .ref (ad 0)), (1, .int p), (2, .int q)] := hl
        refine xt_if_eq C (by omega) dX0_behind_13 (tgt := 29) (by decide) (fun h13 => ?_) (fun h13 => ?_)
        · refine xt_lconst C 0 dX0_behind_29 (by decide +kernel) ?_
          exact xt_lret C hE () hW (rfl) dX0_behind_30
        · exfalso
          omega
  · replace hl : lv_has ls 3 [(0, .ref (ad 0)), (1, .int p), (2, .int q)] := hl
    refine xt_if_eq C (by omega) dX0_behind_5 (tgt := 29) (by decide) (fun h5 => ?_) (fun h5 => ?_)
    · refine xt_lconst C 0 dX0_behind_29 (by decide +kernel) ?_
      exact xt_lret C hE () hW (rfl) dX0_behind_30
    · exfalso
      omega
set_option maxHeartbeats 4000000 in
set_option maxRecDepth 100000 in
theorem cx_ways (l : Launch) (D : va_G) (cI cL : ClassId) (ad : Nat → Nat) (S K n wc dn : Nat) (w lw sy sb sh rw rk dr : Nat → Nat) : xt_M l yX0_ways cX0_ways 1 (some .int) 0 D cI cL [.ref (ad 0)] (xX ad cI cL S K n wc dn w lw sy sb sh rw rk dr) (xt_Qi D cI cL (xX ad cI cL S K n wc dn w lw sy sb sh rw rk dr) (fun (r : Int32) (u : Unit) => r = nI wc) (fun u => xX ad cI cL S K n wc dn w lw sy sb sh rw rk dr)) := by
  refine xt_start (own := RX0) rfl (by decide) (Nat.le_of_ble_eq_true rfl) (fun pg ev ss mi args below meth cd A Q ls C hE hA hl hW => ?_)
  replace hl : lv_has ls 1 [(0, .ref (ad 0))] := hl
  refine lv_aload_n C.1 C.2.1 dX0_ways_0 rfl (lv_at hl 0 rfl) ?_
  refine xt_get xt_inX0 C hW 0 rfl rfl 8 (by decide) rfl flX0_wayCount rfl dX0_ways_1 ?_
  exact xt_iret C hE () hW (rfl) dX0_ways_4
set_option maxHeartbeats 4000000 in
set_option maxRecDepth 100000 in
theorem cx_ranked_y (l : Launch) (D : va_G) (cI cL : ClassId) (ad : Nat → Nat) (S K n wc dn : Nat) (w lw sy sb sh rw rk dr : Nat → Nat) (i : Nat) (hV : xq_V S K n wc w lw sy sb sh rw rk) (hi : i < min wc 12) : xt_M l yX0_ranked cX0_ranked 2 (some .long) 1 D cI cL [.ref (ad 0), .int (nI i)] (xX ad cI cL S K n wc dn w lw sy sb sh rw rk dr) (xt_Ql D cI cL (xX ad cI cL S K n wc dn w lw sy sb sh rw rk dr) (fun (r : Int64) (u : Unit) => r = lN (rw i)) (fun u => xX ad cI cL S K n wc dn w lw sy sb sh rw rk dr)) := by
  obtain ⟨hS0, hS3, hK0, hK4, hn6, hw, hlw, hsK, hok⟩ := hV
  have hsy : ∀ p, p < n → sy p < 4 := fun p h => Nat.lt_of_lt_of_le (hsK p h) hK4
  have hwc := xq_wc hok hS3 hn6
  refine xt_start (own := RX0) rfl (by decide) (Nat.le_of_ble_eq_true rfl) (fun pg ev ss mi args below meth cd A Q ls C hE hA hl hW => ?_)
  replace hl : lv_has ls 2 [(0, .ref (ad 0)), (1, .int (nI i))] := hl
  refine lv_aload_n C.1 C.2.1 dX0_ranked_0 rfl (lv_at hl 0 rfl) ?_
  refine lv_iload_n C.1 C.2.1 dX0_ranked_1 rfl (lv_at hl 1 rfl) ?_
  refine xt_ci hA hW (xt_runV C hW.1 hW.2.1 cwX0_X0_hasRank (cx_hasRank l D cI cL ad S K n wc dn w lw sy sb sh rw rk dr (nI i) (by omega)) rfl rfl rfl hl.1 (rest := []) rfl (Nat.le_of_ble_eq_true rfl) ⟨(Nat.le_of_ble_eq_true rfl), (Nat.le_of_ble_eq_true rfl)⟩ ⟨Nat.zero_le _, Nat.zero_le _⟩ dX0_ranked_2) (fun r2 u H locs hp2 hW => ?_)
  replace hW : xt_W D A ss.heap (xX ad cI cL S K n wc dn w lw sy sb sh rw rk dr) H locs := hW
  replace hp2 : (r2 = nI 1 ∧ ∃ z1, z1 < min wc 12 ∧ (nI i) = nI z1) ∨ (r2 = nI 0 ∧ ¬ ∃ z1, z1 < min wc 12 ∧ (nI i) = nI z1) := hp2
  rcases hp2 with ⟨rfl, -⟩ | ⟨-, hno⟩
  · replace hl : lv_has ls 2 [(0, .ref (ad 0)), (1, .int (nI i))] := hl
    refine xt_if_eq C (by omega) dX0_ranked_5 (tgt := 17) (by decide) (fun h5 => ?_) (fun h5 => ?_)
    · exfalso
      omega
    · refine lv_aload_n C.1 C.2.1 dX0_ranked_8 rfl (lv_at hl 0 rfl) ?_
      refine xt_get xt_inX0 C hW 0 rfl rfl 9 (by decide) rfl flX0_rankedWeights rfl dX0_ranked_9 ?_
      refine lv_iload_n C.1 C.2.1 dX0_ranked_12 rfl (lv_at hl 1 rfl) ?_
      refine xt_lald C hW 6 rfl (by decide) dX0_ranked_13 (by omega) ?_
      refine lv_goto C.1 C.2.1 dX0_ranked_14 (tgt := 18) (by decide) ?_
      exact xt_lret C hE () hW (rfl) dX0_ranked_18
  · exact absurd (⟨i, by omega, rfl⟩) hno
set_option maxHeartbeats 4000000 in
set_option maxRecDepth 100000 in
theorem cx_ranked_n (l : Launch) (D : va_G) (cI cL : ClassId) (ad : Nat → Nat) (S K n wc dn : Nat) (w lw sy sb sh rw rk dr : Nat → Nat) (q : Int32) (hV : xq_V S K n wc w lw sy sb sh rw rk) (hno : ¬ ∃ j, j < min wc 12 ∧ q = nI j) : xt_M l yX0_ranked cX0_ranked 2 (some .long) 1 D cI cL [.ref (ad 0), .int q] (xX ad cI cL S K n wc dn w lw sy sb sh rw rk dr) (xt_Ql D cI cL (xX ad cI cL S K n wc dn w lw sy sb sh rw rk dr) (fun (r : Int64) (u : Unit) => r = lN 0) (fun u => xX ad cI cL S K n wc dn w lw sy sb sh rw rk dr)) := by
  obtain ⟨hS0, hS3, hK0, hK4, hn6, hw, hlw, hsK, hok⟩ := hV
  have hsy : ∀ p, p < n → sy p < 4 := fun p h => Nat.lt_of_lt_of_le (hsK p h) hK4
  have hwc := xq_wc hok hS3 hn6
  refine xt_start (own := RX0) rfl (by decide) (Nat.le_of_ble_eq_true rfl) (fun pg ev ss mi args below meth cd A Q ls C hE hA hl hW => ?_)
  replace hl : lv_has ls 2 [(0, .ref (ad 0)), (1, .int q)] := hl
  refine lv_aload_n C.1 C.2.1 dX0_ranked_0 rfl (lv_at hl 0 rfl) ?_
  refine lv_iload_n C.1 C.2.1 dX0_ranked_1 rfl (lv_at hl 1 rfl) ?_
  refine xt_ci hA hW (xt_runV C hW.1 hW.2.1 cwX0_X0_hasRank (cx_hasRank l D cI cL ad S K n wc dn w lw sy sb sh rw rk dr q (by omega)) rfl rfl rfl hl.1 (rest := []) rfl (Nat.le_of_ble_eq_true rfl) ⟨(Nat.le_of_ble_eq_true rfl), (Nat.le_of_ble_eq_true rfl)⟩ ⟨Nat.zero_le _, Nat.zero_le _⟩ dX0_ranked_2) (fun r2 u H locs hp2 hW => ?_)
  replace hW : xt_W D A ss.heap (xX ad cI cL S K n wc dn w lw sy sb sh rw rk dr) H locs := hW
  replace hp2 : (r2 = nI 1 ∧ ∃ z1, z1 < min wc 12 ∧ q = nI z1) ∨ (r2 = nI 0 ∧ ¬ ∃ z1, z1 < min wc 12 ∧ q = nI z1) := hp2
  rcases hp2 with ⟨-, hz⟩ | ⟨rfl, -⟩
  · exact absurd (hz) hno
  · replace hl : lv_has ls 2 [(0, .ref (ad 0)), (1, .int q)] := hl
    refine xt_if_eq C (by omega) dX0_ranked_5 (tgt := 17) (by decide) (fun h5 => ?_) (fun h5 => ?_)
    · refine xt_lconst C 0 dX0_ranked_17 (by decide +kernel) ?_
      exact xt_lret C hE () hW (rfl) dX0_ranked_18
    · exfalso
      omega
set_option maxHeartbeats 4000000 in
set_option maxRecDepth 100000 in
theorem cx_stateOf_y (l : Launch) (D : va_G) (cI cL : ClassId) (ad : Nat → Nat) (S K n wc dn : Nat) (w lw sy sb sh rw rk dr : Nat → Nat) (i : Nat) (p : Nat) (hV : xq_V S K n wc w lw sy sb sh rw rk) (hi : i < min wc 12) (hpn : p < n) : xt_M l yX0_stateOf cX0_stateOf 3 (some .int) 1 D cI cL [.ref (ad 0), .int (nI i), .int (nI p)] (xX ad cI cL S K n wc dn w lw sy sb sh rw rk dr) (xt_Qi D cI cL (xX ad cI cL S K n wc dn w lw sy sb sh rw rk dr) (fun (r : Int32) (u : Unit) => r = nI (rk i / 2 ^ (2 * (n - 1 - p)) % 4)) (fun u => xX ad cI cL S K n wc dn w lw sy sb sh rw rk dr)) := by
  obtain ⟨hS0, hS3, hK0, hK4, hn6, hw, hlw, hsK, hok⟩ := hV
  have hsy : ∀ p, p < n → sy p < 4 := fun p h => Nat.lt_of_lt_of_le (hsK p h) hK4
  have hwc := xq_wc hok hS3 hn6
  have hrb := xq_rkb hok hS0 hS3 hn6 hi
  refine xt_start (own := RX0) rfl (by decide) (Nat.le_of_ble_eq_true rfl) (fun pg ev ss mi args below meth cd A Q ls C hE hA hl hW => ?_)
  replace hl : lv_has ls 3 [(0, .ref (ad 0)), (1, .int (nI i)), (2, .int (nI p))] := hl
  refine lv_aload_n C.1 C.2.1 dX0_stateOf_0 rfl (lv_at hl 0 rfl) ?_
  refine lv_iload_n C.1 C.2.1 dX0_stateOf_1 rfl (lv_at hl 1 rfl) ?_
  refine xt_ci hA hW (xt_runV C hW.1 hW.2.1 cwX0_X0_hasRank (cx_hasRank l D cI cL ad S K n wc dn w lw sy sb sh rw rk dr (nI i) (by omega)) rfl rfl rfl hl.1 (rest := []) rfl (Nat.le_of_ble_eq_true rfl) ⟨(Nat.le_of_ble_eq_true rfl), (Nat.le_of_ble_eq_true rfl)⟩ ⟨Nat.zero_le _, Nat.zero_le _⟩ dX0_stateOf_2) (fun r2 u H locs hp2 hW => ?_)
  replace hW : xt_W D A ss.heap (xX ad cI cL S K n wc dn w lw sy sb sh rw rk dr) H locs := hW
  replace hp2 : (r2 = nI 1 ∧ ∃ z1, z1 < min wc 12 ∧ (nI i) = nI z1) ∨ (r2 = nI 0 ∧ ¬ ∃ z1, z1 < min wc 12 ∧ (nI i) = nI z1) := hp2
  rcases hp2 with ⟨rfl, -⟩ | ⟨-, hno⟩
  · replace hl : lv_has ls 3 [(0, .ref (ad 0)), (1, .int (nI i)), (2, .int (nI p))] := hl
    refine xt_if_eq C (by omega) dX0_stateOf_5 (tgt := 16) (by decide) (fun h5 => ?_) (fun h5 => ?_)
    · exfalso
      omega
    · refine lv_aload_n C.1 C.2.1 dX0_stateOf_8 rfl (lv_at hl 0 rfl) ?_
      refine lv_iload_n C.1 C.2.1 dX0_stateOf_9 rfl (lv_at hl 2 rfl) ?_
      refine xt_ci hA hW (xt_runV C hW.1 hW.2.1 cwX0_X0_hasPlace (cx_hasPlace l D cI cL ad S K n wc dn w lw sy sb sh rw rk dr (nI p) (by omega)) rfl rfl rfl hl.1 (rest := []) rfl (Nat.le_of_ble_eq_true rfl) ⟨(Nat.le_of_ble_eq_true rfl), (Nat.le_of_ble_eq_true rfl)⟩ ⟨Nat.zero_le _, Nat.zero_le _⟩ dX0_stateOf_10) (fun r10 u H locs hp10 hW => ?_)
      replace hW : xt_W D A ss.heap (xX ad cI cL S K n wc dn w lw sy sb sh rw rk dr) H locs := hW
      replace hp10 : (r10 = nI 1 ∧ ∃ z1, z1 < n ∧ (nI p) = nI z1) ∨ (r10 = nI 0 ∧ ¬ ∃ z1, z1 < n ∧ (nI p) = nI z1) := hp10
      rcases hp10 with ⟨rfl, -⟩ | ⟨-, hno⟩
      · replace hl : lv_has ls 3 [(0, .ref (ad 0)), (1, .int (nI i)), (2, .int (nI p))] := hl
        refine xt_if_ne C (by omega) dX0_stateOf_13 (tgt := 18) (by decide) (fun h13 => ?_) (fun h13 => ?_)
        · refine lv_aload_n C.1 C.2.1 dX0_stateOf_18 rfl (lv_at hl 0 rfl) ?_
          refine xt_get xt_inX0 C hW 0 rfl rfl 10 (by decide) rfl flX0_rankedWays rfl dX0_stateOf_19 ?_
          refine lv_iload_n C.1 C.2.1 dX0_stateOf_22 rfl (lv_at hl 1 rfl) ?_
          refine xt_iald C hW 7 rfl (by decide) dX0_stateOf_23 (by omega) ?_
          refine xt_iconst C 2 dX0_stateOf_24 (by decide +kernel) ?_
          refine lv_aload_n C.1 C.2.1 dX0_stateOf_25 rfl (lv_at hl 0 rfl) ?_
          refine xt_get xt_inX0 C hW 0 rfl rfl 4 (by decide) rfl flX0_seenCount rfl dX0_stateOf_26 ?_
          refine xt_iconst C 1 dX0_stateOf_29 (by decide +kernel) ?_
          refine xt_isub C dX0_stateOf_30 (by omega) ?_
          refine lv_iload_n C.1 C.2.1 dX0_stateOf_31 rfl (lv_at hl 2 rfl) ?_
          refine xt_isub C dX0_stateOf_32 (by omega) ?_
          refine xt_imul C dX0_stateOf_33 ?_
          refine W.eq (g2 := F0 mi 34 ls [.int (nI (2 * ((n - 1) - p))), .int (nI (rk i))]) rfl ?_
          refine xt_ishr C dX0_stateOf_34 (by omega) (by omega) ?_
          refine xt_iconst C 3 dX0_stateOf_35 (by decide +kernel) ?_
          refine xt_and3 C dX0_stateOf_36 (Nat.lt_of_le_of_lt (Nat.div_le_self _ _) (by omega)) ?_
          exact xt_iret C hE () hW (rfl) dX0_stateOf_37
        · exfalso
          omega
      · exact absurd (⟨p, by omega, rfl⟩) hno
  · exact absurd (⟨i, by omega, rfl⟩) hno
set_option maxHeartbeats 4000000 in
set_option maxRecDepth 100000 in
theorem cx_stateOf_n (l : Launch) (D : va_G) (cI cL : ClassId) (ad : Nat → Nat) (S K n wc dn : Nat) (w lw sy sb sh rw rk dr : Nat → Nat) (p : Int32) (q : Int32) (hV : xq_V S K n wc w lw sy sb sh rw rk) (hno : ¬ ((∃ j, j < min wc 12 ∧ p = nI j) ∧ ∃ j, j < n ∧ q = nI j)) : xt_M l yX0_stateOf cX0_stateOf 3 (some .int) 1 D cI cL [.ref (ad 0), .int p, .int q] (xX ad cI cL S K n wc dn w lw sy sb sh rw rk dr) (xt_Qi D cI cL (xX ad cI cL S K n wc dn w lw sy sb sh rw rk dr) (fun (r : Int32) (u : Unit) => r =  (-1)) (fun u => xX ad cI cL S K n wc dn w lw sy sb sh rw rk dr)) := by
  obtain ⟨hS0, hS3, hK0, hK4, hn6, hw, hlw, hsK, hok⟩ := hV
  have hsy : ∀ p, p < n → sy p < 4 := fun p h => Nat.lt_of_lt_of_le (hsK p h) hK4
  have hwc := xq_wc hok hS3 hn6
  refine xt_start (own := RX0) rfl (by decide) (Nat.le_of_ble_eq_true rfl) (fun pg ev ss mi args below meth cd A Q ls C hE hA hl hW => ?_)
  replace hl : lv_has ls 3 [(0, .ref (ad 0)), (1, .int p), (2, .int q)] := hl
  refine lv_aload_n C.1 C.2.1 dX0_stateOf_0 rfl (lv_at hl 0 rfl) ?_
  refine lv_iload_n C.1 C.2.1 dX0_stateOf_1 rfl (lv_at hl 1 rfl) ?_
  refine xt_ci hA hW (xt_runV C hW.1 hW.2.1 cwX0_X0_hasRank (cx_hasRank l D cI cL ad S K n wc dn w lw sy sb sh rw rk dr p (by omega)) rfl rfl rfl hl.1 (rest := []) rfl (Nat.le_of_ble_eq_true rfl) ⟨(Nat.le_of_ble_eq_true rfl), (Nat.le_of_ble_eq_true rfl)⟩ ⟨Nat.zero_le _, Nat.zero_le _⟩ dX0_stateOf_2) (fun r2 u H locs hp2 hW => ?_)
  replace hW : xt_W D A ss.heap (xX ad cI cL S K n wc dn w lw sy sb sh rw rk dr) H locs := hW
  replace hp2 : (r2 = nI 1 ∧ ∃ z1, z1 < min wc 12 ∧ p = nI z1) ∨ (r2 = nI 0 ∧ ¬ ∃ z1, z1 < min wc 12 ∧ p = nI z1) := hp2
  rcases hp2 with ⟨rfl, hy1⟩ | ⟨rfl, -⟩
  · replace hl : lv_has ls 3 [(0, .ref (ad 0)), (1, .int p), (2, .int q)] := hl
    refine xt_if_eq C (by omega) dX0_stateOf_5 (tgt := 16) (by decide) (fun h5 => ?_) (fun h5 => ?_)
    · exfalso
      omega
    · refine lv_aload_n C.1 C.2.1 dX0_stateOf_8 rfl (lv_at hl 0 rfl) ?_
      refine lv_iload_n C.1 C.2.1 dX0_stateOf_9 rfl (lv_at hl 2 rfl) ?_
      refine xt_ci hA hW (xt_runV C hW.1 hW.2.1 cwX0_X0_hasPlace (cx_hasPlace l D cI cL ad S K n wc dn w lw sy sb sh rw rk dr q (by omega)) rfl rfl rfl hl.1 (rest := []) rfl (Nat.le_of_ble_eq_true rfl) ⟨(Nat.le_of_ble_eq_true rfl), (Nat.le_of_ble_eq_true rfl)⟩ ⟨Nat.zero_le _, Nat.zero_le _⟩ dX0_stateOf_10) (fun r10 u H locs hp10 hW => ?_)
      replace hW : xt_W D A ss.heap (xX ad cI cL S K n wc dn w lw sy sb sh rw rk dr) H locs := hW
      replace hp10 : (r10 = nI 1 ∧ ∃ z1, z1 < n ∧ q = nI z1) ∨ (r10 = nI 0 ∧ ¬ ∃ z1, z1 < n ∧ q = nI z1) := hp10
      rcases hp10 with ⟨-, hz⟩ | ⟨rfl, -⟩
      · exact absurd (⟨hy1, hz⟩) hno
      · replace hl : lv_has ls 3 [(0, .ref (ad 0)), (1, .int p), (2, .int q)] := hl
        refine xt_if_ne C (by omega) dX0_stateOf_13 (tgt := 18) (by decide) (fun h13 => ?_) (fun h13 => ?_)
        · exfalso
          omega
        · refine lv_iconst (v := -1) C.1 C.2.1 dX0_stateOf_16 (by decide +kernel) ?_
          exact xt_iret C hE () hW (rfl) dX0_stateOf_17
  · replace hl : lv_has ls 3 [(0, .ref (ad 0)), (1, .int p), (2, .int q)] := hl
    refine xt_if_eq C (by omega) dX0_stateOf_5 (tgt := 16) (by decide) (fun h5 => ?_) (fun h5 => ?_)
    · refine lv_iconst (v := -1) C.1 C.2.1 dX0_stateOf_16 (by decide +kernel) ?_
      exact xt_iret C hE () hW (rfl) dX0_stateOf_17
    · exfalso
      omega
set_option maxHeartbeats 4000000 in
set_option maxRecDepth 100000 in
theorem cx_drawn_y (l : Launch) (D : va_G) (cI cL : ClassId) (ad : Nat → Nat) (S K n wc dn : Nat) (w lw sy sb sh rw rk dr : Nat → Nat) (j : Nat) (hd6 : dn ≤ 6) (hj : j < dn) : xt_M l yX0_drawn cX0_drawn 2 (some .int) 0 D cI cL [.ref (ad 0), .int (nI j)] (xX ad cI cL S K n wc dn w lw sy sb sh rw rk dr) (xt_Qi D cI cL (xX ad cI cL S K n wc dn w lw sy sb sh rw rk dr) (fun (r : Int32) (u : Unit) => r = nI (dr j)) (fun u => xX ad cI cL S K n wc dn w lw sy sb sh rw rk dr)) := by
  refine xt_start (own := RX0) rfl (by decide) (Nat.le_of_ble_eq_true rfl) (fun pg ev ss mi args below meth cd A Q ls C hE hA hl hW => ?_)
  replace hl : lv_has ls 2 [(0, .ref (ad 0)), (1, .int (nI j))] := hl
  refine lv_iload_n C.1 C.2.1 dX0_drawn_0 rfl (lv_at hl 1 rfl) ?_
  refine xt_if_lt C (by omega) dX0_drawn_1 (tgt := 21) (by decide) ?_
  refine lv_iload_n C.1 C.2.1 dX0_drawn_4 rfl (lv_at hl 1 rfl) ?_
  refine lv_aload_n C.1 C.2.1 dX0_drawn_5 rfl (lv_at hl 0 rfl) ?_
  refine xt_get xt_inX0 C hW 0 rfl rfl 11 (by decide) rfl flX0_drawnCount rfl dX0_drawn_6 ?_
  refine xt_icmp_ge C (by omega) (by omega) dX0_drawn_9 (tgt := 21) (by decide) (fun h9 => ?_) (fun h9 => ?_)
  · exfalso
    omega
  · refine lv_aload_n C.1 C.2.1 dX0_drawn_12 rfl (lv_at hl 0 rfl) ?_
    refine xt_get xt_inX0 C hW 0 rfl rfl 12 (by decide) rfl flX0_drawnStates rfl dX0_drawn_13 ?_
    refine lv_iload_n C.1 C.2.1 dX0_drawn_16 rfl (lv_at hl 1 rfl) ?_
    refine xt_iald C hW 8 rfl (by decide) dX0_drawn_17 (by omega) ?_
    refine lv_goto C.1 C.2.1 dX0_drawn_18 (tgt := 22) (by decide) ?_
    exact xt_iret C hE () hW (rfl) dX0_drawn_22
set_option maxHeartbeats 4000000 in
set_option maxRecDepth 100000 in
theorem cx_drawn_n (l : Launch) (D : va_G) (cI cL : ClassId) (ad : Nat → Nat) (S K n wc dn : Nat) (w lw sy sb sh rw rk dr : Nat → Nat) (q : Int32) (hd6 : dn ≤ 6) (hno : ¬ ∃ j, j < dn ∧ q = nI j) : xt_M l yX0_drawn cX0_drawn 2 (some .int) 0 D cI cL [.ref (ad 0), .int q] (xX ad cI cL S K n wc dn w lw sy sb sh rw rk dr) (xt_Qi D cI cL (xX ad cI cL S K n wc dn w lw sy sb sh rw rk dr) (fun (r : Int32) (u : Unit) => r =  (-1)) (fun u => xX ad cI cL S K n wc dn w lw sy sb sh rw rk dr)) := by
  refine xt_start (own := RX0) rfl (by decide) (Nat.le_of_ble_eq_true rfl) (fun pg ev ss mi args below meth cd A Q ls C hE hA hl hW => ?_)
  replace hl : lv_has ls 2 [(0, .ref (ad 0)), (1, .int q)] := hl
  refine lv_iload_n C.1 C.2.1 dX0_drawn_0 rfl (lv_at hl 1 rfl) ?_
  refine lv_if_lt C.1 C.2.1 dX0_drawn_1 (tgt := 21) (by decide) (fun h1 => ?_) (fun h1 => ?_)
  · refine lv_iconst (v := -1) C.1 C.2.1 dX0_drawn_21 (by decide +kernel) ?_
    exact xt_iret C hE () hW (rfl) dX0_drawn_22
  · refine lv_iload_n C.1 C.2.1 dX0_drawn_4 rfl (lv_at hl 1 rfl) ?_
    refine lv_aload_n C.1 C.2.1 dX0_drawn_5 rfl (lv_at hl 0 rfl) ?_
    refine xt_get xt_inX0 C hW 0 rfl rfl 11 (by decide) rfl flX0_drawnCount rfl dX0_drawn_6 ?_
    refine lv_icmp_ge C.1 C.2.1 dX0_drawn_9 (tgt := 21) (by decide) (fun h9 => ?_) (fun h9 => ?_)
    · refine lv_iconst (v := -1) C.1 C.2.1 dX0_drawn_21 (by decide +kernel) ?_
      exact xt_iret C hE () hW (rfl) dX0_drawn_22
    · exfalso
      exact hno (xq_yes (by omega) h1 h9)
end
section
theorem xq_gs {i a b : Nat} (hb0 : b ≠ 0) (ha : a < 2 ^ 63) (hb : b < 2 ^ 63) (hi : i ≤ 127) (hm : i = 0 ∨ (b < a ∧ a * b < 2 ^ (127 - i))) : i + 1 ≤ 127 ∧ (a % b < b ∧ b * (a % b) < 2 ^ (127 - (i + 1))) := by
  have hlt : a % b < b := Nat.mod_lt _ (by omega)
  rcases hm with rfl | ⟨h1, h2⟩
  · refine ⟨by omega, hlt, ?_⟩
    have h3 : b * (a % b) ≤ b * b := Nat.mul_le_mul_left _ (Nat.le_of_lt hlt)
    have h4 : b * b < 2 ^ 63 * 2 ^ 63 := Nat.mul_lt_mul'' hb hb
    have h5 : (2 : Nat) ^ 63 * 2 ^ 63 = 2 ^ (127 - (0 + 1)) := by decide
    omega
  · have hab : a * b ≠ 0 := Nat.mul_ne_zero (by omega) hb0
    have hne : i ≠ 127 := fun q => by
      rw [q] at h2
      have : (2 : Nat) ^ (127 - 127) = 1 := rfl
      omega
    refine ⟨by omega, hlt, ?_⟩
    have e : 127 - i = (127 - (i + 1)) + 1 := by omega
    rw [e, Nat.pow_succ] at h2
    have h3 : 2 * (a % b) ≤ a := by
      have h4 := Nat.div_add_mod a b
      have h5 : 1 ≤ a / b := (Nat.one_le_div_iff (by omega)).mpr (Nat.le_of_lt h1)
      have h6 : b * 1 ≤ b * (a / b) := Nat.mul_le_mul_left _ h5
      omega
    have h7 : b * (2 * (a % b)) ≤ b * a := Nat.mul_le_mul_left _ h3
    have h8 : b * (2 * (a % b)) = 2 * (b * (a % b)) := by rw [← Nat.mul_assoc, Nat.mul_comm b 2, Nat.mul_assoc]
    have h9 : b * a = a * b := Nat.mul_comm _ _
    omega
theorem xq_gcdb {x y : Nat} (hx : x ≠ 0) (hb : x < 2 ^ 63) : Nat.gcd x y < 2 ^ 63 := Nat.lt_of_le_of_lt (Nat.gcd_le_left y (by omega)) hb
theorem xq_gcdp {x y : Nat} (hx : x ≠ 0) : 0 < Nat.gcd x y := Nat.gcd_pos_of_pos_left y (by omega)
def xq_top (x y : Nat) : Nat := if x = 0 then 0 else x / Nat.gcd x y
def xq_bot (x y : Nat) : Nat := if x = 0 then 1 else y / Nat.gcd x y
/-- a part of a fraction -/
def xq_pt (x y : Nat) (k : Int32) : Nat := if k = nI 0 then xq_top x y else if k = nI 1 then xq_bot x y else 0
theorem xq_pt0 (x y : Nat) : xq_pt x y (nI 0) = xq_top x y := if_pos rfl
theorem xq_pt1 (x y : Nat) : xq_pt x y (nI 1) = xq_bot x y := by unfold xq_pt; rw [if_neg (by decide), if_pos rfl]
theorem xq_ptx {x y : Nat} {k : Int32} (h0 : ¬ k = nI 0) (h1 : ¬ k = nI 1) : xq_pt x y k = 0 := by unfold xq_pt; rw [if_neg h0, if_neg h1]
theorem xq_top0 {x : Nat} (y : Nat) (h : x = 0) : xq_top x y = 0 := if_pos h
theorem xq_top1 {x : Nat} (y : Nat) (h : x ≠ 0) : xq_top x y = x / Nat.gcd x y := if_neg h
theorem xq_bot0 {x : Nat} (y : Nat) (h : x = 0) : xq_bot x y = 1 := if_pos h
theorem xq_bot1 {x : Nat} (y : Nat) (h : x ≠ 0) : xq_bot x y = y / Nat.gcd x y := if_neg h
/-- how many columns a row of weights has, how many rows a kind -/
def xq_cl (S K a : Nat) : Nat := if a = 2 then K else S
def xq_rw (S a : Nat) : Nat := if a = 0 then 1 else S
theorem xq_sym {e : Nat → Nat → Nat → Nat} {S n i f c : Nat} {sy : Nat → Nat} (hi : i < n) (h : sy i = c) : ms_sum (fun z1 => if sy z1 = c then ms_bf e S z1 f * ms_bh e S n (n - 1 - z1) f else 0) i + (if i < n then ms_bf e S i f * ms_bh e S n (n - 1 - i) f else 0) = ms_sum (fun z1 => if sy z1 = c then ms_bf e S z1 f * ms_bh e S n (n - 1 - z1) f else 0) (i + 1) := by
  rw [ms_sum_succ, if_pos hi, if_pos h]
theorem xq_syn {e : Nat → Nat → Nat → Nat} {S n i f c : Nat} {sy : Nat → Nat} (h : sy i ≠ c) : ms_sum (fun z1 => if sy z1 = c then ms_bf e S z1 f * ms_bh e S n (n - 1 - z1) f else 0) i = ms_sum (fun z1 => if sy z1 = c then ms_bf e S z1 f * ms_bh e S n (n - 1 - z1) f else 0) (i + 1) := by
  rw [ms_sum_succ, if_neg h, Nat.add_zero]
set_option maxHeartbeats 4000000 in
set_option maxRecDepth 100000 in
theorem cx_commonDivisor (l : Launch) (D : va_G) (cI cL : ClassId) (ws : va_W) (x : Nat) (y : Nat) (hxb : x < 2 ^ 63) (hyb : y < 2 ^ 63) : xt_M l yX0_commonDivisor cX0_commonDivisor 11 (some .long) 0 D cI cL [.long (lN x), .long (lN y)] (ws) (xt_Ql D cI cL (ws) (fun (r : Int64) (u : Unit) => r = lN (Nat.gcd x y)) (fun u => ws)) := by
  refine xt_start (own := RX0) rfl (by decide) (Nat.le_of_ble_eq_true rfl) (fun pg ev ss mi args below meth cd A Q ls C hE hA hl hW => ?_)
  replace hl : lv_has ls 11 [(0, .long (lN x)), (2, .long (lN y))] := hl
  refine lv_lload_n C.1 C.2.1 dX0_commonDivisor_0 rfl (lv_at hl 0 rfl) ?_
  refine lv_lstore C.1 C.2.1 dX0_commonDivisor_1 hl (by decide) rfl (fun ls hl => ?_)
  replace hl : lv_has ls 11 [(4, .long (lN x)), (0, .long (lN x)), (2, .long (lN y))] := hl
  refine lv_lload_n C.1 C.2.1 dX0_commonDivisor_3 rfl (lv_at hl 2 rfl) ?_
  refine lv_lstore C.1 C.2.1 dX0_commonDivisor_4 hl (by decide) rfl (fun ls hl => ?_)
  replace hl : lv_has ls 11 [(6, .long (lN y)), (4, .long (lN x)), (0, .long (lN x)), (2, .long (lN y))] := hl
  refine xt_iconst C 0 dX0_commonDivisor_6 (by decide +kernel) ?_
  refine lv_istore C.1 C.2.1 dX0_commonDivisor_7 hl (by decide) rfl (fun ls hl => ?_)
  replace hl : lv_has ls 11 [(8, .int (nI 0)), (6, .long (lN y)), (4, .long (lN x)), (0, .long (lN x)), (2, .long (lN y))] := hl
  have lp9 : ∀ (q : Nat) (i : Nat) (a : Nat) (b : Nat), 1000 - i = q → (i ≤ 127) → (a < 2 ^ 63) → (b < 2 ^ 63) → (Nat.gcd a b = Nat.gcd x y) → (i = 0 ∨ (b < a ∧ a * b < 2 ^ (127 - i))) → ∀ (ls : Array Slot) (H : Heap) (locs : List Loc), lv_has ls 11 [(8, .int (nI i)), (6, .long (lN b)), (4, .long (lN a))] → xt_W D A ss.heap (ws) H locs → W pg l ev (xt_R 0) ss mi args below meth cd H locs 0 0 Q (F0 mi 9 ls []) := by
    intro q
    induction q using Nat.strongRecOn with
    | _ q ih9 =>
      intro i a b hq9 hi ha hb hg hm ls H locs hl hW
      refine lv_iload C.1 C.2.1 dX0_commonDivisor_9 (lv_at hl 0 rfl) ?_
      refine xt_sipush C 1000 dX0_commonDivisor_11 (by decide +kernel) ?_
      refine xt_icmp_ge C (by omega) (by omega) dX0_commonDivisor_14 (tgt := 45) (by decide) (fun h14 => ?_) (fun h14 => ?_)
      · exfalso
        omega
      · refine lv_lload C.1 C.2.1 dX0_commonDivisor_17 (lv_at hl 1 rfl) ?_
        refine xt_lconst C 0 dX0_commonDivisor_19 (by decide +kernel) ?_
        refine xt_l_eq C (hb) (by decide) dX0_commonDivisor_20 dX0_commonDivisor_21 (tgt := 45) (by decide) (fun h20 => ?_) (fun h20 => ?_)
        · refine lv_lload C.1 C.2.1 dX0_commonDivisor_45 (lv_at hl 2 rfl) ?_
          exact xt_lret C hE () hW (by show lN a = lN _; rw [← hg, show b = 0 from h20, Nat.gcd_zero_right]) dX0_commonDivisor_47
        · refine lv_lload C.1 C.2.1 dX0_commonDivisor_24 (lv_at hl 2 rfl) ?_
          refine lv_lload C.1 C.2.1 dX0_commonDivisor_26 (lv_at hl 1 rfl) ?_
          refine xt_lrem C dX0_commonDivisor_28 (by omega) (ha) (hb) ?_
          refine lv_lstore C.1 C.2.1 dX0_commonDivisor_29 hl (by decide) rfl (fun ls hl => ?_)
          replace hl : lv_has ls 11 [(9, .long (lN (a % b))), (8, .int (nI i)), (6, .long (lN b)), (4, .long (lN a))] := hl
          refine lv_lload C.1 C.2.1 dX0_commonDivisor_31 (lv_at hl 2 rfl) ?_
          refine lv_lstore C.1 C.2.1 dX0_commonDivisor_33 hl (by decide) rfl (fun ls hl => ?_)
          replace hl : lv_has ls 11 [(4, .long (lN b)), (9, .long (lN (a % b))), (8, .int (nI i)), (6, .long (lN b))] := hl
          refine lv_lload C.1 C.2.1 dX0_commonDivisor_35 (lv_at hl 1 rfl) ?_
          refine lv_lstore C.1 C.2.1 dX0_commonDivisor_37 hl (by decide) rfl (fun ls hl => ?_)
          replace hl : lv_has ls 11 [(6, .long (lN (a % b))), (4, .long (lN b)), (9, .long (lN (a % b))), (8, .int (nI i))] := hl
          refine lv_iinc (k := 3) C.1 C.2.1 dX0_commonDivisor_39 hl rfl xt_inc (by decide) rfl (fun ls hl => ?_)
          replace hl : lv_has ls 11 [(8, .int (nI (i + 1))), (6, .long (lN (a % b))), (4, .long (lN b)), (9, .long (lN (a % b)))] := hl
          refine lv_goto C.1 C.2.1 dX0_commonDivisor_42 (tgt := 9) (by decide) ?_
          exact ih9 _ (by omega) (i + 1) b (a % b) rfl ((xq_gs h20 ha hb hi hm).1) (hb) (Nat.lt_trans (Nat.mod_lt _ (by omega)) hb) (by rw [ms_gcd_step (by omega)]; exact hg) (Or.inr (xq_gs h20 ha hb hi hm).2) ls _ _ (lv_sub hl [0, 1, 2] rfl) hW
  exact lp9 _ 0 x y rfl (Nat.zero_le _) (hxb) (hyb) (rfl) (Or.inl rfl) ls _ _ (lv_sub hl [0, 1, 2] rfl) hW
set_option maxHeartbeats 4000000 in
set_option maxRecDepth 100000 in
theorem cx_partOf (l : Launch) (D : va_G) (cI cL : ClassId) (ws : va_W) (x : Nat) (y : Nat) (k : Int32) (hxb : x < 2 ^ 63) (hyb : y < 2 ^ 63) : xt_M l yX0_partOf cX0_partOf 7 (some .long) 1 D cI cL [.long (lN x), .long (lN y), .int k] (ws) (xt_Ql D cI cL (ws) (fun (r : Int64) (u : Unit) => r = lN (xq_pt x y k)) (fun u => ws)) := by
  refine xt_start (own := RX0) rfl (by decide) (Nat.le_of_ble_eq_true rfl) (fun pg ev ss mi args below meth cd A Q ls C hE hA hl hW => ?_)
  replace hl : lv_has ls 7 [(0, .long (lN x)), (2, .long (lN y)), (4, .int k)] := hl
  by_cases e0 : k = nI 0
  · subst e0
    replace hl : lv_has ls 7 [(0, .long (lN x)), (2, .long (lN y)), (4, .int (nI 0))] := hl
    refine lv_iload C.1 C.2.1 dX0_partOf_0 (lv_at hl 2 rfl) ?_
    refine xt_if_eq C (by omega) dX0_partOf_2 (tgt := 13) (by decide) (fun h2 => ?_) (fun h2 => ?_)
    · refine lv_lload_n C.1 C.2.1 dX0_partOf_13 rfl (lv_at hl 0 rfl) ?_
      refine lv_lload_n C.1 C.2.1 dX0_partOf_14 rfl (lv_at hl 1 rfl) ?_
      refine xt_cl hA hW (xt_runS C hW.1 hW.2.1 cwX0_X0_commonDivisor (cx_commonDivisor l D cI cL (ws) x y (hxb) (hyb)) rfl hl.1 (rest := []) rfl (Nat.le_of_ble_eq_true rfl) ⟨(Nat.le_of_ble_eq_true rfl), (Nat.le_of_ble_eq_true rfl)⟩ ⟨Nat.zero_le _, Nat.zero_le _⟩ dX0_partOf_15) (fun r15 u H locs hp15 hW => ?_)
      replace hW : xt_W D A ss.heap (ws) H locs := hW
      subst hp15
      refine lv_lstore C.1 C.2.1 dX0_partOf_18 hl (by decide) rfl (fun ls hl => ?_)
      replace hl : lv_has ls 7 [(5, .long (lN (Nat.gcd x y))), (0, .long (lN x)), (2, .long (lN y)), (4, .int (nI 0))] := hl
      refine lv_lload_n C.1 C.2.1 dX0_partOf_20 rfl (lv_at hl 1 rfl) ?_
      refine xt_lconst C 0 dX0_partOf_21 (by decide +kernel) ?_
      refine xt_l_eq C (hxb) (by decide) dX0_partOf_22 dX0_partOf_23 (tgt := 33) (by decide) (fun h22 => ?_) (fun h22 => ?_)
      · refine lv_iload C.1 C.2.1 dX0_partOf_33 (lv_at hl 3 rfl) ?_
        refine xt_i2l C dX0_partOf_35 (by decide) ?_
        exact xt_lret C hE () hW (by show lN _ = lN _; first | rw [xq_pt0, xq_top0 y h22] | rw [xq_pt0, xq_top1 y h22]) dX0_partOf_36
      · refine lv_lload C.1 C.2.1 dX0_partOf_26 (lv_at hl 0 rfl) ?_
        refine xt_lconst C 0 dX0_partOf_28 (by decide +kernel) ?_
        refine xt_l_ne C (xq_gcdb h22 hxb) (by decide) dX0_partOf_29 dX0_partOf_30 (tgt := 37) (by decide) (fun h29 => ?_) (fun h29 => ?_)
        · refine lv_iload C.1 C.2.1 dX0_partOf_37 (lv_at hl 3 rfl) ?_
          refine xt_if_ne C (by omega) dX0_partOf_39 (tgt := 46) (by decide) (fun h39 => ?_) (fun h39 => ?_)
          · exfalso
            omega
          · refine lv_lload_n C.1 C.2.1 dX0_partOf_42 rfl (lv_at hl 1 rfl) ?_
            refine lv_goto C.1 C.2.1 dX0_partOf_43 (tgt := 47) (by decide) ?_
            refine lv_lload C.1 C.2.1 dX0_partOf_47 (lv_at hl 0 rfl) ?_
            refine xt_ldiv C dX0_partOf_49 (xq_gcdp h22) (by first | exact hxb | exact hyb) (xq_gcdb h22 hxb) ?_
            exact xt_lret C hE () hW (by show lN _ = lN _; first | rw [xq_pt0, xq_top0 y h22] | rw [xq_pt0, xq_top1 y h22]) dX0_partOf_50
        · exfalso
          have := xq_gcdp (y := y) h22
          omega
    · exfalso
      omega
  by_cases e1 : k = nI 1
  · subst e1
    replace hl : lv_has ls 7 [(0, .long (lN x)), (2, .long (lN y)), (4, .int (nI 1))] := hl
    refine lv_iload C.1 C.2.1 dX0_partOf_0 (lv_at hl 2 rfl) ?_
    refine xt_if_eq C (by omega) dX0_partOf_2 (tgt := 13) (by decide) (fun h2 => ?_) (fun h2 => ?_)
    · exfalso
      omega
    · refine lv_iload C.1 C.2.1 dX0_partOf_5 (lv_at hl 2 rfl) ?_
      refine xt_iconst C 1 dX0_partOf_7 (by decide +kernel) ?_
      refine xt_icmp_eq C (by omega) (by omega) dX0_partOf_8 (tgt := 13) (by decide) (fun h8 => ?_) (fun h8 => ?_)
      · refine lv_lload_n C.1 C.2.1 dX0_partOf_13 rfl (lv_at hl 0 rfl) ?_
        refine lv_lload_n C.1 C.2.1 dX0_partOf_14 rfl (lv_at hl 1 rfl) ?_
        refine xt_cl hA hW (xt_runS C hW.1 hW.2.1 cwX0_X0_commonDivisor (cx_commonDivisor l D cI cL (ws) x y (hxb) (hyb)) rfl hl.1 (rest := []) rfl (Nat.le_of_ble_eq_true rfl) ⟨(Nat.le_of_ble_eq_true rfl), (Nat.le_of_ble_eq_true rfl)⟩ ⟨Nat.zero_le _, Nat.zero_le _⟩ dX0_partOf_15) (fun r15 u H locs hp15 hW => ?_)
        replace hW : xt_W D A ss.heap (ws) H locs := hW
        subst hp15
        refine lv_lstore C.1 C.2.1 dX0_partOf_18 hl (by decide) rfl (fun ls hl => ?_)
        replace hl : lv_has ls 7 [(5, .long (lN (Nat.gcd x y))), (0, .long (lN x)), (2, .long (lN y)), (4, .int (nI 1))] := hl
        refine lv_lload_n C.1 C.2.1 dX0_partOf_20 rfl (lv_at hl 1 rfl) ?_
        refine xt_lconst C 0 dX0_partOf_21 (by decide +kernel) ?_
        refine xt_l_eq C (hxb) (by decide) dX0_partOf_22 dX0_partOf_23 (tgt := 33) (by decide) (fun h22 => ?_) (fun h22 => ?_)
        · refine lv_iload C.1 C.2.1 dX0_partOf_33 (lv_at hl 3 rfl) ?_
          refine xt_i2l C dX0_partOf_35 (by decide) ?_
          exact xt_lret C hE () hW (by show lN _ = lN _; first | rw [xq_pt1, xq_bot0 y h22] | rw [xq_pt1, xq_bot1 y h22]) dX0_partOf_36
        · refine lv_lload C.1 C.2.1 dX0_partOf_26 (lv_at hl 0 rfl) ?_
          refine xt_lconst C 0 dX0_partOf_28 (by decide +kernel) ?_
          refine xt_l_ne C (xq_gcdb h22 hxb) (by decide) dX0_partOf_29 dX0_partOf_30 (tgt := 37) (by decide) (fun h29 => ?_) (fun h29 => ?_)
          · refine lv_iload C.1 C.2.1 dX0_partOf_37 (lv_at hl 3 rfl) ?_
            refine xt_if_ne C (by omega) dX0_partOf_39 (tgt := 46) (by decide) (fun h39 => ?_) (fun h39 => ?_)
            · refine lv_lload_n C.1 C.2.1 dX0_partOf_46 rfl (lv_at hl 2 rfl) ?_
              refine lv_lload C.1 C.2.1 dX0_partOf_47 (lv_at hl 0 rfl) ?_
              refine xt_ldiv C dX0_partOf_49 (xq_gcdp h22) (by first | exact hxb | exact hyb) (xq_gcdb h22 hxb) ?_
              exact xt_lret C hE () hW (by show lN _ = lN _; first | rw [xq_pt1, xq_bot0 y h22] | rw [xq_pt1, xq_bot1 y h22]) dX0_partOf_50
            · exfalso
              omega
          · exfalso
            have := xq_gcdp (y := y) h22
            omega
      · exfalso
        omega
  refine lv_iload C.1 C.2.1 dX0_partOf_0 (lv_at hl 2 rfl) ?_
  refine lv_if_eq C.1 C.2.1 dX0_partOf_2 (tgt := 13) (by decide) (fun h2 => ?_) (fun h2 => ?_)
  · exfalso
    exact e0 (by rw [nI_0]; exact h2)
  · refine lv_iload C.1 C.2.1 dX0_partOf_5 (lv_at hl 2 rfl) ?_
    refine xt_iconst C 1 dX0_partOf_7 (by decide +kernel) ?_
    refine lv_icmp_eq C.1 C.2.1 dX0_partOf_8 (tgt := 13) (by decide) (fun h8 => ?_) (fun h8 => ?_)
    · exfalso
      exact e1 h8
    · refine xt_lconst C 0 dX0_partOf_11 (by decide +kernel) ?_
      exact xt_lret C hE () hW (by show lN 0 = lN _; rw [xq_ptx e0 e1]) dX0_partOf_12
set_option maxHeartbeats 4000000 in
set_option maxRecDepth 100000 in
theorem cx_unitsThrough (l : Launch) (D : va_G) (cI cL : ClassId) (ad : Nat → Nat) (S K n wc dn : Nat) (w lw sy sb sh rw rk dr : Nat → Nat) (p : Nat) (q : Nat) (hp30 : p < 2 ^ 30) (hqS : q < S) (hn6 : n ≤ 6) (hS3 : S ≤ 3) (hok : xq_ok S n w sy sb sh wc rw rk) : xt_M l yX0_unitsThrough cX0_unitsThrough 3 (some .long) 1 D cI cL [.ref (ad 0), .int (nI p), .int (nI q)] (xX ad cI cL S K n wc dn w lw sy sb sh rw rk dr) (xt_Ql D cI cL (xX ad cI cL S K n wc dn w lw sy sb sh rw rk dr) (fun (r : Int64) (u : Unit) => r = lN (if p < n then ms_bf (xe w sy) S p q * ms_bh (xe w sy) S n (n - 1 - p) q else 0)) (fun u => xX ad cI cL S K n wc dn w lw sy sb sh rw rk dr)) := by
  refine xt_start (own := RX0) rfl (by decide) (Nat.le_of_ble_eq_true rfl) (fun pg ev ss mi args below meth cd A Q ls C hE hA hl hW => ?_)
  replace hl : lv_has ls 3 [(0, .ref (ad 0)), (1, .int (nI p)), (2, .int (nI q))] := hl
  refine lv_aload_n C.1 C.2.1 dX0_unitsThrough_0 rfl (lv_at hl 0 rfl) ?_
  refine lv_iload_n C.1 C.2.1 dX0_unitsThrough_1 rfl (lv_at hl 1 rfl) ?_
  refine xt_ci hA hW (xt_runV C hW.1 hW.2.1 cwX0_X0_hasPlace (cx_hasPlace l D cI cL ad S K n wc dn w lw sy sb sh rw rk dr (nI p) (by omega)) rfl rfl rfl hl.1 (rest := []) rfl (Nat.le_of_ble_eq_true rfl) ⟨(Nat.le_of_ble_eq_true rfl), (Nat.le_of_ble_eq_true rfl)⟩ ⟨Nat.zero_le _, Nat.zero_le _⟩ dX0_unitsThrough_2) (fun r2 u H locs hp2 hW => ?_)
  replace hW : xt_W D A ss.heap (xX ad cI cL S K n wc dn w lw sy sb sh rw rk dr) H locs := hW
  replace hp2 : (r2 = nI 1 ∧ ∃ z1, z1 < n ∧ (nI p) = nI z1) ∨ (r2 = nI 0 ∧ ¬ ∃ z1, z1 < n ∧ (nI p) = nI z1) := hp2
  rcases hp2 with ⟨rfl, z, hz, he⟩ | ⟨rfl, hno⟩
  · have hpn : p < n := by have := (nI_eq (by omega) (by omega)).mp he; omega
    replace hl : lv_has ls 3 [(0, .ref (ad 0)), (1, .int (nI p)), (2, .int (nI q))] := hl
    refine xt_if_eq C (by omega) dX0_unitsThrough_5 (tgt := 32) (by decide) (fun h5 => ?_) (fun h5 => ?_)
    · exfalso
      omega
    · refine lv_aload_n C.1 C.2.1 dX0_unitsThrough_8 rfl (lv_at hl 0 rfl) ?_
      refine xt_get xt_inX0 C hW 0 rfl rfl 6 (by decide) rfl flX0_sumsBefore rfl dX0_unitsThrough_9 ?_
      refine lv_iload_n C.1 C.2.1 dX0_unitsThrough_12 rfl (lv_at hl 1 rfl) ?_
      refine lv_iload_n C.1 C.2.1 dX0_unitsThrough_13 rfl (lv_at hl 2 rfl) ?_
      refine xt_ci hA hW (xt_runS C hW.1 hW.2.1 cwX0_X0_cell (cx_cell l D cI cL (xX ad cI cL S K n wc dn w lw sy sb sh rw rk dr) p q) rfl hl.1 (rest := [.ref (ad 4)]) rfl (Nat.le_of_ble_eq_true rfl) ⟨(Nat.le_of_ble_eq_true rfl), (Nat.le_of_ble_eq_true rfl)⟩ ⟨Nat.zero_le _, Nat.zero_le _⟩ dX0_unitsThrough_14) (fun r14 u H locs hp14 hW => ?_)
      replace hW : xt_W D A ss.heap (xX ad cI cL S K n wc dn w lw sy sb sh rw rk dr) H locs := hW
      subst hp14
      refine xt_lald C hW 4 rfl (by decide) dX0_unitsThrough_17 (by omega) ?_
      refine lv_aload_n C.1 C.2.1 dX0_unitsThrough_18 rfl (lv_at hl 0 rfl) ?_
      refine xt_get xt_inX0 C hW 0 rfl rfl 7 (by decide) rfl flX0_sumsBehind rfl dX0_unitsThrough_19 ?_
      refine lv_iload_n C.1 C.2.1 dX0_unitsThrough_22 rfl (lv_at hl 1 rfl) ?_
      refine lv_iload_n C.1 C.2.1 dX0_unitsThrough_23 rfl (lv_at hl 2 rfl) ?_
      refine xt_ci hA hW (xt_runS C hW.1 hW.2.1 cwX0_X0_cell (cx_cell l D cI cL (xX ad cI cL S K n wc dn w lw sy sb sh rw rk dr) p q) rfl hl.1 (rest := [.ref (ad 5), .long (lN (sb (p * 3 + q)))]) rfl (Nat.le_of_ble_eq_true rfl) ⟨(Nat.le_of_ble_eq_true rfl), (Nat.le_of_ble_eq_true rfl)⟩ ⟨Nat.zero_le _, Nat.zero_le _⟩ dX0_unitsThrough_24) (fun r24 u H locs hp24 hW => ?_)
      replace hW : xt_W D A ss.heap (xX ad cI cL S K n wc dn w lw sy sb sh rw rk dr) H locs := hW
      subst hp24
      refine xt_lald C hW 5 rfl (by decide) dX0_unitsThrough_27 (by omega) ?_
      refine W.eq (g2 := F0 mi 28 ls [.long (lN (sh (p * 3 + q))), .long (lN (sb (p * 3 + q)))]) rfl ?_
      refine xt_lmul C dX0_unitsThrough_28 ?_
      refine lv_goto C.1 C.2.1 dX0_unitsThrough_29 (tgt := 33) (by decide) ?_
      exact xt_lret C hE () hW (by show lN _ = lN _; first | rw [if_pos hpn, hok.1 p q hpn hqS, hok.2.1 p q hpn hqS] | rw [if_neg hpn]) dX0_unitsThrough_33
  · have hpn : ¬ p < n := fun q => hno ⟨p, q, rfl⟩
    replace hl : lv_has ls 3 [(0, .ref (ad 0)), (1, .int (nI p)), (2, .int (nI q))] := hl
    refine xt_if_eq C (by omega) dX0_unitsThrough_5 (tgt := 32) (by decide) (fun h5 => ?_) (fun h5 => ?_)
    · refine xt_lconst C 0 dX0_unitsThrough_32 (by decide +kernel) ?_
      exact xt_lret C hE () hW (by show lN _ = lN _; first | rw [if_pos hpn, hok.1 p q hpn hqS, hok.2.1 p q hpn hqS] | rw [if_neg hpn]) dX0_unitsThrough_33
    · exfalso
      omega
set_option maxHeartbeats 4000000 in
set_option maxRecDepth 100000 in
theorem cx_unitsOfStep (l : Launch) (D : va_G) (cI cL : ClassId) (ad : Nat → Nat) (S K n wc dn : Nat) (w lw sy sb sh rw rk dr : Nat → Nat) (f : Nat) (t : Nat) (hV : xq_V S K n wc w lw sy sb sh rw rk) (hfS : f < S) (htS : t < S) : xt_M l yX0_unitsOfStep cX0_unitsOfStep 6 (some .long) 2 D cI cL [.ref (ad 0), .int (nI f), .int (nI t)] (xX ad cI cL S K n wc dn w lw sy sb sh rw rk dr) (xt_Ql D cI cL (xX ad cI cL S K n wc dn w lw sy sb sh rw rk dr) (fun (r : Int64) (u : Unit) => r = lN (ms_sum (fun z1 => ms_bf (xe w sy) S z1 f * xe w sy (z1 + 1) f t * ms_bh (xe w sy) S n (n - 1 - (z1 + 1)) t) (n - 1))) (fun u => xX ad cI cL S K n wc dn w lw sy sb sh rw rk dr)) := by
  obtain ⟨hS0, hS3, hK0, hK4, hn6, hw, hlw, hsK, hok⟩ := hV
  have hsy : ∀ p, p < n → sy p < 4 := fun p h => Nat.lt_of_lt_of_le (hsK p h) hK4
  refine xt_start (own := RX0) rfl (by decide) (Nat.le_of_ble_eq_true rfl) (fun pg ev ss mi args below meth cd A Q ls C hE hA hl hW => ?_)
  replace hl : lv_has ls 6 [(0, .ref (ad 0)), (1, .int (nI f)), (2, .int (nI t))] := hl
  refine xt_lconst C 0 dX0_unitsOfStep_0 (by decide +kernel) ?_
  refine lv_lstore_n C.1 C.2.1 dX0_unitsOfStep_1 rfl hl (by decide) rfl (fun ls hl => ?_)
  replace hl : lv_has ls 6 [(3, .long (lN 0)), (0, .ref (ad 0)), (1, .int (nI f)), (2, .int (nI t))] := hl
  refine xt_iconst C 0 dX0_unitsOfStep_2 (by decide +kernel) ?_
  refine lv_istore C.1 C.2.1 dX0_unitsOfStep_3 hl (by decide) rfl (fun ls hl => ?_)
  replace hl : lv_has ls 6 [(5, .int (nI 0)), (3, .long (lN 0)), (0, .ref (ad 0)), (1, .int (nI f)), (2, .int (nI t))] := hl
  have lp5 : ∀ (q : Nat) (i : Nat), n - i = q → (i ≤ n - 1) → ∀ (ls : Array Slot) (H : Heap) (locs : List Loc), lv_has ls 6 [(5, .int (nI i)), (3, .long (lN (ms_sum (fun z1 => sb (z1 * 3 + f) * xe w sy (z1 + 1) f t * sh ((z1 + 1) * 3 + t)) i))), (0, .ref (ad 0)), (1, .int (nI f)), (2, .int (nI t))] → xt_W D A ss.heap (xX ad cI cL S K n wc dn w lw sy sb sh rw rk dr) H locs → W pg l ev (xt_R 2) ss mi args below meth cd H locs 0 0 Q (F0 mi 5 ls []) := by
    intro q
    induction q using Nat.strongRecOn with
    | _ q ih5 =>
      intro i hq5 hi ls H locs hl hW
      refine lv_iload C.1 C.2.1 dX0_unitsOfStep_5 (lv_at hl 0 rfl) ?_
      refine lv_aload_n C.1 C.2.1 dX0_unitsOfStep_7 rfl (lv_at hl 2 rfl) ?_
      refine xt_get xt_inX0 C hW 0 rfl rfl 4 (by decide) rfl flX0_seenCount rfl dX0_unitsOfStep_8 ?_
      refine xt_iconst C 1 dX0_unitsOfStep_11 (by decide +kernel) ?_
      refine lv_isub C.1 C.2.1 dX0_unitsOfStep_12 ?_
      refine xt_icmp_ge_m C (by omega) (by omega) dX0_unitsOfStep_13 (tgt := 61) (by decide) (fun h13 => ?_) (fun h13 => ?_)
      · refine lv_lload_n C.1 C.2.1 dX0_unitsOfStep_61 rfl (lv_at hl 1 rfl) ?_
        exact xt_lret C hE () hW (by show lN (ms_sum _ i) = lN _; rw [show i = n - 1 by omega]; exact congrArg lN (ms_sum_congr (fun z hz => by rw [hok.1 z f (by omega) hfS, hok.2.1 (z + 1) t (by omega) htS]))) dX0_unitsOfStep_62
      · refine lv_lload_n C.1 C.2.1 dX0_unitsOfStep_16 rfl (lv_at hl 1 rfl) ?_
        refine lv_aload_n C.1 C.2.1 dX0_unitsOfStep_17 rfl (lv_at hl 2 rfl) ?_
        refine xt_get xt_inX0 C hW 0 rfl rfl 6 (by decide) rfl flX0_sumsBefore rfl dX0_unitsOfStep_18 ?_
        refine lv_iload C.1 C.2.1 dX0_unitsOfStep_21 (lv_at hl 0 rfl) ?_
        refine lv_iload_n C.1 C.2.1 dX0_unitsOfStep_23 rfl (lv_at hl 3 rfl) ?_
        refine xt_ci hA hW (xt_runS C hW.1 hW.2.1 cwX0_X0_cell (cx_cell l D cI cL (xX ad cI cL S K n wc dn w lw sy sb sh rw rk dr) i f) rfl hl.1 (rest := [.ref (ad 4), .long (lN (ms_sum (fun z1 => sb (z1 * 3 + f) * xe w sy (z1 + 1) f t * sh ((z1 + 1) * 3 + t)) i))]) rfl (Nat.le_of_ble_eq_true rfl) ⟨(Nat.le_of_ble_eq_true rfl), (Nat.le_of_ble_eq_true rfl)⟩ ⟨Nat.zero_le _, Nat.zero_le _⟩ dX0_unitsOfStep_24) (fun r24 u H locs hp24 hW => ?_)
        replace hW : xt_W D A ss.heap (xX ad cI cL S K n wc dn w lw sy sb sh rw rk dr) H locs := hW
        subst hp24
        refine xt_lald C hW 4 rfl (by decide) dX0_unitsOfStep_27 (by omega) ?_
        refine lv_aload_n C.1 C.2.1 dX0_unitsOfStep_28 rfl (lv_at hl 2 rfl) ?_
        refine lv_iload C.1 C.2.1 dX0_unitsOfStep_29 (lv_at hl 0 rfl) ?_
        refine xt_iconst C 1 dX0_unitsOfStep_31 (by decide +kernel) ?_
        refine xt_iadd C dX0_unitsOfStep_32 ?_
        refine lv_iload_n C.1 C.2.1 dX0_unitsOfStep_33 rfl (lv_at hl 3 rfl) ?_
        refine W.eq (g2 := F0 mi 34 ls [.int (nI f), .int (nI (i + 1)), .ref (ad 0), .long (lN (sb (i * 3 + f))), .long (lN (ms_sum (fun z1 => sb (z1 * 3 + f) * xe w sy (z1 + 1) f t * sh ((z1 + 1) * 3 + t)) i))]) rfl ?_
        refine lv_iload_n C.1 C.2.1 dX0_unitsOfStep_34 rfl (lv_at hl 4 rfl) ?_
        refine xt_cl hA hW (xt_runV C hW.1 hW.2.1 cwX0_X0_entry (cx_entry l D cI cL ad S K n wc dn w lw sy sb sh rw rk dr (i + 1) f t (by omega) (by omega) (by omega) (hw) (hsy _ (by omega))) rfl rfl rfl hl.1 (rest := [.long (lN (sb (i * 3 + f))), .long (lN (ms_sum (fun z1 => sb (z1 * 3 + f) * xe w sy (z1 + 1) f t * sh ((z1 + 1) * 3 + t)) i))]) rfl (Nat.le_of_ble_eq_true rfl) ⟨(Nat.le_of_ble_eq_true rfl), (Nat.le_of_ble_eq_true rfl)⟩ ⟨Nat.zero_le _, Nat.zero_le _⟩ dX0_unitsOfStep_35) (fun r35 u H locs hp35 hW => ?_)
        replace hW : xt_W D A ss.heap (xX ad cI cL S K n wc dn w lw sy sb sh rw rk dr) H locs := hW
        subst hp35
        refine xt_lmul C dX0_unitsOfStep_38 ?_
        refine lv_aload_n C.1 C.2.1 dX0_unitsOfStep_39 rfl (lv_at hl 2 rfl) ?_
        refine xt_get xt_inX0 C hW 0 rfl rfl 7 (by decide) rfl flX0_sumsBehind rfl dX0_unitsOfStep_40 ?_
        refine lv_iload C.1 C.2.1 dX0_unitsOfStep_43 (lv_at hl 0 rfl) ?_
        refine xt_iconst C 1 dX0_unitsOfStep_45 (by decide +kernel) ?_
        refine xt_iadd C dX0_unitsOfStep_46 ?_
        refine lv_iload_n C.1 C.2.1 dX0_unitsOfStep_47 rfl (lv_at hl 4 rfl) ?_
        refine xt_ci hA hW (xt_runS C hW.1 hW.2.1 cwX0_X0_cell (cx_cell l D cI cL (xX ad cI cL S K n wc dn w lw sy sb sh rw rk dr) (i + 1) t) rfl hl.1 (rest := [.ref (ad 5), .long (lN ((sb (i * 3 + f)) * (xe w sy (i + 1) f t))), .long (lN (ms_sum (fun z1 => sb (z1 * 3 + f) * xe w sy (z1 + 1) f t * sh ((z1 + 1) * 3 + t)) i))]) rfl (Nat.le_of_ble_eq_true rfl) ⟨(Nat.le_of_ble_eq_true rfl), (Nat.le_of_ble_eq_true rfl)⟩ ⟨Nat.zero_le _, Nat.zero_le _⟩ dX0_unitsOfStep_48) (fun r48 u H locs hp48 hW => ?_)
        replace hW : xt_W D A ss.heap (xX ad cI cL S K n wc dn w lw sy sb sh rw rk dr) H locs := hW
        subst hp48
        refine xt_lald C hW 5 rfl (by decide) dX0_unitsOfStep_51 (by omega) ?_
        refine xt_lmul C dX0_unitsOfStep_52 ?_
        refine W.eq (g2 := F0 mi 53 ls [.long (lN (((sb (i * 3 + f)) * (xe w sy (i + 1) f t)) * (sh ((i + 1) * 3 + t)))), .long (lN (ms_sum (fun z1 => sb (z1 * 3 + f) * xe w sy (z1 + 1) f t * sh ((z1 + 1) * 3 + t)) i))]) rfl ?_
        refine xt_ladd C dX0_unitsOfStep_53 ?_
        refine lv_lstore_n C.1 C.2.1 dX0_unitsOfStep_54 rfl hl (by decide) rfl (fun ls hl => ?_)
        replace hl : lv_has ls 6 [(3, .long (lN ((ms_sum (fun z1 => sb (z1 * 3 + f) * xe w sy (z1 + 1) f t * sh ((z1 + 1) * 3 + t)) i) + (((sb (i * 3 + f)) * (xe w sy (i + 1) f t)) * (sh ((i + 1) * 3 + t)))))), (5, .int (nI i)), (0, .ref (ad 0)), (1, .int (nI f)), (2, .int (nI t))] := hl
        refine lv_iinc (k := 1) C.1 C.2.1 dX0_unitsOfStep_55 hl rfl xt_inc (by decide) rfl (fun ls hl => ?_)
        replace hl : lv_has ls 6 [(5, .int (nI (i + 1))), (3, .long (lN ((ms_sum (fun z1 => sb (z1 * 3 + f) * xe w sy (z1 + 1) f t * sh ((z1 + 1) * 3 + t)) i) + (((sb (i * 3 + f)) * (xe w sy (i + 1) f t)) * (sh ((i + 1) * 3 + t)))))), (0, .ref (ad 0)), (1, .int (nI f)), (2, .int (nI t))] := hl
        refine lv_goto C.1 C.2.1 dX0_unitsOfStep_58 (tgt := 5) (by decide) ?_
        exact ih5 _ (by omega) (i + 1) rfl (by omega) ls _ _ (lv_sub hl [0, 1, 2, 3, 4] rfl) hW
  exact lp5 _ 0 rfl (Nat.zero_le _) ls _ _ (lv_sub hl [0, 1, 2, 3, 4] rfl) hW
set_option maxHeartbeats 4000000 in
set_option maxRecDepth 100000 in
theorem cx_unitsOfSymbol (l : Launch) (D : va_G) (cI cL : ClassId) (ad : Nat → Nat) (S K n wc dn : Nat) (w lw sy sb sh rw rk dr : Nat → Nat) (f : Nat) (c : Nat) (hV : xq_V S K n wc w lw sy sb sh rw rk) (hfS : f < S) (hc30 : c < 2 ^ 30) : xt_M l yX0_unitsOfSymbol cX0_unitsOfSymbol 6 (some .long) 2 D cI cL [.ref (ad 0), .int (nI f), .int (nI c)] (xX ad cI cL S K n wc dn w lw sy sb sh rw rk dr) (xt_Ql D cI cL (xX ad cI cL S K n wc dn w lw sy sb sh rw rk dr) (fun (r : Int64) (u : Unit) => r = lN (ms_sum (fun z1 => if sy z1 = c then ms_bf (xe w sy) S z1 f * ms_bh (xe w sy) S n (n - 1 - z1) f else 0) n)) (fun u => xX ad cI cL S K n wc dn w lw sy sb sh rw rk dr)) := by
  obtain ⟨hS0, hS3, hK0, hK4, hn6, hw, hlw, hsK, hok⟩ := hV
  have hsy : ∀ p, p < n → sy p < 4 := fun p h => Nat.lt_of_lt_of_le (hsK p h) hK4
  refine xt_start (own := RX0) rfl (by decide) (Nat.le_of_ble_eq_true rfl) (fun pg ev ss mi args below meth cd A Q ls C hE hA hl hW => ?_)
  replace hl : lv_has ls 6 [(0, .ref (ad 0)), (1, .int (nI f)), (2, .int (nI c))] := hl
  refine xt_lconst C 0 dX0_unitsOfSymbol_0 (by decide +kernel) ?_
  refine lv_lstore_n C.1 C.2.1 dX0_unitsOfSymbol_1 rfl hl (by decide) rfl (fun ls hl => ?_)
  replace hl : lv_has ls 6 [(3, .long (lN 0)), (0, .ref (ad 0)), (1, .int (nI f)), (2, .int (nI c))] := hl
  refine xt_iconst C 0 dX0_unitsOfSymbol_2 (by decide +kernel) ?_
  refine lv_istore C.1 C.2.1 dX0_unitsOfSymbol_3 hl (by decide) rfl (fun ls hl => ?_)
  replace hl : lv_has ls 6 [(5, .int (nI 0)), (3, .long (lN 0)), (0, .ref (ad 0)), (1, .int (nI f)), (2, .int (nI c))] := hl
  have lp5 : ∀ (q : Nat) (i : Nat), n - i = q → (i ≤ n) → ∀ (ls : Array Slot) (H : Heap) (locs : List Loc), lv_has ls 6 [(5, .int (nI i)), (3, .long (lN (ms_sum (fun z1 => if sy z1 = c then ms_bf (xe w sy) S z1 f * ms_bh (xe w sy) S n (n - 1 - z1) f else 0) i))), (0, .ref (ad 0)), (1, .int (nI f)), (2, .int (nI c))] → xt_W D A ss.heap (xX ad cI cL S K n wc dn w lw sy sb sh rw rk dr) H locs → W pg l ev (xt_R 2) ss mi args below meth cd H locs 0 0 Q (F0 mi 5 ls []) := by
    intro q
    induction q using Nat.strongRecOn with
    | _ q ih5 =>
      intro i hq5 hi ls H locs hl hW
      refine lv_iload C.1 C.2.1 dX0_unitsOfSymbol_5 (lv_at hl 0 rfl) ?_
      refine lv_aload_n C.1 C.2.1 dX0_unitsOfSymbol_7 rfl (lv_at hl 2 rfl) ?_
      refine xt_get xt_inX0 C hW 0 rfl rfl 4 (by decide) rfl flX0_seenCount rfl dX0_unitsOfSymbol_8 ?_
      refine xt_icmp_ge C (by omega) (by omega) dX0_unitsOfSymbol_11 (tgt := 41) (by decide) (fun h11 => ?_) (fun h11 => ?_)
      · refine lv_lload_n C.1 C.2.1 dX0_unitsOfSymbol_41 rfl (lv_at hl 1 rfl) ?_
        exact xt_lret C hE () hW (by show lN (ms_sum _ i) = lN _; rw [show i = n by omega]) dX0_unitsOfSymbol_42
      · refine lv_aload_n C.1 C.2.1 dX0_unitsOfSymbol_14 rfl (lv_at hl 2 rfl) ?_
        refine xt_get xt_inX0 C hW 0 rfl rfl 5 (by decide) rfl flX0_seenSymbols rfl dX0_unitsOfSymbol_15 ?_
        refine lv_iload C.1 C.2.1 dX0_unitsOfSymbol_18 (lv_at hl 0 rfl) ?_
        refine xt_iald C hW 3 rfl (by decide) dX0_unitsOfSymbol_20 (by omega) ?_
        refine lv_iload_n C.1 C.2.1 dX0_unitsOfSymbol_21 rfl (lv_at hl 4 rfl) ?_
        have hsi := hsy i (by omega)
        refine xt_icmp_ne C (by omega) (by omega) dX0_unitsOfSymbol_22 (tgt := 35) (by decide) (fun h22 => ?_) (fun h22 => ?_)
        · refine lv_iinc (k := 0) C.1 C.2.1 dX0_unitsOfSymbol_35 hl rfl xt_inc (by decide) rfl (fun ls hl => ?_)
          replace hl : lv_has ls 6 [(5, .int (nI (i + 1))), (3, .long (lN (ms_sum (fun z1 => if sy z1 = c then ms_bf (xe w sy) S z1 f * ms_bh (xe w sy) S n (n - 1 - z1) f else 0) i))), (0, .ref (ad 0)), (1, .int (nI f)), (2, .int (nI c))] := hl
          refine lv_goto C.1 C.2.1 dX0_unitsOfSymbol_38 (tgt := 5) (by decide) ?_
          rw [xq_syn h22] at hl
          replace hl : lv_has ls 6 [(5, .int (nI (i + 1))), (3, .long (lN (ms_sum (fun z1 => if sy z1 = c then ms_bf (xe w sy) S z1 f * ms_bh (xe w sy) S n (n - 1 - z1) f else 0) (i + 1)))), (0, .ref (ad 0)), (1, .int (nI f)), (2, .int (nI c))] := hl
          exact ih5 _ (by omega) (i + 1) rfl (by omega) ls _ _ (lv_sub hl [0, 1, 2, 3, 4] rfl) hW
        · refine lv_lload_n C.1 C.2.1 dX0_unitsOfSymbol_25 rfl (lv_at hl 1 rfl) ?_
          refine lv_aload_n C.1 C.2.1 dX0_unitsOfSymbol_26 rfl (lv_at hl 2 rfl) ?_
          refine lv_iload C.1 C.2.1 dX0_unitsOfSymbol_27 (lv_at hl 0 rfl) ?_
          refine lv_iload_n C.1 C.2.1 dX0_unitsOfSymbol_29 rfl (lv_at hl 3 rfl) ?_
          refine xt_cl hA hW (xt_runV C hW.1 hW.2.1 cwX0_X0_unitsThrough (cx_unitsThrough l D cI cL ad S K n wc dn w lw sy sb sh rw rk dr i f (by omega) (by omega) (by omega) (by omega) (hok)) rfl rfl rfl hl.1 (rest := [.long (lN (ms_sum (fun z1 => if sy z1 = c then ms_bf (xe w sy) S z1 f * ms_bh (xe w sy) S n (n - 1 - z1) f else 0) i))]) rfl (Nat.le_of_ble_eq_true rfl) ⟨(Nat.le_of_ble_eq_true rfl), (Nat.le_of_ble_eq_true rfl)⟩ ⟨Nat.zero_le _, Nat.zero_le _⟩ dX0_unitsOfSymbol_30) (fun r30 u H locs hp30 hW => ?_)
          replace hW : xt_W D A ss.heap (xX ad cI cL S K n wc dn w lw sy sb sh rw rk dr) H locs := hW
          subst hp30
          refine xt_ladd C dX0_unitsOfSymbol_33 ?_
          refine lv_lstore_n C.1 C.2.1 dX0_unitsOfSymbol_34 rfl hl (by decide) rfl (fun ls hl => ?_)
          replace hl : lv_has ls 6 [(3, .long (lN ((ms_sum (fun z1 => if sy z1 = c then ms_bf (xe w sy) S z1 f * ms_bh (xe w sy) S n (n - 1 - z1) f else 0) i) + (if i < n then ms_bf (xe w sy) S i f * ms_bh (xe w sy) S n (n - 1 - i) f else 0)))), (5, .int (nI i)), (0, .ref (ad 0)), (1, .int (nI f)), (2, .int (nI c))] := hl
          refine lv_iinc (k := 1) C.1 C.2.1 dX0_unitsOfSymbol_35 hl rfl xt_inc (by decide) rfl (fun ls hl => ?_)
          replace hl : lv_has ls 6 [(5, .int (nI (i + 1))), (3, .long (lN ((ms_sum (fun z1 => if sy z1 = c then ms_bf (xe w sy) S z1 f * ms_bh (xe w sy) S n (n - 1 - z1) f else 0) i) + (if i < n then ms_bf (xe w sy) S i f * ms_bh (xe w sy) S n (n - 1 - i) f else 0)))), (0, .ref (ad 0)), (1, .int (nI f)), (2, .int (nI c))] := hl
          refine lv_goto C.1 C.2.1 dX0_unitsOfSymbol_38 (tgt := 5) (by decide) ?_
          rw [xq_sym (by omega) h22] at hl
          replace hl : lv_has ls 6 [(5, .int (nI (i + 1))), (3, .long (lN (ms_sum (fun z1 => if sy z1 = c then ms_bf (xe w sy) S z1 f * ms_bh (xe w sy) S n (n - 1 - z1) f else 0) (i + 1)))), (0, .ref (ad 0)), (1, .int (nI f)), (2, .int (nI c))] := hl
          exact ih5 _ (by omega) (i + 1) rfl (by omega) ls _ _ (lv_sub hl [0, 1, 2, 3, 4] rfl) hW
  exact lp5 _ 0 rfl (Nat.zero_le _) ls _ _ (lv_sub hl [0, 1, 2, 3, 4] rfl) hW
end
section
/-- units of a row, weights of a row, what is learned -/
def xq_ru (S K n : Nat) (w sy : Nat → Nat) (ka kb : Nat) : Nat := ms_sum (fun z1 => ms_un (xe w sy) S n sy ka kb z1) (xq_cl S K ka)
def xq_rt (S K : Nat) (w : Nat → Nat) (ka kb : Nat) : Nat := ms_sum (fun z1 => w ((ka * 3 + kb) * 4 + z1)) (xq_cl S K ka)
def xq_po (S K n : Nat) (w sy : Nat → Nat) (ka kb kc : Nat) : Nat := if xq_ru S K n w sy ka kb = 0 then w ((ka * 3 + kb) * 4 + kc) else ms_un (xe w sy) S n sy ka kb kc
def xq_wh (S K n : Nat) (w sy : Nat → Nat) (ka kb : Nat) : Nat := if xq_ru S K n w sy ka kb = 0 then xq_rt S K w ka kb else xq_ru S K n w sy ka kb
def xq_lv (S K n : Nat) (w sy : Nat → Nat) (ka kb kc : Nat) : Nat := if xq_wh S K n w sy ka kb = 0 then 0 else (2 * (9 * xq_po S K n w sy ka kb kc) + xq_wh S K n w sy ka kb) / (2 * xq_wh S K n w sy ka kb)
def xq_ku (S K : Nat) (ka kb kc : Nat) : Prop := (ka = 0 ∧ kb < 2 ^ 30 ∧ kc < S) ∨ (ka = 1 ∧ kb < S ∧ kc < S) ∨ (ka = 2 ∧ kb < S ∧ kc < K)
theorem xq_clb {S K a : Nat} (hS : S ≤ 3) (hK : K ≤ 4) : xq_cl S K a ≤ 4 := by unfold xq_cl; split <;> omega
theorem xq_rwb {S a : Nat} (hS0 : 0 < S) (hS : S ≤ 3) : xq_rw S a ≤ 3 := by unfold xq_rw; split <;> omega
theorem xq_krc {S K a b c : Nat} (ha : a < 3) (hb : b < xq_rw S a) (hc : c < xq_cl S K a) : xq_kr S K a b c := by
  unfold xq_rw at hb
  unfold xq_cl at hc
  unfold xq_kr
  rcases (show a = 0 ∨ a = 1 ∨ a = 2 by omega) with rfl | rfl | rfl
  · rw [if_pos rfl] at hb
    rw [if_neg (by decide)] at hc
    omega
  · rw [if_neg (by decide)] at hb
    rw [if_neg (by decide)] at hc
    omega
  · rw [if_neg (by decide)] at hb
    rw [if_pos rfl] at hc
    omega
theorem xq_kcr {S K a b c : Nat} (h : xq_kr S K a b c) : a < 3 ∧ b < xq_rw S a ∧ c < xq_cl S K a := by
  unfold xq_kr at h
  unfold xq_rw xq_cl
  rcases h with ⟨rfl, h1, h2⟩ | ⟨rfl, h1, h2⟩ | ⟨rfl, h1, h2⟩
  · rw [if_pos rfl, if_neg (by decide)]
    omega
  · rw [if_neg (by decide), if_neg (by decide)]
    omega
  · rw [if_neg (by decide), if_pos rfl]
    omega
theorem xq_kur {S K a b c : Nat} (h : xq_kr S K a b c) : xq_ku S K a b c := by
  unfold xq_kr at h
  unfold xq_ku
  omega
theorem xq_unb {S K n : Nat} {w sy : Nat → Nat} {a b c : Nat} (hS0 : 0 < S) (hS3 : S ≤ 3) (hn6 : n ≤ 6) (hw : ∀ i, i < 36 → w i ≤ 9) (hsy : ∀ p, p < n → sy p < 4) (h : xq_ku S K a b c) : ms_un (xe w sy) S n sy a b c ≤ 1235346792567894 := by
  have key : ms_sum (fun k => ms_wt (xe w sy) S n k * ms_tm S n sy a b c k) (S ^ n) = ms_un (xe w sy) S n sy a b c := by
    rcases h with ⟨rfl, h1, h2⟩ | ⟨rfl, h1, h2⟩ | ⟨rfl, h1, h2⟩
    · exact ms_un_0 (xe_0 w sy) sy h2
    · exact ms_un_1 (xe_0 w sy) sy h1 h2
    · exact ms_un_2 (xe_0 w sy) sy h1
  rw [← key]
  have h1 : ms_sum (fun k => ms_wt (xe w sy) S n k * ms_tm S n sy a b c k) (S ^ n) ≤ ms_sum (fun k => ms_wt (xe w sy) S n k * 6) (S ^ n) :=
    ms_sum_mono (fun k _ => Nat.mul_le_mul_left _ (Nat.le_trans (ms_tm_le S n sy a b c k) hn6))
  rw [ms_sum_mulr] at h1
  have h2 : ms_sum (ms_wt (xe w sy) S n) (S ^ n) ≤ 205891132094649 := ms_tot_le (e := xe w sy) hS0 hS3 hn6 (xq_e81 hw hS3 hsy)
  omega
theorem xq_rub {S K n : Nat} {w sy : Nat → Nat} {a b : Nat} (hS0 : 0 < S) (hS3 : S ≤ 3) (hK4 : K ≤ 4) (hn6 : n ≤ 6) (hw : ∀ i, i < 36 → w i ≤ 9) (hsy : ∀ p, p < n → sy p < 4) (ha : a < 3) (hb : b < xq_rw S a) : xq_ru S K n w sy a b ≤ 4941387170271576 := by
  have h1 : xq_ru S K n w sy a b ≤ xq_cl S K a * 1235346792567894 := ms_sum_le (fun c hc => xq_unb hS0 hS3 hn6 hw hsy (xq_kur (xq_krc ha hb hc)))
  have h2 := xq_clb (a := a) hS3 hK4
  have h3 : xq_cl S K a * 1235346792567894 ≤ 4 * 1235346792567894 := Nat.mul_le_mul_right _ h2
  omega
theorem xq_rtb {S K : Nat} {w : Nat → Nat} {a b : Nat} (hS0 : 0 < S) (hS3 : S ≤ 3) (hK4 : K ≤ 4) (hw : ∀ i, i < 36 → w i ≤ 9) (ha : a < 3) (hb : b < xq_rw S a) : xq_rt S K w a b ≤ 36 := by
  have h2 := xq_clb (a := a) hS3 hK4
  have h4 := xq_rwb (a := a) hS0 hS3
  have h1 : xq_rt S K w a b ≤ xq_cl S K a * 9 := ms_sum_le (fun c hc => hw _ (by omega))
  omega
theorem xq_whb {S K n : Nat} {w sy : Nat → Nat} {a b : Nat} (hS0 : 0 < S) (hS3 : S ≤ 3) (hK4 : K ≤ 4) (hn6 : n ≤ 6) (hw : ∀ i, i < 36 → w i ≤ 9) (hsy : ∀ p, p < n → sy p < 4) (ha : a < 3) (hb : b < xq_rw S a) : xq_wh S K n w sy a b ≤ 4941387170271576 := by
  unfold xq_wh
  have h1 := xq_rtb (K := K) hS0 hS3 hK4 hw ha hb
  have h2 := xq_rub (n := n) (K := K) hS0 hS3 hK4 hn6 hw hsy ha hb
  split <;> omega
theorem xq_pow {S K n : Nat} {w sy : Nat → Nat} {a b c : Nat} (hc : c < xq_cl S K a) : xq_po S K n w sy a b c ≤ xq_wh S K n w sy a b := by
  unfold xq_po xq_wh
  split
  · exact ms_le_sum (f := fun z1 => w ((a * 3 + b) * 4 + z1)) hc
  · exact ms_le_sum (f := fun z1 => ms_un (xe w sy) S n sy a b z1) hc
theorem xq_lvb {S K n : Nat} {w sy : Nat → Nat} {a b c : Nat} (hc : c < xq_cl S K a) : xq_lv S K n w sy a b c ≤ 9 := by
  unfold xq_lv
  split
  · exact Nat.zero_le _
  · exact ms_near_le (xq_pow hc) (by omega)
theorem xq_Vlw {S K n wc : Nat} {w lw sy sb sh rw rk lv : Nat → Nat} (h : xq_V S K n wc w lw sy sb sh rw rk) (hl : ∀ i, i < 36 → lv i ≤ 9) : xq_V S K n wc w lv sy sb sh rw rk := by
  obtain ⟨h1, h2, h3, h4, h5, h6, h7, h8⟩ := h
  exact ⟨h1, h2, h3, h4, h5, h6, hl, h8⟩
theorem xq_rows {a S : Nat} {r : Int32} (ha : a < 3) (h : (nI a = nI 0 ∧ r = nI 1) ∨ (nI a = nI 1 ∧ r = nI S) ∨ (nI a = nI 2 ∧ r = nI S) ∨ (¬ nI a = nI 0 ∧ ¬ nI a = nI 1 ∧ ¬ nI a = nI 2 ∧ r = nI 0)) : r = nI (xq_rw S a) := by
  unfold xq_rw
  rcases (show a = 0 ∨ a = 1 ∨ a = 2 by omega) with rfl | rfl | rfl
  · rcases h with h | h | h | h
    · exact h.2
    · exact absurd h.1 (by decide)
    · exact absurd h.1 (by decide)
    · exact absurd rfl h.1
  · rcases h with h | h | h | h
    · exact absurd h.1 (by decide)
    · exact h.2
    · exact absurd h.1 (by decide)
    · exact absurd rfl h.2.1
  · rcases h with h | h | h | h
    · exact absurd h.1 (by decide)
    · exact absurd h.1 (by decide)
    · exact h.2
    · exact absurd rfl h.2.2.1
theorem xt_cpf {f g : Nat → Nat} {n : Nat} : va_cpy (fun j => nI (f j)) (fun j => nI (g j)) 0 0 n = fun j => nI (if j < n then f j else g j) := by
  funext j
  unfold va_cpy
  by_cases h : j < n
  · rw [if_pos (by omega), if_pos h, Nat.sub_zero, Nat.zero_add]
  · rw [if_neg (by omega), if_neg h]
theorem xt_copyi {p : Program} {l : Launch} {e : Env} {d : Nat} {s : State} {m : MethodId} {args : Array Value} {below : List Frame} {meth : Method} {c : Code} {H : Heap} {locs : List Loc} {cells slots : Nat} {Q : State → Prop} {cc : ByteArray} {pc nL : Nat} {ls : Array Slot} {D : va_G} {cI cL : ClassId} {A : Nat → Prop} {H0 : Heap} {ws : va_W} {a0 a1 idx : Nat}
    (C : xt_C p s m args c cc nL RX0 D cI cL) (w : xt_W D A H0 ws H locs) (hl : ls.size = nL) (q0 q1 n : Nat) {f g : Nat → Nat} (ha0 : ws[q0]? = some (a0, xt_i cI n f)) (ha1 : ws[q1]? = some (a1, xt_i cI n g)) (hn : n < 2 ^ 31) (hd : 2 ≤ d) (hk : Cond.methodLink RX0 idx arraycopyName ∈ xt_T ∧ Cond.native arraycopyName ∈ xt_T ∧ Cond.static arraycopyName ∈ xt_T ∧ Cond.initialized "java/lang/System" ∈ xt_T) (hdg : decode cc pc = .ok (.invokestatic idx, 3))
    (kk : ∀ (H1 : Heap) (locs1 : List Loc), xt_W D A H0 (ws.set q1 (a1, xt_i cI n (fun j => if j < n then f j else g j))) H1 locs1 → W p l e (xt_R d) s m args below meth c H1 locs1 cells slots Q (F0 m (pc + 3) ls [])) : W p l e (xt_R d) s m args below meth c H locs cells slots Q (F0 m pc ls [.int (nI n), .int (nI 0), .ref a1, .int (nI 0), .ref a0]) := by
  refine va_copyi C.1 C.2.1 (C.2.2.1.trans hl.symm) C.o (C.t hk.1) (C.t hk.2.1) (C.t hk.2.2.1) (C.t hk.2.2.2) C.K w.1 w.2.1 w.2.2 q0 q1 0 0 ha0 ha1 rfl rfl rfl (nI_pos (by omega)) (nI_pos (by omega)) (nI_pos hn) ?_ ?_ (fun i _ => rfl) (by show 1 ≤ d; omega) ?_ hdg (fun H1 locs1 hP hD hS => ?_)
  · rw [nI_clamp (by omega), nI_clamp hn]; omega
  · rw [nI_clamp (by omega), nI_clamp hn]; omega
  · exact Nat.le_trans (by decide) (show 80 ≤ 40 * d by omega)
  · rw [nI_clamp (n := 0) (by omega), nI_clamp hn, xt_cpf] at hP hD
    exact kk H1 locs1 ⟨hP, hD, hS⟩
set_option maxHeartbeats 4000000 in
set_option maxRecDepth 100000 in
theorem cx_unitsOf (l : Launch) (D : va_G) (cI cL : ClassId) (ad : Nat → Nat) (S K n wc dn : Nat) (w lw sy sb sh rw rk dr : Nat → Nat) (ka : Nat) (kb : Nat) (kc : Nat) (hV : xq_V S K n wc w lw sy sb sh rw rk) (hu : xq_ku S K ka kb kc) : xt_M l yX0_unitsOf cX0_unitsOf 4 (some .long) 3 D cI cL [.ref (ad 0), .int (nI ka), .int (nI kb), .int (nI kc)] (xX ad cI cL S K n wc dn w lw sy sb sh rw rk dr) (xt_Ql D cI cL (xX ad cI cL S K n wc dn w lw sy sb sh rw rk dr) (fun (r : Int64) (u : Unit) => r = lN (ms_un (xe w sy) S n sy ka kb kc)) (fun u => xX ad cI cL S K n wc dn w lw sy sb sh rw rk dr)) := by
  have hV2 := hV
  obtain ⟨hS0, hS3, hK0, hK4, hn6, hw, hlw, hsK, hok⟩ := hV
  have hsy : ∀ p, p < n → sy p < 4 := fun p h => Nat.lt_of_lt_of_le (hsK p h) hK4
  refine xt_start (own := RX0) rfl (by decide) (Nat.le_of_ble_eq_true rfl) (fun pg ev ss mi args below meth cd A Q ls C hE hA hl hW => ?_)
  replace hl : lv_has ls 4 [(0, .ref (ad 0)), (1, .int (nI ka)), (2, .int (nI kb)), (3, .int (nI kc))] := hl
  refine lv_iload_n C.1 C.2.1 dX0_unitsOf_0 rfl (lv_at hl 1 rfl) ?_
  rcases hu with ⟨rfl, hu1, hu2⟩ | ⟨rfl, hu1, hu2⟩ | ⟨rfl, hu1, hu2⟩
  · replace hl : lv_has ls 4 [(0, .ref (ad 0)), (1, .int (nI 0)), (2, .int (nI kb)), (3, .int (nI kc))] := hl
    refine lv_lookup C.1 C.2.1 dX0_unitsOf_1 (off := 27) (tgt := 28) (by decide +kernel) (by decide +kernel) (by decide) ?_
    refine lv_aload_n C.1 C.2.1 dX0_unitsOf_28 rfl (lv_at hl 0 rfl) ?_
    refine lv_iload_n C.1 C.2.1 dX0_unitsOf_29 rfl (lv_at hl 2 rfl) ?_
    refine lv_iload_n C.1 C.2.1 dX0_unitsOf_30 rfl (lv_at hl 3 rfl) ?_
    refine xt_cl hA hW (xt_runV C hW.1 hW.2.1 cwX0_X0_unitsThrough (cx_unitsThrough l D cI cL ad S K n wc dn w lw sy sb sh rw rk dr kb kc (by omega) (by omega) (by omega) (by omega) (hok)) rfl rfl rfl hl.1 (rest := []) rfl (Nat.le_of_ble_eq_true rfl) ⟨(Nat.le_of_ble_eq_true rfl), (Nat.le_of_ble_eq_true rfl)⟩ ⟨Nat.zero_le _, Nat.zero_le _⟩ dX0_unitsOf_31) (fun r31 u H locs hp31 hW => ?_)
    replace hW : xt_W D A ss.heap (xX ad cI cL S K n wc dn w lw sy sb sh rw rk dr) H locs := hW
    subst hp31
    exact xt_lret C hE () hW (rfl) dX0_unitsOf_34
  · replace hl : lv_has ls 4 [(0, .ref (ad 0)), (1, .int (nI 1)), (2, .int (nI kb)), (3, .int (nI kc))] := hl
    refine lv_lookup C.1 C.2.1 dX0_unitsOf_1 (off := 34) (tgt := 35) (by decide +kernel) (by decide +kernel) (by decide) ?_
    refine lv_aload_n C.1 C.2.1 dX0_unitsOf_35 rfl (lv_at hl 0 rfl) ?_
    refine lv_iload_n C.1 C.2.1 dX0_unitsOf_36 rfl (lv_at hl 2 rfl) ?_
    refine lv_iload_n C.1 C.2.1 dX0_unitsOf_37 rfl (lv_at hl 3 rfl) ?_
    refine xt_cl hA hW (xt_runV C hW.1 hW.2.1 cwX0_X0_unitsOfStep (cx_unitsOfStep l D cI cL ad S K n wc dn w lw sy sb sh rw rk dr kb kc (hV2) (by omega) (by omega)) rfl rfl rfl hl.1 (rest := []) rfl (Nat.le_of_ble_eq_true rfl) ⟨(Nat.le_of_ble_eq_true rfl), (Nat.le_of_ble_eq_true rfl)⟩ ⟨Nat.zero_le _, Nat.zero_le _⟩ dX0_unitsOf_38) (fun r38 u H locs hp38 hW => ?_)
    replace hW : xt_W D A ss.heap (xX ad cI cL S K n wc dn w lw sy sb sh rw rk dr) H locs := hW
    subst hp38
    exact xt_lret C hE () hW (rfl) dX0_unitsOf_41
  · replace hl : lv_has ls 4 [(0, .ref (ad 0)), (1, .int (nI 2)), (2, .int (nI kb)), (3, .int (nI kc))] := hl
    refine lv_lookup C.1 C.2.1 dX0_unitsOf_1 (off := 41) (tgt := 42) (by decide +kernel) (by decide +kernel) (by decide) ?_
    refine lv_aload_n C.1 C.2.1 dX0_unitsOf_42 rfl (lv_at hl 0 rfl) ?_
    refine lv_iload_n C.1 C.2.1 dX0_unitsOf_43 rfl (lv_at hl 2 rfl) ?_
    refine lv_iload_n C.1 C.2.1 dX0_unitsOf_44 rfl (lv_at hl 3 rfl) ?_
    refine xt_cl hA hW (xt_runV C hW.1 hW.2.1 cwX0_X0_unitsOfSymbol (cx_unitsOfSymbol l D cI cL ad S K n wc dn w lw sy sb sh rw rk dr kb kc (hV2) (by omega) (by omega)) rfl rfl rfl hl.1 (rest := []) rfl (Nat.le_of_ble_eq_true rfl) ⟨(Nat.le_of_ble_eq_true rfl), (Nat.le_of_ble_eq_true rfl)⟩ ⟨Nat.zero_le _, Nat.zero_le _⟩ dX0_unitsOf_45) (fun r45 u H locs hp45 hW => ?_)
    replace hW : xt_W D A ss.heap (xX ad cI cL S K n wc dn w lw sy sb sh rw rk dr) H locs := hW
    subst hp45
    exact xt_lret C hE () hW (rfl) dX0_unitsOf_48
set_option maxHeartbeats 4000000 in
set_option maxRecDepth 100000 in
theorem cx_unitsOfRow (l : Launch) (D : va_G) (cI cL : ClassId) (ad : Nat → Nat) (S K n wc dn : Nat) (w lw sy sb sh rw rk dr : Nat → Nat) (ka : Nat) (kb : Nat) (hV : xq_V S K n wc w lw sy sb sh rw rk) (ha3 : ka < 3) (hbr : kb < xq_rw S ka) : xt_M l yX0_unitsOfRow cX0_unitsOfRow 6 (some .long) 4 D cI cL [.ref (ad 0), .int (nI ka), .int (nI kb)] (xX ad cI cL S K n wc dn w lw sy sb sh rw rk dr) (xt_Ql D cI cL (xX ad cI cL S K n wc dn w lw sy sb sh rw rk dr) (fun (r : Int64) (u : Unit) => r = lN (xq_ru S K n w sy ka kb)) (fun u => xX ad cI cL S K n wc dn w lw sy sb sh rw rk dr)) := by
  have hV2 := hV
  obtain ⟨hS0, hS3, hK0, hK4, hn6, hw, hlw, hsK, hok⟩ := hV
  have hsy : ∀ p, p < n → sy p < 4 := fun p h => Nat.lt_of_lt_of_le (hsK p h) hK4
  have hcb := xq_clb (a := ka) hS3 hK4
  have hrb := xq_rwb (a := ka) hS0 hS3
  refine xt_start (own := RX0) rfl (by decide) (Nat.le_of_ble_eq_true rfl) (fun pg ev ss mi args below meth cd A Q ls C hE hA hl hW => ?_)
  replace hl : lv_has ls 6 [(0, .ref (ad 0)), (1, .int (nI ka)), (2, .int (nI kb))] := hl
  refine xt_lconst C 0 dX0_unitsOfRow_0 (by decide +kernel) ?_
  refine lv_lstore_n C.1 C.2.1 dX0_unitsOfRow_1 rfl hl (by decide) rfl (fun ls hl => ?_)
  replace hl : lv_has ls 6 [(3, .long (lN 0)), (0, .ref (ad 0)), (1, .int (nI ka)), (2, .int (nI kb))] := hl
  refine xt_iconst C 0 dX0_unitsOfRow_2 (by decide +kernel) ?_
  refine lv_istore C.1 C.2.1 dX0_unitsOfRow_3 hl (by decide) rfl (fun ls hl => ?_)
  replace hl : lv_has ls 6 [(5, .int (nI 0)), (3, .long (lN 0)), (0, .ref (ad 0)), (1, .int (nI ka)), (2, .int (nI kb))] := hl
  have lp5 : ∀ (q : Nat) (i : Nat), xq_cl S K ka - i = q → (i ≤ xq_cl S K ka) → ∀ (ls : Array Slot) (H : Heap) (locs : List Loc), lv_has ls 6 [(5, .int (nI i)), (3, .long (lN (ms_sum (fun z1 => ms_un (xe w sy) S n sy ka kb z1) i))), (0, .ref (ad 0)), (1, .int (nI ka)), (2, .int (nI kb))] → xt_W D A ss.heap (xX ad cI cL S K n wc dn w lw sy sb sh rw rk dr) H locs → W pg l ev (xt_R 4) ss mi args below meth cd H locs 0 0 Q (F0 mi 5 ls []) := by
    intro q
    induction q using Nat.strongRecOn with
    | _ q ih5 =>
      intro i hq5 hi ls H locs hl hW
      refine lv_iload C.1 C.2.1 dX0_unitsOfRow_5 (lv_at hl 0 rfl) ?_
      refine lv_aload_n C.1 C.2.1 dX0_unitsOfRow_7 rfl (lv_at hl 2 rfl) ?_
      refine lv_iload_n C.1 C.2.1 dX0_unitsOfRow_8 rfl (lv_at hl 3 rfl) ?_
      refine xt_ci hA hW (xt_runV C hW.1 hW.2.1 cwX0_X0_columnsOf (cx_columnsOf l D cI cL ad S K n wc dn w lw sy sb sh rw rk dr ka (by omega)) rfl rfl rfl hl.1 (rest := [.int (nI i)]) rfl (Nat.le_of_ble_eq_true rfl) ⟨(Nat.le_of_ble_eq_true rfl), (Nat.le_of_ble_eq_true rfl)⟩ ⟨Nat.zero_le _, Nat.zero_le _⟩ dX0_unitsOfRow_9) (fun r9 u H locs hp9 hW => ?_)
      replace hW : xt_W D A ss.heap (xX ad cI cL S K n wc dn w lw sy sb sh rw rk dr) H locs := hW
      subst hp9
      rw [show (if ka = 2 then K else S) = xq_cl S K ka from rfl]
      refine xt_icmp_ge C (by omega) (by omega) dX0_unitsOfRow_12 (tgt := 32) (by decide) (fun h12 => ?_) (fun h12 => ?_)
      · refine lv_lload_n C.1 C.2.1 dX0_unitsOfRow_32 rfl (lv_at hl 1 rfl) ?_
        exact xt_lret C hE () hW (by show lN (ms_sum _ i) = lN _; rw [show i = xq_cl S K ka by omega]; rfl) dX0_unitsOfRow_33
      · refine lv_lload_n C.1 C.2.1 dX0_unitsOfRow_15 rfl (lv_at hl 1 rfl) ?_
        refine lv_aload_n C.1 C.2.1 dX0_unitsOfRow_16 rfl (lv_at hl 2 rfl) ?_
        refine lv_iload_n C.1 C.2.1 dX0_unitsOfRow_17 rfl (lv_at hl 3 rfl) ?_
        refine lv_iload_n C.1 C.2.1 dX0_unitsOfRow_18 rfl (lv_at hl 4 rfl) ?_
        refine lv_iload C.1 C.2.1 dX0_unitsOfRow_19 (lv_at hl 0 rfl) ?_
        refine xt_cl hA hW (xt_runV C hW.1 hW.2.1 cwX0_X0_unitsOf (cx_unitsOf l D cI cL ad S K n wc dn w lw sy sb sh rw rk dr ka kb i (hV2) (xq_kur (xq_krc ha3 hbr (by omega)))) rfl rfl rfl hl.1 (rest := [.long (lN (ms_sum (fun z1 => ms_un (xe w sy) S n sy ka kb z1) i))]) rfl (Nat.le_of_ble_eq_true rfl) ⟨(Nat.le_of_ble_eq_true rfl), (Nat.le_of_ble_eq_true rfl)⟩ ⟨Nat.zero_le _, Nat.zero_le _⟩ dX0_unitsOfRow_21) (fun r21 u H locs hp21 hW => ?_)
        replace hW : xt_W D A ss.heap (xX ad cI cL S K n wc dn w lw sy sb sh rw rk dr) H locs := hW
        subst hp21
        refine xt_ladd C dX0_unitsOfRow_24 ?_
        refine lv_lstore_n C.1 C.2.1 dX0_unitsOfRow_25 rfl hl (by decide) rfl (fun ls hl => ?_)
        replace hl : lv_has ls 6 [(3, .long (lN ((ms_sum (fun z1 => ms_un (xe w sy) S n sy ka kb z1) i) + (ms_un (xe w sy) S n sy ka kb i)))), (5, .int (nI i)), (0, .ref (ad 0)), (1, .int (nI ka)), (2, .int (nI kb))] := hl
        refine lv_iinc (k := 1) C.1 C.2.1 dX0_unitsOfRow_26 hl rfl xt_inc (by decide) rfl (fun ls hl => ?_)
        replace hl : lv_has ls 6 [(5, .int (nI (i + 1))), (3, .long (lN ((ms_sum (fun z1 => ms_un (xe w sy) S n sy ka kb z1) i) + (ms_un (xe w sy) S n sy ka kb i)))), (0, .ref (ad 0)), (1, .int (nI ka)), (2, .int (nI kb))] := hl
        refine lv_goto C.1 C.2.1 dX0_unitsOfRow_29 (tgt := 5) (by decide) ?_
        exact ih5 _ (by omega) (i + 1) rfl (by omega) ls _ _ (lv_sub hl [0, 1, 2, 3, 4] rfl) hW
  exact lp5 _ 0 rfl (Nat.zero_le _) ls _ _ (lv_sub hl [0, 1, 2, 3, 4] rfl) hW
set_option maxHeartbeats 4000000 in
set_option maxRecDepth 100000 in
theorem cx_weightOfRow (l : Launch) (D : va_G) (cI cL : ClassId) (ad : Nat → Nat) (S K n wc dn : Nat) (w lw sy sb sh rw rk dr : Nat → Nat) (ka : Nat) (kb : Nat) (hV : xq_V S K n wc w lw sy sb sh rw rk) (ha3 : ka < 3) (hbr : kb < xq_rw S ka) : xt_M l yX0_weightOfRow cX0_weightOfRow 6 (some .long) 1 D cI cL [.ref (ad 0), .int (nI ka), .int (nI kb)] (xX ad cI cL S K n wc dn w lw sy sb sh rw rk dr) (xt_Ql D cI cL (xX ad cI cL S K n wc dn w lw sy sb sh rw rk dr) (fun (r : Int64) (u : Unit) => r = lN (xq_rt S K w ka kb)) (fun u => xX ad cI cL S K n wc dn w lw sy sb sh rw rk dr)) := by
  have hV2 := hV
  obtain ⟨hS0, hS3, hK0, hK4, hn6, hw, hlw, hsK, hok⟩ := hV
  have hsy : ∀ p, p < n → sy p < 4 := fun p h => Nat.lt_of_lt_of_le (hsK p h) hK4
  have hcb := xq_clb (a := ka) hS3 hK4
  have hrb := xq_rwb (a := ka) hS0 hS3
  have hwl : ∀ i, i < 36 → w i < 2 ^ 31 := fun i h => Nat.lt_of_le_of_lt (hw i h) (by decide)
  refine xt_start (own := RX0) rfl (by decide) (Nat.le_of_ble_eq_true rfl) (fun pg ev ss mi args below meth cd A Q ls C hE hA hl hW => ?_)
  replace hl : lv_has ls 6 [(0, .ref (ad 0)), (1, .int (nI ka)), (2, .int (nI kb))] := hl
  refine xt_lconst C 0 dX0_weightOfRow_0 (by decide +kernel) ?_
  refine lv_lstore_n C.1 C.2.1 dX0_weightOfRow_1 rfl hl (by decide) rfl (fun ls hl => ?_)
  replace hl : lv_has ls 6 [(3, .long (lN 0)), (0, .ref (ad 0)), (1, .int (nI ka)), (2, .int (nI kb))] := hl
  refine xt_iconst C 0 dX0_weightOfRow_2 (by decide +kernel) ?_
  refine lv_istore C.1 C.2.1 dX0_weightOfRow_3 hl (by decide) rfl (fun ls hl => ?_)
  replace hl : lv_has ls 6 [(5, .int (nI 0)), (3, .long (lN 0)), (0, .ref (ad 0)), (1, .int (nI ka)), (2, .int (nI kb))] := hl
  have lp5 : ∀ (q : Nat) (i : Nat), xq_cl S K ka - i = q → (i ≤ xq_cl S K ka) → ∀ (ls : Array Slot) (H : Heap) (locs : List Loc), lv_has ls 6 [(5, .int (nI i)), (3, .long (lN (ms_sum (fun z1 => w ((ka * 3 + kb) * 4 + z1)) i))), (0, .ref (ad 0)), (1, .int (nI ka)), (2, .int (nI kb))] → xt_W D A ss.heap (xX ad cI cL S K n wc dn w lw sy sb sh rw rk dr) H locs → W pg l ev (xt_R 1) ss mi args below meth cd H locs 0 0 Q (F0 mi 5 ls []) := by
    intro q
    induction q using Nat.strongRecOn with
    | _ q ih5 =>
      intro i hq5 hi ls H locs hl hW
      refine lv_iload C.1 C.2.1 dX0_weightOfRow_5 (lv_at hl 0 rfl) ?_
      refine lv_aload_n C.1 C.2.1 dX0_weightOfRow_7 rfl (lv_at hl 2 rfl) ?_
      refine lv_iload_n C.1 C.2.1 dX0_weightOfRow_8 rfl (lv_at hl 3 rfl) ?_
      refine xt_ci hA hW (xt_runV C hW.1 hW.2.1 cwX0_X0_columnsOf (cx_columnsOf l D cI cL ad S K n wc dn w lw sy sb sh rw rk dr ka (by omega)) rfl rfl rfl hl.1 (rest := [.int (nI i)]) rfl (Nat.le_of_ble_eq_true rfl) ⟨(Nat.le_of_ble_eq_true rfl), (Nat.le_of_ble_eq_true rfl)⟩ ⟨Nat.zero_le _, Nat.zero_le _⟩ dX0_weightOfRow_9) (fun r9 u H locs hp9 hW => ?_)
      replace hW : xt_W D A ss.heap (xX ad cI cL S K n wc dn w lw sy sb sh rw rk dr) H locs := hW
      subst hp9
      rw [show (if ka = 2 then K else S) = xq_cl S K ka from rfl]
      refine xt_icmp_ge C (by omega) (by omega) dX0_weightOfRow_12 (tgt := 37) (by decide) (fun h12 => ?_) (fun h12 => ?_)
      · refine lv_lload_n C.1 C.2.1 dX0_weightOfRow_37 rfl (lv_at hl 1 rfl) ?_
        exact xt_lret C hE () hW (by show lN (ms_sum _ i) = lN _; rw [show i = xq_cl S K ka by omega]; rfl) dX0_weightOfRow_38
      · refine lv_lload_n C.1 C.2.1 dX0_weightOfRow_15 rfl (lv_at hl 1 rfl) ?_
        refine lv_aload_n C.1 C.2.1 dX0_weightOfRow_16 rfl (lv_at hl 2 rfl) ?_
        refine xt_get xt_inX0 C hW 0 rfl rfl 2 (by decide) rfl flX0_weights rfl dX0_weightOfRow_17 ?_
        refine lv_iload_n C.1 C.2.1 dX0_weightOfRow_20 rfl (lv_at hl 3 rfl) ?_
        refine lv_iload_n C.1 C.2.1 dX0_weightOfRow_21 rfl (lv_at hl 4 rfl) ?_
        refine lv_iload C.1 C.2.1 dX0_weightOfRow_22 (lv_at hl 0 rfl) ?_
        refine xt_ci hA hW (xt_runS C hW.1 hW.2.1 cwX0_X0_slot (cx_slot l D cI cL (xX ad cI cL S K n wc dn w lw sy sb sh rw rk dr) ka kb i) rfl hl.1 (rest := [.ref (ad 1), .long (lN (ms_sum (fun z1 => w ((ka * 3 + kb) * 4 + z1)) i))]) rfl (Nat.le_of_ble_eq_true rfl) ⟨(Nat.le_of_ble_eq_true rfl), (Nat.le_of_ble_eq_true rfl)⟩ ⟨Nat.zero_le _, Nat.zero_le _⟩ dX0_weightOfRow_24) (fun r24 u H locs hp24 hW => ?_)
        replace hW : xt_W D A ss.heap (xX ad cI cL S K n wc dn w lw sy sb sh rw rk dr) H locs := hW
        subst hp24
        refine xt_iald C hW 1 rfl (by decide) dX0_weightOfRow_27 (by omega) ?_
        refine xt_i2l C dX0_weightOfRow_28 (hwl _ (by omega)) ?_
        refine xt_ladd C dX0_weightOfRow_29 ?_
        refine lv_lstore_n C.1 C.2.1 dX0_weightOfRow_30 rfl hl (by decide) rfl (fun ls hl => ?_)
        replace hl : lv_has ls 6 [(3, .long (lN ((ms_sum (fun z1 => w ((ka * 3 + kb) * 4 + z1)) i) + (w ((ka * 3 + kb) * 4 + i))))), (5, .int (nI i)), (0, .ref (ad 0)), (1, .int (nI ka)), (2, .int (nI kb))] := hl
        refine lv_iinc (k := 1) C.1 C.2.1 dX0_weightOfRow_31 hl rfl xt_inc (by decide) rfl (fun ls hl => ?_)
        replace hl : lv_has ls 6 [(5, .int (nI (i + 1))), (3, .long (lN ((ms_sum (fun z1 => w ((ka * 3 + kb) * 4 + z1)) i) + (w ((ka * 3 + kb) * 4 + i))))), (0, .ref (ad 0)), (1, .int (nI ka)), (2, .int (nI kb))] := hl
        refine W.eq (g2 := F0 mi 34 ls []) rfl ?_
        refine lv_goto C.1 C.2.1 dX0_weightOfRow_34 (tgt := 5) (by decide) ?_
        exact ih5 _ (by omega) (i + 1) rfl (by omega) ls _ _ (lv_sub hl [0, 1, 2, 3, 4] rfl) hW
  exact lp5 _ 0 rfl (Nat.zero_le _) ls _ _ (lv_sub hl [0, 1, 2, 3, 4] rfl) hW
set_option maxHeartbeats 4000000 in
set_option maxRecDepth 100000 in
theorem cx_learnedPortion (l : Launch) (D : va_G) (cI cL : ClassId) (ad : Nat → Nat) (S K n wc dn : Nat) (w lw sy sb sh rw rk dr : Nat → Nat) (ka : Nat) (kb : Nat) (kc : Nat) (u : Nat) (hV : xq_V S K n wc w lw sy sb sh rw rk) (ha3 : ka < 3) (hbr : kb < xq_rw S ka) (hck : kc < xq_cl S K ka) (hue : u = xq_ru S K n w sy ka kb) : xt_M l yX0_learnedPortion cX0_learnedPortion 6 (some .long) 4 D cI cL [.ref (ad 0), .int (nI ka), .int (nI kb), .int (nI kc), .long (lN u)] (xX ad cI cL S K n wc dn w lw sy sb sh rw rk dr) (xt_Ql D cI cL (xX ad cI cL S K n wc dn w lw sy sb sh rw rk dr) (fun (r : Int64) (u : Unit) => r = lN (xq_po S K n w sy ka kb kc)) (fun u => xX ad cI cL S K n wc dn w lw sy sb sh rw rk dr)) := by
  have hV2 := hV
  obtain ⟨hS0, hS3, hK0, hK4, hn6, hw, hlw, hsK, hok⟩ := hV
  have hsy : ∀ p, p < n → sy p < 4 := fun p h => Nat.lt_of_lt_of_le (hsK p h) hK4
  have hcb := xq_clb (a := ka) hS3 hK4
  have hrb := xq_rwb (a := ka) hS0 hS3
  have hwl : ∀ i, i < 36 → w i < 2 ^ 31 := fun i h => Nat.lt_of_le_of_lt (hw i h) (by decide)
  refine xt_start (own := RX0) rfl (by decide) (Nat.le_of_ble_eq_true rfl) (fun pg ev ss mi args below meth cd A Q ls C hE hA hl hW => ?_)
  replace hl : lv_has ls 6 [(0, .ref (ad 0)), (1, .int (nI ka)), (2, .int (nI kb)), (3, .int (nI kc)), (4, .long (lN u))] := hl
  refine lv_lload C.1 C.2.1 dX0_learnedPortion_0 (lv_at hl 4 rfl) ?_
  refine xt_lconst C 0 dX0_learnedPortion_2 (by decide +kernel) ?_
  refine xt_l_eq C (by rw [hue]; exact Nat.lt_of_le_of_lt (xq_rub hS0 hS3 hK4 hn6 hw hsy ha3 hbr) (by decide)) (by decide) dX0_learnedPortion_3 dX0_learnedPortion_4 (tgt := 17) (by decide) (fun h3 => ?_) (fun h3 => ?_)
  · refine lv_aload_n C.1 C.2.1 dX0_learnedPortion_17 rfl (lv_at hl 0 rfl) ?_
    refine xt_get xt_inX0 C hW 0 rfl rfl 2 (by decide) rfl flX0_weights rfl dX0_learnedPortion_18 ?_
    refine lv_iload_n C.1 C.2.1 dX0_learnedPortion_21 rfl (lv_at hl 1 rfl) ?_
    refine lv_iload_n C.1 C.2.1 dX0_learnedPortion_22 rfl (lv_at hl 2 rfl) ?_
    refine lv_iload_n C.1 C.2.1 dX0_learnedPortion_23 rfl (lv_at hl 3 rfl) ?_
    refine xt_ci hA hW (xt_runS C hW.1 hW.2.1 cwX0_X0_slot (cx_slot l D cI cL (xX ad cI cL S K n wc dn w lw sy sb sh rw rk dr) ka kb kc) rfl hl.1 (rest := [.ref (ad 1)]) rfl (Nat.le_of_ble_eq_true rfl) ⟨(Nat.le_of_ble_eq_true rfl), (Nat.le_of_ble_eq_true rfl)⟩ ⟨Nat.zero_le _, Nat.zero_le _⟩ dX0_learnedPortion_24) (fun r24 u H locs hp24 hW => ?_)
    replace hW : xt_W D A ss.heap (xX ad cI cL S K n wc dn w lw sy sb sh rw rk dr) H locs := hW
    subst hp24
    refine xt_iald C hW 1 rfl (by decide) dX0_learnedPortion_27 (by omega) ?_
    refine xt_i2l C dX0_learnedPortion_28 (hwl _ (by omega)) ?_
    exact xt_lret C hE () hW (by show lN _ = lN _; unfold xq_po; rw [← hue]; first | rw [if_pos h3] | rw [if_neg h3]) dX0_learnedPortion_29
  · refine lv_aload_n C.1 C.2.1 dX0_learnedPortion_7 rfl (lv_at hl 0 rfl) ?_
    refine lv_iload_n C.1 C.2.1 dX0_learnedPortion_8 rfl (lv_at hl 1 rfl) ?_
    refine lv_iload_n C.1 C.2.1 dX0_learnedPortion_9 rfl (lv_at hl 2 rfl) ?_
    refine lv_iload_n C.1 C.2.1 dX0_learnedPortion_10 rfl (lv_at hl 3 rfl) ?_
    refine xt_cl hA hW (xt_runV C hW.1 hW.2.1 cwX0_X0_unitsOf (cx_unitsOf l D cI cL ad S K n wc dn w lw sy sb sh rw rk dr ka kb kc (hV2) (xq_kur (xq_krc ha3 hbr hck))) rfl rfl rfl hl.1 (rest := []) rfl (Nat.le_of_ble_eq_true rfl) ⟨(Nat.le_of_ble_eq_true rfl), (Nat.le_of_ble_eq_true rfl)⟩ ⟨Nat.zero_le _, Nat.zero_le _⟩ dX0_learnedPortion_11) (fun r11 u H locs hp11 hW => ?_)
    replace hW : xt_W D A ss.heap (xX ad cI cL S K n wc dn w lw sy sb sh rw rk dr) H locs := hW
    subst hp11
    refine lv_goto C.1 C.2.1 dX0_learnedPortion_14 (tgt := 29) (by decide) ?_
    exact xt_lret C hE () hW (by show lN _ = lN _; unfold xq_po; rw [← hue]; first | rw [if_pos h3] | rw [if_neg h3]) dX0_learnedPortion_29
set_option maxHeartbeats 4000000 in
set_option maxRecDepth 100000 in
theorem cx_learnedWhole (l : Launch) (D : va_G) (cI cL : ClassId) (ad : Nat → Nat) (S K n wc dn : Nat) (w lw sy sb sh rw rk dr : Nat → Nat) (ka : Nat) (kb : Nat) (u : Nat) (hV : xq_V S K n wc w lw sy sb sh rw rk) (ha3 : ka < 3) (hbr : kb < xq_rw S ka) (hue : u = xq_ru S K n w sy ka kb) : xt_M l yX0_learnedWhole cX0_learnedWhole 5 (some .long) 2 D cI cL [.ref (ad 0), .int (nI ka), .int (nI kb), .long (lN u)] (xX ad cI cL S K n wc dn w lw sy sb sh rw rk dr) (xt_Ql D cI cL (xX ad cI cL S K n wc dn w lw sy sb sh rw rk dr) (fun (r : Int64) (u : Unit) => r = lN (xq_wh S K n w sy ka kb)) (fun u => xX ad cI cL S K n wc dn w lw sy sb sh rw rk dr)) := by
  have hV2 := hV
  obtain ⟨hS0, hS3, hK0, hK4, hn6, hw, hlw, hsK, hok⟩ := hV
  have hsy : ∀ p, p < n → sy p < 4 := fun p h => Nat.lt_of_lt_of_le (hsK p h) hK4
  have hcb := xq_clb (a := ka) hS3 hK4
  have hrb := xq_rwb (a := ka) hS0 hS3
  refine xt_start (own := RX0) rfl (by decide) (Nat.le_of_ble_eq_true rfl) (fun pg ev ss mi args below meth cd A Q ls C hE hA hl hW => ?_)
  replace hl : lv_has ls 5 [(0, .ref (ad 0)), (1, .int (nI ka)), (2, .int (nI kb)), (3, .long (lN u))] := hl
  refine lv_lload_n C.1 C.2.1 dX0_learnedWhole_0 rfl (lv_at hl 3 rfl) ?_
  refine xt_lconst C 0 dX0_learnedWhole_1 (by decide +kernel) ?_
  refine xt_l_eq C (by rw [hue]; exact Nat.lt_of_le_of_lt (xq_rub hS0 hS3 hK4 hn6 hw hsy ha3 hbr) (by decide)) (by decide) dX0_learnedWhole_2 dX0_learnedWhole_3 (tgt := 10) (by decide) (fun h2 => ?_) (fun h2 => ?_)
  · refine lv_aload_n C.1 C.2.1 dX0_learnedWhole_10 rfl (lv_at hl 0 rfl) ?_
    refine lv_iload_n C.1 C.2.1 dX0_learnedWhole_11 rfl (lv_at hl 1 rfl) ?_
    refine lv_iload_n C.1 C.2.1 dX0_learnedWhole_12 rfl (lv_at hl 2 rfl) ?_
    refine xt_cl hA hW (xt_runV C hW.1 hW.2.1 cwX0_X0_weightOfRow (cx_weightOfRow l D cI cL ad S K n wc dn w lw sy sb sh rw rk dr ka kb (hV2) (by omega) (by omega)) rfl rfl rfl hl.1 (rest := []) rfl (Nat.le_of_ble_eq_true rfl) ⟨(Nat.le_of_ble_eq_true rfl), (Nat.le_of_ble_eq_true rfl)⟩ ⟨Nat.zero_le _, Nat.zero_le _⟩ dX0_learnedWhole_13) (fun r13 u H locs hp13 hW => ?_)
    replace hW : xt_W D A ss.heap (xX ad cI cL S K n wc dn w lw sy sb sh rw rk dr) H locs := hW
    subst hp13
    exact xt_lret C hE () hW (by show lN _ = lN _; unfold xq_wh; rw [← hue]; first | rw [if_pos h2] | rw [if_neg h2]) dX0_learnedWhole_16
  · refine lv_lload_n C.1 C.2.1 dX0_learnedWhole_6 rfl (lv_at hl 3 rfl) ?_
    refine lv_goto C.1 C.2.1 dX0_learnedWhole_7 (tgt := 16) (by decide) ?_
    exact xt_lret C hE () hW (by show lN _ = lN _; unfold xq_wh; rw [← hue]; first | rw [if_pos h2] | rw [if_neg h2]) dX0_learnedWhole_16
set_option maxHeartbeats 4000000 in
set_option maxRecDepth 100000 in
theorem cx_nearest (l : Launch) (D : va_G) (cI cL : ClassId) (ws : va_W) (x : Nat) (y : Nat) (hx6 : x < 2 ^ 61) (hy6 : y < 2 ^ 61) : xt_M l yX0_nearest cX0_nearest 4 (some .int) 0 D cI cL [.long (lN x), .long (lN y)] (ws) (xt_Qi D cI cL (ws) (fun (r : Int32) (u : Unit) => r = nI (if y = 0 then 0 else (2 * x + y) / (2 * y))) (fun u => ws)) := by
  refine xt_start (own := RX0) rfl (by decide) (Nat.le_of_ble_eq_true rfl) (fun pg ev ss mi args below meth cd A Q ls C hE hA hl hW => ?_)
  replace hl : lv_has ls 4 [(0, .long (lN x)), (2, .long (lN y))] := hl
  refine lv_lload_n C.1 C.2.1 dX0_nearest_0 rfl (lv_at hl 1 rfl) ?_
  refine xt_lconst C 0 dX0_nearest_1 (by decide +kernel) ?_
  refine xt_l_le C (by omega) (by omega) dX0_nearest_2 dX0_nearest_3 (tgt := 23) (by decide) (fun h2 => ?_) (fun h2 => ?_)
  · refine xt_iconst C 0 dX0_nearest_23 (by decide +kernel) ?_
    exact xt_iret C hE () hW (by show nI _ = nI _; first | rw [if_pos (by omega)] | rw [if_neg (by omega)]) dX0_nearest_24
  · refine xt_ldc2 C 2 (clX0_172) dX0_nearest_6 (by decide +kernel) ?_
    refine lv_lload_n C.1 C.2.1 dX0_nearest_9 rfl (lv_at hl 0 rfl) ?_
    refine xt_lmul C dX0_nearest_10 ?_
    refine lv_lload_n C.1 C.2.1 dX0_nearest_11 rfl (lv_at hl 1 rfl) ?_
    refine xt_ladd C dX0_nearest_12 ?_
    refine xt_ldc2 C 2 (clX0_172) dX0_nearest_13 (by decide +kernel) ?_
    refine lv_lload_n C.1 C.2.1 dX0_nearest_16 rfl (lv_at hl 1 rfl) ?_
    refine xt_lmul C dX0_nearest_17 ?_
    refine xt_ldiv C dX0_nearest_18 (by omega) (by omega) (by omega) ?_
    refine xt_l2i C dX0_nearest_19 ?_
    refine lv_goto C.1 C.2.1 dX0_nearest_20 (tgt := 24) (by decide) ?_
    exact xt_iret C hE () hW (by show nI _ = nI _; first | rw [if_pos (by omega)] | rw [if_neg (by omega)]) dX0_nearest_24
set_option maxHeartbeats 4000000 in
set_option maxRecDepth 100000 in
theorem cx_learnRow (l : Launch) (D : va_G) (cI cL : ClassId) (ad : Nat → Nat) (S K n wc dn : Nat) (w lw sy sb sh rw rk dr : Nat → Nat) (ka : Nat) (kb : Nat) (hV : xq_V S K n wc w lw sy sb sh rw rk) (ha3 : ka < 3) (hbr : kb < xq_rw S ka) : xt_M l yX0_learnRow cX0_learnRow 10 (some .int) 5 D cI cL [.ref (ad 0), .int (nI ka), .int (nI kb)] (xX ad cI cL S K n wc dn w lw sy sb sh rw rk dr) (xt_Qi D cI cL (xX ad cI cL S K n wc dn w lw sy sb sh rw rk dr) (fun (r : Int32) (u : (Nat → Nat)) => r = nI (ms_sum (fun z1 => xq_lv S K n w sy ka kb z1) (xq_cl S K ka)) ∧ (∀ z1, z1 < xq_cl S K ka → u ((ka * 3 + kb) * 4 + z1) = xq_lv S K n w sy ka kb z1) ∧ (∀ z2, (∀ z1, z1 < xq_cl S K ka → z2 ≠ (ka * 3 + kb) * 4 + z1) → u z2 = lw z2) ∧ (∀ z2, z2 < 36 → u z2 ≤ 9)) (fun u => xX ad cI cL S K n wc dn w u sy sb sh rw rk dr)) := by
  have hV2 := hV
  obtain ⟨hS0, hS3, hK0, hK4, hn6, hw, hlw, hsK, hok⟩ := hV
  have hsy : ∀ p, p < n → sy p < 4 := fun p h => Nat.lt_of_lt_of_le (hsK p h) hK4
  have hcb := xq_clb (a := ka) hS3 hK4
  have hrb := xq_rwb (a := ka) hS0 hS3
  have hwhb := xq_whb (n := n) (K := K) hS0 hS3 hK4 hn6 hw hsy ha3 hbr
  refine xt_start (own := RX0) rfl (by decide) (Nat.le_of_ble_eq_true rfl) (fun pg ev ss mi args below meth cd A Q ls C hE hA hl hW => ?_)
  replace hl : lv_has ls 10 [(0, .ref (ad 0)), (1, .int (nI ka)), (2, .int (nI kb))] := hl
  refine xt_iconst C 0 dX0_learnRow_0 (by decide +kernel) ?_
  refine lv_istore_n C.1 C.2.1 dX0_learnRow_1 rfl hl (by decide) rfl (fun ls hl => ?_)
  replace hl : lv_has ls 10 [(3, .int (nI 0)), (0, .ref (ad 0)), (1, .int (nI ka)), (2, .int (nI kb))] := hl
  refine lv_aload_n C.1 C.2.1 dX0_learnRow_2 rfl (lv_at hl 1 rfl) ?_
  refine lv_iload_n C.1 C.2.1 dX0_learnRow_3 rfl (lv_at hl 2 rfl) ?_
  refine lv_iload_n C.1 C.2.1 dX0_learnRow_4 rfl (lv_at hl 3 rfl) ?_
  refine xt_cl hA hW (xt_runV C hW.1 hW.2.1 cwX0_X0_unitsOfRow (cx_unitsOfRow l D cI cL ad S K n wc dn w lw sy sb sh rw rk dr ka kb (hV2) (by omega) (by omega)) rfl rfl rfl hl.1 (rest := []) rfl (Nat.le_of_ble_eq_true rfl) ⟨(Nat.le_of_ble_eq_true rfl), (Nat.le_of_ble_eq_true rfl)⟩ ⟨Nat.zero_le _, Nat.zero_le _⟩ dX0_learnRow_5) (fun r5 u H locs hp5 hW => ?_)
  replace hW : xt_W D A ss.heap (xX ad cI cL S K n wc dn w lw sy sb sh rw rk dr) H locs := hW
  subst hp5
  refine lv_lstore C.1 C.2.1 dX0_learnRow_8 hl (by decide) rfl (fun ls hl => ?_)
  replace hl : lv_has ls 10 [(4, .long (lN (xq_ru S K n w sy ka kb))), (3, .int (nI 0)), (0, .ref (ad 0)), (1, .int (nI ka)), (2, .int (nI kb))] := hl
  refine lv_aload_n C.1 C.2.1 dX0_learnRow_10 rfl (lv_at hl 2 rfl) ?_
  refine lv_iload_n C.1 C.2.1 dX0_learnRow_11 rfl (lv_at hl 3 rfl) ?_
  refine lv_iload_n C.1 C.2.1 dX0_learnRow_12 rfl (lv_at hl 4 rfl) ?_
  refine lv_lload C.1 C.2.1 dX0_learnRow_13 (lv_at hl 0 rfl) ?_
  refine xt_cl hA hW (xt_runV C hW.1 hW.2.1 cwX0_X0_learnedWhole (cx_learnedWhole l D cI cL ad S K n wc dn w lw sy sb sh rw rk dr ka kb (xq_ru S K n w sy ka kb) (hV2) (by omega) (by omega) (rfl)) rfl rfl rfl hl.1 (rest := []) rfl (Nat.le_of_ble_eq_true rfl) ⟨(Nat.le_of_ble_eq_true rfl), (Nat.le_of_ble_eq_true rfl)⟩ ⟨Nat.zero_le _, Nat.zero_le _⟩ dX0_learnRow_15) (fun r15 u H locs hp15 hW => ?_)
  replace hW : xt_W D A ss.heap (xX ad cI cL S K n wc dn w lw sy sb sh rw rk dr) H locs := hW
  subst hp15
  refine W.eq (g2 := F0 mi 18 ls [.long (lN (xq_wh S K n w sy ka kb))]) rfl ?_
  refine lv_lstore C.1 C.2.1 dX0_learnRow_18 hl (by decide) rfl (fun ls hl => ?_)
  replace hl : lv_has ls 10 [(6, .long (lN (xq_wh S K n w sy ka kb))), (4, .long (lN (xq_ru S K n w sy ka kb))), (3, .int (nI 0)), (0, .ref (ad 0)), (1, .int (nI ka)), (2, .int (nI kb))] := hl
  refine xt_iconst C 0 dX0_learnRow_20 (by decide +kernel) ?_
  refine lv_istore C.1 C.2.1 dX0_learnRow_21 hl (by decide) rfl (fun ls hl => ?_)
  replace hl : lv_has ls 10 [(8, .int (nI 0)), (6, .long (lN (xq_wh S K n w sy ka kb))), (4, .long (lN (xq_ru S K n w sy ka kb))), (3, .int (nI 0)), (0, .ref (ad 0)), (1, .int (nI ka)), (2, .int (nI kb))] := hl
  have lp23 : ∀ (q : Nat) (i : Nat) (lv : Nat → Nat), xq_cl S K ka - i = q → (i ≤ xq_cl S K ka) → (∀ z1, z1 < i → lv ((ka * 3 + kb) * 4 + z1) = xq_lv S K n w sy ka kb z1) → (∀ z2, (∀ z1, z1 < xq_cl S K ka → z2 ≠ (ka * 3 + kb) * 4 + z1) → lv z2 = lw z2) → (∀ z2, z2 < 36 → lv z2 ≤ 9) → ∀ (ls : Array Slot) (H : Heap) (locs : List Loc), lv_has ls 10 [(8, .int (nI i)), (3, .int (nI (ms_sum (fun z1 => xq_lv S K n w sy ka kb z1) i))), (6, .long (lN (xq_wh S K n w sy ka kb))), (4, .long (lN (xq_ru S K n w sy ka kb))), (0, .ref (ad 0)), (1, .int (nI ka)), (2, .int (nI kb))] → xt_W D A ss.heap (xX ad cI cL S K n wc dn w lv sy sb sh rw rk dr) H locs → W pg l ev (xt_R 5) ss mi args below meth cd H locs 0 0 Q (F0 mi 23 ls []) := by
    intro q
    induction q using Nat.strongRecOn with
    | _ q ih23 =>
      intro i lv hq23 hi h1 h2 h3 ls H locs hl hW
      refine lv_iload C.1 C.2.1 dX0_learnRow_23 (lv_at hl 0 rfl) ?_
      refine lv_aload_n C.1 C.2.1 dX0_learnRow_25 rfl (lv_at hl 4 rfl) ?_
      refine lv_iload_n C.1 C.2.1 dX0_learnRow_26 rfl (lv_at hl 5 rfl) ?_
      refine xt_ci hA hW (xt_runV C hW.1 hW.2.1 cwX0_X0_columnsOf (cx_columnsOf l D cI cL ad S K n wc dn w lv sy sb sh rw rk dr ka (by omega)) rfl rfl rfl hl.1 (rest := [.int (nI i)]) rfl (Nat.le_of_ble_eq_true rfl) ⟨(Nat.le_of_ble_eq_true rfl), (Nat.le_of_ble_eq_true rfl)⟩ ⟨Nat.zero_le _, Nat.zero_le _⟩ dX0_learnRow_27) (fun r27 u H locs hp27 hW => ?_)
      replace hW : xt_W D A ss.heap (xX ad cI cL S K n wc dn w lv sy sb sh rw rk dr) H locs := hW
      subst hp27
      rw [show (if ka = 2 then K else S) = xq_cl S K ka from rfl]
      refine xt_icmp_ge C (by omega) (by omega) dX0_learnRow_30 (tgt := 79) (by decide) (fun h30 => ?_) (fun h30 => ?_)
      · refine lv_iload_n C.1 C.2.1 dX0_learnRow_79 rfl (lv_at hl 1 rfl) ?_
        exact xt_iret C hE lv hW (⟨by show nI (ms_sum _ i) = nI _; rw [show i = xq_cl S K ka by omega], fun z1 hz => h1 z1 (by omega), h2, h3⟩) dX0_learnRow_80
      · refine xt_ldc2 C 9 (clX0_166) dX0_learnRow_33 (by decide +kernel) ?_
        refine lv_aload_n C.1 C.2.1 dX0_learnRow_36 rfl (lv_at hl 4 rfl) ?_
        refine lv_iload_n C.1 C.2.1 dX0_learnRow_37 rfl (lv_at hl 5 rfl) ?_
        refine lv_iload_n C.1 C.2.1 dX0_learnRow_38 rfl (lv_at hl 6 rfl) ?_
        refine lv_iload C.1 C.2.1 dX0_learnRow_39 (lv_at hl 0 rfl) ?_
        refine lv_lload C.1 C.2.1 dX0_learnRow_41 (lv_at hl 3 rfl) ?_
        refine xt_cl hA hW (xt_runV C hW.1 hW.2.1 cwX0_X0_learnedPortion (cx_learnedPortion l D cI cL ad S K n wc dn w lv sy sb sh rw rk dr ka kb i (xq_ru S K n w sy ka kb) (xq_Vlw hV2 h3) (by omega) (by omega) (by omega) (rfl)) rfl rfl rfl hl.1 (rest := [.long (lN 9)]) rfl (Nat.le_of_ble_eq_true rfl) ⟨(Nat.le_of_ble_eq_true rfl), (Nat.le_of_ble_eq_true rfl)⟩ ⟨Nat.zero_le _, Nat.zero_le _⟩ dX0_learnRow_43) (fun r43 u H locs hp43 hW => ?_)
        replace hW : xt_W D A ss.heap (xX ad cI cL S K n wc dn w lv sy sb sh rw rk dr) H locs := hW
        subst hp43
        have hpb := xq_pow (S := S) (K := K) (n := n) (w := w) (sy := sy) (a := ka) (b := kb) (c := i) (by omega)
        refine xt_lmul C dX0_learnRow_46 ?_
        refine lv_lload C.1 C.2.1 dX0_learnRow_47 (lv_at hl 2 rfl) ?_
        refine xt_ci hA hW (xt_runS C hW.1 hW.2.1 cwX0_X0_nearest (cx_nearest l D cI cL (xX ad cI cL S K n wc dn w lv sy sb sh rw rk dr) (9 * (xq_po S K n w sy ka kb i)) (xq_wh S K n w sy ka kb) (by omega) (by omega)) rfl hl.1 (rest := []) rfl (Nat.le_of_ble_eq_true rfl) ⟨(Nat.le_of_ble_eq_true rfl), (Nat.le_of_ble_eq_true rfl)⟩ ⟨Nat.zero_le _, Nat.zero_le _⟩ dX0_learnRow_49) (fun r49 u H locs hp49 hW => ?_)
        replace hW : xt_W D A ss.heap (xX ad cI cL S K n wc dn w lv sy sb sh rw rk dr) H locs := hW
        subst hp49
        refine lv_istore C.1 C.2.1 dX0_learnRow_52 hl (by decide) rfl (fun ls hl => ?_)
        replace hl : lv_has ls 10 [(9, .int (nI (xq_lv S K n w sy ka kb i))), (8, .int (nI i)), (3, .int (nI (ms_sum (fun z1 => xq_lv S K n w sy ka kb z1) i))), (6, .long (lN (xq_wh S K n w sy ka kb))), (4, .long (lN (xq_ru S K n w sy ka kb))), (0, .ref (ad 0)), (1, .int (nI ka)), (2, .int (nI kb))] := hl
        refine lv_aload_n C.1 C.2.1 dX0_learnRow_54 rfl (lv_at hl 5 rfl) ?_
        refine W.eq (g2 := F0 mi 55 ls [.ref (ad 0)]) rfl ?_
        refine xt_get xt_inX0 C hW 0 rfl rfl 3 (by decide) rfl flX0_learnedWeights rfl dX0_learnRow_55 ?_
        refine lv_iload_n C.1 C.2.1 dX0_learnRow_58 rfl (lv_at hl 6 rfl) ?_
        refine lv_iload_n C.1 C.2.1 dX0_learnRow_59 rfl (lv_at hl 7 rfl) ?_
        refine lv_iload C.1 C.2.1 dX0_learnRow_60 (lv_at hl 1 rfl) ?_
        refine xt_ci hA hW (xt_runS C hW.1 hW.2.1 cwX0_X0_slot (cx_slot l D cI cL (xX ad cI cL S K n wc dn w lv sy sb sh rw rk dr) ka kb i) rfl hl.1 (rest := [.ref (ad 2)]) rfl (Nat.le_of_ble_eq_true rfl) ⟨(Nat.le_of_ble_eq_true rfl), (Nat.le_of_ble_eq_true rfl)⟩ ⟨Nat.zero_le _, Nat.zero_le _⟩ dX0_learnRow_62) (fun r62 u H locs hp62 hW => ?_)
        replace hW : xt_W D A ss.heap (xX ad cI cL S K n wc dn w lv sy sb sh rw rk dr) H locs := hW
        subst hp62
        refine lv_iload C.1 C.2.1 dX0_learnRow_65 (lv_at hl 0 rfl) ?_
        refine xt_iast C hW 2 rfl (by decide) dX0_learnRow_67 (by omega) (fun H locs hW => ?_)
        replace hW : xt_W D A ss.heap (xX ad cI cL S K n wc dn w (va_up lv ((ka * 3 + kb) * 4 + i) (xq_lv S K n w sy ka kb i)) sy sb sh rw rk dr) H locs := hW
        refine lv_iload_n C.1 C.2.1 dX0_learnRow_68 rfl (lv_at hl 2 rfl) ?_
        refine lv_iload C.1 C.2.1 dX0_learnRow_69 (lv_at hl 0 rfl) ?_
        refine xt_iadd C dX0_learnRow_71 ?_
        refine lv_istore_n C.1 C.2.1 dX0_learnRow_72 rfl hl (by decide) rfl (fun ls hl => ?_)
        replace hl : lv_has ls 10 [(3, .int (nI ((ms_sum (fun z1 => xq_lv S K n w sy ka kb z1) i) + (xq_lv S K n w sy ka kb i)))), (9, .int (nI (xq_lv S K n w sy ka kb i))), (8, .int (nI i)), (6, .long (lN (xq_wh S K n w sy ka kb))), (4, .long (lN (xq_ru S K n w sy ka kb))), (0, .ref (ad 0)), (1, .int (nI ka)), (2, .int (nI kb))] := hl
        refine lv_iinc (k := 2) C.1 C.2.1 dX0_learnRow_73 hl rfl xt_inc (by decide) rfl (fun ls hl => ?_)
        replace hl : lv_has ls 10 [(8, .int (nI (i + 1))), (3, .int (nI ((ms_sum (fun z1 => xq_lv S K n w sy ka kb z1) i) + (xq_lv S K n w sy ka kb i)))), (9, .int (nI (xq_lv S K n w sy ka kb i))), (6, .long (lN (xq_wh S K n w sy ka kb))), (4, .long (lN (xq_ru S K n w sy ka kb))), (0, .ref (ad 0)), (1, .int (nI ka)), (2, .int (nI kb))] := hl
        refine W.eq (g2 := F0 mi 76 ls []) rfl ?_
        refine lv_goto C.1 C.2.1 dX0_learnRow_76 (tgt := 23) (by decide) ?_
        exact ih23 _ (by omega) (i + 1) (va_up lv ((ka * 3 + kb) * 4 + i) (xq_lv S K n w sy ka kb i)) rfl (by omega) (fun z1 hz => if e : z1 = i then (by rw [e, xq_up]) else (by rw [xq_un (by omega)]; exact h1 z1 (by omega))) (fun z2 hz => by rw [xq_un (hz i (by omega))]; exact h2 z2 hz) (xq_upb h3 (xq_lvb (by omega))) ls _ _ (lv_sub hl [0, 1, 3, 4, 5, 6, 7] rfl) hW
  exact lp23 _ 0 lw rfl (Nat.zero_le _) (fun z1 h => absurd h (Nat.not_lt_zero z1)) (fun z2 _ => rfl) (hlw) ls _ _ (lv_sub hl [0, 3, 1, 2, 4, 5, 6] rfl) hW
end
section
/-- the sum of all weights that are learned -/
def xq_lsm (S K n : Nat) (w sy : Nat → Nat) : Nat := ms_sum (fun z1 => ms_sum (fun z2 => ms_sum (fun z3 => xq_lv S K n w sy z1 z2 z3) (xq_cl S K z1)) (xq_rw S z1)) 3
theorem xq_lrn {S K n a b : Nat} {w sy lv lv2 : Nat → Nat} (hS0 : 0 < S) (hS3 : S ≤ 3) (hK4 : K ≤ 4) (hb : b < xq_rw S a)
    (g3 : ∀ z1 z2 z3, (z1 < a ∨ (z1 = a ∧ z2 < b)) → z2 < xq_rw S z1 → z3 < xq_cl S K z1 → lv ((z1 * 3 + z2) * 4 + z3) = xq_lv S K n w sy z1 z2 z3)
    (h1 : ∀ z1, z1 < xq_cl S K a → lv2 ((a * 3 + b) * 4 + z1) = xq_lv S K n w sy a b z1) (h2 : ∀ z2, (∀ z1, z1 < xq_cl S K a → z2 ≠ (a * 3 + b) * 4 + z1) → lv2 z2 = lv z2) :
    ∀ z1 z2 z3, (z1 < a ∨ (z1 = a ∧ z2 < b + 1)) → z2 < xq_rw S z1 → z3 < xq_cl S K z1 → lv2 ((z1 * 3 + z2) * 4 + z3) = xq_lv S K n w sy z1 z2 z3 := by
  intro z1 z2 z3 hz h5 h6
  by_cases e : z1 = a ∧ z2 = b
  · obtain ⟨rfl, rfl⟩ := e
    exact h1 z3 h6
  · have c1 := xq_clb (a := z1) hS3 hK4
    have c2 := xq_clb (a := a) hS3 hK4
    have r1 := xq_rwb (a := z1) hS0 hS3
    have r2 := xq_rwb (a := a) hS0 hS3
    rw [h2 _ (fun q hq => by omega)]
    exact g3 z1 z2 z3 (by omega) h5 h6
theorem xq_slb {S K a b c : Nat} (hS3 : S ≤ 3) (hK4 : K ≤ 4) (h : xq_kr S K a b c) : (a * 3 + b) * 4 + c < 36 := by
  unfold xq_kr at h
  omega
theorem xq_totb {S n : Nat} {w sy : Nat → Nat} (hS0 : 0 < S) (hS3 : S ≤ 3) (hn6 : n ≤ 6) (hw : ∀ i, i < 36 → w i ≤ 9) (hsy : ∀ p, p < n → sy p < 4) : ms_sum (fun z1 => ms_wt (xe w sy) S n z1) (S ^ n) < 2 ^ 63 :=
  Nat.lt_of_le_of_lt (ms_tot_le hS0 hS3 hn6 (xq_e81 hw hS3 hsy)) (by decide)
def xq_sr (S K n ka kb kc : Nat) : Prop := (ka = 0 ∧ kb < n ∧ kc < S) ∨ (ka = 1 ∧ kb < S ∧ kc < S) ∨ (ka = 2 ∧ kb < S ∧ kc < K)
theorem xq_sku {S K n a b c : Nat} (hn6 : n ≤ 6) (h : xq_sr S K n a b c) : xq_ku S K a b c := by
  unfold xq_sr at h
  unfold xq_ku
  omega
theorem xq_skr {S K n a b c : Nat} (h0 : a ≠ 0) (h : xq_sr S K n a b c) : xq_kr S K a b c := by
  unfold xq_sr at h
  unfold xq_kr
  omega
/-- drawing: a step of units -/
theorem xq_un1 {S n p r a t : Nat} {w sy sh : Nat → Nat} {wt fr : Nat} (hn : n = p + 1 + r) (ht : t < S) (hwt : wt = ms_wt (xe w sy) S p a) (hfr : fr = ms_ls S p a) (hsh : ∀ q t, q < n → t < S → sh (q * 3 + t) = ms_bh (xe w sy) S n (n - 1 - q) t) :
    ms_sum (fun z1 => ms_wt (xe w sy) S n z1) ((a * S + t + 1) * S ^ r) = ms_sum (fun z1 => ms_wt (xe w sy) S n z1) ((a * S + t) * S ^ r) + wt * xe w sy p fr t * sh (p * 3 + t) := by
  rw [hsh p t (by omega) ht, show n - 1 - p = r by omega, hwt, hfr]
  exact ms_blk_step (xe_0 w sy) hn ht
theorem xq_unl {S n p r a t : Nat} {w sy sh : Nat → Nat} {wt fr : Nat} (hn : n = p + 1 + r) (ht : t < S) (ha : a < S ^ p) (hwt : wt = ms_wt (xe w sy) S p a) (hfr : fr = ms_ls S p a) (hsh : ∀ q t, q < n → t < S → sh (q * 3 + t) = ms_bh (xe w sy) S n (n - 1 - q) t) (htb : ms_sum (fun z1 => ms_wt (xe w sy) S n z1) (S ^ n) < 2 ^ 63) : wt * xe w sy p fr t * sh (p * 3 + t) < 2 ^ 63 := by
  have h1 := xq_un1 (w := w) (sy := sy) hn ht hwt hfr hsh
  have h2 : (a * S + t + 1) * S ^ r ≤ S ^ n := by
    have h3 : a * S + t + 1 ≤ S ^ (p + 1) := xq_snl ha ht
    have h4 := Nat.mul_le_mul_right (S ^ r) h3
    rw [← Nat.pow_add, ← hn] at h4
    exact h4
  have h5 := ms_sum_len (f := fun z1 => ms_wt (xe w sy) S n z1) h2
  omega
set_option maxHeartbeats 4000000 in
set_option maxRecDepth 100000 in
theorem cx_learn (l : Launch) (D : va_G) (cI cL : ClassId) (ad : Nat → Nat) (S K n wc dn : Nat) (w lw sy sb sh rw rk dr : Nat → Nat) (hV : xq_V S K n wc w lw sy sb sh rw rk) : xt_M l yX0_learn cX0_learn 4 (some .int) 10 D cI cL [.ref (ad 0)] (xX ad cI cL S K n wc dn w lw sy sb sh rw rk dr) (xt_Qi D cI cL (xX ad cI cL S K n wc dn w lw sy sb sh rw rk dr) (fun (r : Int32) (u : (Nat → Nat) × (Nat → Nat) × (Nat → Nat) × (Nat → Nat) × (Nat) × (Nat → Nat) × (Nat → Nat)) => r = nI (xq_lsm S K n w sy) ∧ (∀ z1 z2 z3, xq_kr S K z1 z2 z3 → u.1 ((z1 * 3 + z2) * 4 + z3) = xq_lv S K n w sy z1 z2 z3) ∧ (∀ z1, z1 < 36 → u.1 z1 ≤ 9) ∧ (∀ z1, z1 < 36 → u.2.1 z1 ≤ 9) ∧ xq_ok S n u.1 sy u.2.2.1 u.2.2.2.1 u.2.2.2.2.1 u.2.2.2.2.2.1 u.2.2.2.2.2.2) (fun u => xX ad cI cL S K n u.2.2.2.2.1 dn u.1 u.2.1 sy u.2.2.1 u.2.2.2.1 u.2.2.2.2.2.1 u.2.2.2.2.2.2 dr)) := by
  have hV2 := hV
  obtain ⟨hS0, hS3, hK0, hK4, hn6, hw, hlw, hsK, hok⟩ := hV
  have hsy : ∀ p, p < n → sy p < 4 := fun p h => Nat.lt_of_lt_of_le (hsK p h) hK4
  refine xt_start (own := RX0) rfl (by decide) (Nat.le_of_ble_eq_true rfl) (fun pg ev ss mi args below meth cd A Q ls C hE hA hl hW => ?_)
  replace hl : lv_has ls 4 [(0, .ref (ad 0))] := hl
  refine xt_iconst C 0 dX0_learn_0 (by decide +kernel) ?_
  refine lv_istore_n C.1 C.2.1 dX0_learn_1 rfl hl (by decide) rfl (fun ls hl => ?_)
  replace hl : lv_has ls 4 [(1, .int (nI 0)), (0, .ref (ad 0))] := hl
  refine xt_iconst C 0 dX0_learn_2 (by decide +kernel) ?_
  refine lv_istore_n C.1 C.2.1 dX0_learn_3 rfl hl (by decide) rfl (fun ls hl => ?_)
  replace hl : lv_has ls 4 [(2, .int (nI 0)), (1, .int (nI 0)), (0, .ref (ad 0))] := hl
  have lp4 : ∀ (q : Nat) (a : Nat) (lv : Nat → Nat), 3 - a = q → (a ≤ 3) → (∀ z1 z2 z3, z1 < a → z2 < xq_rw S z1 → z3 < xq_cl S K z1 → lv ((z1 * 3 + z2) * 4 + z3) = xq_lv S K n w sy z1 z2 z3) → (∀ z1, z1 < 36 → lv z1 ≤ 9) → ∀ (ls : Array Slot) (H : Heap) (locs : List Loc), lv_has ls 4 [(2, .int (nI a)), (1, .int (nI (ms_sum (fun z1 => ms_sum (fun z2 => ms_sum (fun z3 => xq_lv S K n w sy z1 z2 z3) (xq_cl S K z1)) (xq_rw S z1)) a))), (0, .ref (ad 0))] → xt_W D A ss.heap (xX ad cI cL S K n wc dn w lv sy sb sh rw rk dr) H locs → W pg l ev (xt_R 10) ss mi args below meth cd H locs 0 0 Q (F0 mi 4 ls []) := by
    intro q
    induction q using Nat.strongRecOn with
    | _ q ih4 =>
      intro a lv hq4 ha g1 g2 ls H locs hl hW
      refine lv_iload_n C.1 C.2.1 dX0_learn_4 rfl (lv_at hl 0 rfl) ?_
      refine xt_iconst C 3 dX0_learn_5 (by decide +kernel) ?_
      refine xt_icmp_ge C (by omega) (by omega) dX0_learn_6 (tgt := 41) (by decide) (fun h6 => ?_) (fun h6 => ?_)
      · refine lv_aload_n C.1 C.2.1 dX0_learn_41 rfl (lv_at hl 2 rfl) ?_
        refine xt_get xt_inX0 C hW 0 rfl rfl 3 (by decide) rfl flX0_learnedWeights rfl dX0_learn_42 ?_
        refine xt_iconst C 0 dX0_learn_45 (by decide +kernel) ?_
        refine lv_aload_n C.1 C.2.1 dX0_learn_46 rfl (lv_at hl 2 rfl) ?_
        refine xt_get xt_inX0 C hW 0 rfl rfl 2 (by decide) rfl flX0_weights rfl dX0_learn_47 ?_
        refine xt_iconst C 0 dX0_learn_50 (by decide +kernel) ?_
        refine lv_aload_n C.1 C.2.1 dX0_learn_51 rfl (lv_at hl 2 rfl) ?_
        refine xt_get xt_inX0 C hW 0 rfl rfl 2 (by decide) rfl flX0_weights rfl dX0_learn_52 ?_
        refine va_alen (v := nI 36) C.1 C.2.1 C.K hW.1 1 0 rfl rfl rfl dX0_learn_55 ?_
        refine xt_copyi C hW hl.1 2 1 36 rfl rfl (by decide) (by decide) xt_acp dX0_learn_56 (fun H locs hW => ?_)
        replace hW : xt_W D A ss.heap (xX ad cI cL S K n wc dn (fun j => if j < 36 then lv j else w j) lv sy sb sh rw rk dr) H locs := hW
        refine lv_aload_n C.1 C.2.1 dX0_learn_59 rfl (lv_at hl 2 rfl) ?_
        refine xt_cvd hA hW (xt_runV C hW.1 hW.2.1 cwX0_X0_reckon (cx_reckon l D cI cL ad S K n wc dn (fun j => if j < 36 then lv j else w j) lv sy sb sh rw rk dr (by omega) (by omega) (by omega) (fun i h => by show (if i < 36 then lv i else w i) ≤ 9; rw [if_pos h]; exact g2 i h) (hsy)) rfl rfl rfl hl.1 (rest := []) rfl (Nat.le_of_ble_eq_true rfl) ⟨(Nat.le_of_ble_eq_true rfl), (Nat.le_of_ble_eq_true rfl)⟩ ⟨Nat.zero_le _, Nat.zero_le _⟩ dX0_learn_60) (fun u H locs hp60 hW => ?_)
        obtain ⟨sb_60, sh_60, wc_60, rw_60, rk_60⟩ := u
        replace hW : xt_W D A ss.heap (xX ad cI cL S K n wc_60 dn (fun j => if j < 36 then lv j else w j) lv sy sb_60 sh_60 rw_60 rk_60 dr) H locs := hW
        replace hp60 : xq_ok S n (fun j => if j < 36 then lv j else w j) sy sb_60 sh_60 wc_60 rw_60 rk_60 := hp60
        refine W.eq (g2 := F0 mi 63 ls []) rfl ?_
        refine lv_iload_n C.1 C.2.1 dX0_learn_63 rfl (lv_at hl 1 rfl) ?_
        exact xt_iret C hE (fun j => if j < 36 then lv j else w j, lv, sb_60, sh_60, wc_60, rw_60, rk_60) hW (⟨by show nI (ms_sum _ a) = nI _; rw [show a = 3 by omega]; rfl, fun z1 z2 z3 hk => (by show (if _ < 36 then lv _ else w _) = _; rw [if_pos (xq_slb hS3 hK4 hk)]; exact g1 z1 z2 z3 (by have := (xq_kcr hk).1; omega) (xq_kcr hk).2.1 (xq_kcr hk).2.2), fun z1 h => (by show (if z1 < 36 then lv z1 else w z1) ≤ 9; rw [if_pos h]; exact g2 z1 h), g2, hp60⟩) dX0_learn_64
      · refine xt_iconst C 0 dX0_learn_9 (by decide +kernel) ?_
        refine lv_istore_n C.1 C.2.1 dX0_learn_10 rfl hl (by decide) rfl (fun ls hl => ?_)
        replace hl : lv_has ls 4 [(3, .int (nI 0)), (2, .int (nI a)), (1, .int (nI (ms_sum (fun z1 => ms_sum (fun z2 => ms_sum (fun z3 => xq_lv S K n w sy z1 z2 z3) (xq_cl S K z1)) (xq_rw S z1)) a))), (0, .ref (ad 0))] := hl
        have lp11 : ∀ (q : Nat) (b : Nat) (lv2 : Nat → Nat), xq_rw S a - b = q → (b ≤ xq_rw S a) → (∀ z1 z2 z3, (z1 < a ∨ (z1 = a ∧ z2 < b)) → z2 < xq_rw S z1 → z3 < xq_cl S K z1 → lv2 ((z1 * 3 + z2) * 4 + z3) = xq_lv S K n w sy z1 z2 z3) → (∀ z1, z1 < 36 → lv2 z1 ≤ 9) → ∀ (ls : Array Slot) (H : Heap) (locs : List Loc), lv_has ls 4 [(3, .int (nI b)), (2, .int (nI a)), (1, .int (nI (ms_sum (fun z1 => ms_sum (fun z2 => ms_sum (fun z3 => xq_lv S K n w sy z1 z2 z3) (xq_cl S K z1)) (xq_rw S z1)) a + ms_sum (fun z2 => ms_sum (fun z3 => xq_lv S K n w sy a z2 z3) (xq_cl S K a)) b))), (0, .ref (ad 0))] → xt_W D A ss.heap (xX ad cI cL S K n wc dn w lv2 sy sb sh rw rk dr) H locs → W pg l ev (xt_R 10) ss mi args below meth cd H locs 0 0 Q (F0 mi 11 ls []) := by
          intro q
          induction q using Nat.strongRecOn with
          | _ q ih11 =>
            intro b lv2 hq11 hb g3 g4 ls H locs hl hW
            refine lv_iload_n C.1 C.2.1 dX0_learn_11 rfl (lv_at hl 0 rfl) ?_
            have hrb := xq_rwb (a := a) hS0 hS3
            refine lv_aload_n C.1 C.2.1 dX0_learn_12 rfl (lv_at hl 3 rfl) ?_
            refine lv_iload_n C.1 C.2.1 dX0_learn_13 rfl (lv_at hl 1 rfl) ?_
            refine xt_ci hA hW (xt_runV C hW.1 hW.2.1 cwX0_X0_rowsOf (cx_rowsOf l D cI cL ad S K n wc dn w lv2 sy sb sh rw rk dr (nI a)) rfl rfl rfl hl.1 (rest := [.int (nI b)]) rfl (Nat.le_of_ble_eq_true rfl) ⟨(Nat.le_of_ble_eq_true rfl), (Nat.le_of_ble_eq_true rfl)⟩ ⟨Nat.zero_le _, Nat.zero_le _⟩ dX0_learn_14) (fun r14 u H locs hp14 hW => ?_)
            replace hW : xt_W D A ss.heap (xX ad cI cL S K n wc dn w lv2 sy sb sh rw rk dr) H locs := hW
            replace hp14 : ((nI a) = nI 0 ∧ r14 = nI 1) ∨ ((nI a) = nI 1 ∧ r14 = nI S) ∨ ((nI a) = nI 2 ∧ r14 = nI S) ∨ (¬ (nI a) = nI 0 ∧ ¬ (nI a) = nI 1 ∧ ¬ (nI a) = nI 2 ∧ r14 = nI 0) := hp14
            replace hp14 := xq_rows (by omega) hp14
            subst hp14
            refine xt_icmp_ge C (by omega) (by omega) dX0_learn_17 (tgt := 35) (by decide) (fun h17 => ?_) (fun h17 => ?_)
            · refine lv_iinc (k := 1) C.1 C.2.1 dX0_learn_35 hl rfl xt_inc (by decide) rfl (fun ls hl => ?_)
              replace hl : lv_has ls 4 [(2, .int (nI (a + 1))), (3, .int (nI b)), (1, .int (nI (ms_sum (fun z1 => ms_sum (fun z2 => ms_sum (fun z3 => xq_lv S K n w sy z1 z2 z3) (xq_cl S K z1)) (xq_rw S z1)) a + ms_sum (fun z2 => ms_sum (fun z3 => xq_lv S K n w sy a z2 z3) (xq_cl S K a)) b))), (0, .ref (ad 0))] := hl
              refine lv_goto C.1 C.2.1 dX0_learn_38 (tgt := 4) (by decide) ?_
              rw [show b = xq_rw S a by omega] at hl
              replace hl : lv_has ls 4 [(2, .int (nI (a + 1))), (3, .int (nI (xq_rw S a))), (1, .int (nI (ms_sum (fun z1 => ms_sum (fun z2 => ms_sum (fun z3 => xq_lv S K n w sy z1 z2 z3) (xq_cl S K z1)) (xq_rw S z1)) (a + 1)))), (0, .ref (ad 0))] := hl
              exact ih4 _ (by omega) (a + 1) lv2 rfl (by omega) (fun z1 z2 z3 h5 h6 h7 => g3 z1 z2 z3 (if e : z1 = a then Or.inr ⟨e, by subst e; omega⟩ else Or.inl (by omega)) h6 h7) (g4) ls _ _ (lv_sub hl [0, 2, 3] rfl) hW
            · refine lv_iload_n C.1 C.2.1 dX0_learn_20 rfl (lv_at hl 2 rfl) ?_
              refine lv_aload_n C.1 C.2.1 dX0_learn_21 rfl (lv_at hl 3 rfl) ?_
              refine lv_iload_n C.1 C.2.1 dX0_learn_22 rfl (lv_at hl 1 rfl) ?_
              refine lv_iload_n C.1 C.2.1 dX0_learn_23 rfl (lv_at hl 0 rfl) ?_
              refine xt_ci hA hW (xt_runV C hW.1 hW.2.1 cwX0_X0_learnRow (cx_learnRow l D cI cL ad S K n wc dn w lv2 sy sb sh rw rk dr a b (xq_Vlw hV2 g4) (by omega) (by omega)) rfl rfl rfl hl.1 (rest := [.int (nI (ms_sum (fun z1 => ms_sum (fun z2 => ms_sum (fun z3 => xq_lv S K n w sy z1 z2 z3) (xq_cl S K z1)) (xq_rw S z1)) a + ms_sum (fun z2 => ms_sum (fun z3 => xq_lv S K n w sy a z2 z3) (xq_cl S K a)) b))]) rfl (Nat.le_of_ble_eq_true rfl) ⟨(Nat.le_of_ble_eq_true rfl), (Nat.le_of_ble_eq_true rfl)⟩ ⟨Nat.zero_le _, Nat.zero_le _⟩ dX0_learn_24) (fun r24 u H locs hp24 hW => ?_)
              obtain ⟨lw_24, rfl⟩ : ∃ z, z = u := ⟨_, rfl⟩
              replace hW : xt_W D A ss.heap (xX ad cI cL S K n wc dn w lw_24 sy sb sh rw rk dr) H locs := hW
              replace hp24 : r24 = nI (ms_sum (fun z1 => xq_lv S K n w sy a b z1) (xq_cl S K a)) ∧ (∀ z1, z1 < xq_cl S K a → lw_24 ((a * 3 + b) * 4 + z1) = xq_lv S K n w sy a b z1) ∧ (∀ z2, (∀ z1, z1 < xq_cl S K a → z2 ≠ (a * 3 + b) * 4 + z1) → lw_24 z2 = lv2 z2) ∧ (∀ z2, z2 < 36 → lw_24 z2 ≤ 9) := hp24
              obtain ⟨rfl, hp24⟩ := hp24
              refine xt_iadd C dX0_learn_27 ?_
              refine lv_istore_n C.1 C.2.1 dX0_learn_28 rfl hl (by decide) rfl (fun ls hl => ?_)
              replace hl : lv_has ls 4 [(1, .int (nI ((ms_sum (fun z1 => ms_sum (fun z2 => ms_sum (fun z3 => xq_lv S K n w sy z1 z2 z3) (xq_cl S K z1)) (xq_rw S z1)) a + ms_sum (fun z2 => ms_sum (fun z3 => xq_lv S K n w sy a z2 z3) (xq_cl S K a)) b) + (ms_sum (fun z1 => xq_lv S K n w sy a b z1) (xq_cl S K a))))), (3, .int (nI b)), (2, .int (nI a)), (0, .ref (ad 0))] := hl
              refine lv_iinc (k := 1) C.1 C.2.1 dX0_learn_29 hl rfl xt_inc (by decide) rfl (fun ls hl => ?_)
              replace hl : lv_has ls 4 [(3, .int (nI (b + 1))), (1, .int (nI ((ms_sum (fun z1 => ms_sum (fun z2 => ms_sum (fun z3 => xq_lv S K n w sy z1 z2 z3) (xq_cl S K z1)) (xq_rw S z1)) a + ms_sum (fun z2 => ms_sum (fun z3 => xq_lv S K n w sy a z2 z3) (xq_cl S K a)) b) + (ms_sum (fun z1 => xq_lv S K n w sy a b z1) (xq_cl S K a))))), (2, .int (nI a)), (0, .ref (ad 0))] := hl
              refine lv_goto C.1 C.2.1 dX0_learn_32 (tgt := 11) (by decide) ?_
              rw [Nat.add_assoc] at hl
              replace hl : lv_has ls 4 [(3, .int (nI (b + 1))), (1, .int (nI (ms_sum (fun z1 => ms_sum (fun z2 => ms_sum (fun z3 => xq_lv S K n w sy z1 z2 z3) (xq_cl S K z1)) (xq_rw S z1)) a + ms_sum (fun z2 => ms_sum (fun z3 => xq_lv S K n w sy a z2 z3) (xq_cl S K a)) (b + 1)))), (2, .int (nI a)), (0, .ref (ad 0))] := hl
              exact ih11 _ (by omega) (b + 1) lw_24 rfl (by omega) (xq_lrn hS0 hS3 hK4 (by omega) g3 hp24.1 hp24.2.1) (hp24.2.2) ls _ _ (lv_sub hl [0, 2, 1, 3] rfl) hW
        exact lp11 _ 0 lv rfl (Nat.zero_le _) (fun z1 z2 z3 h5 h6 h7 => g1 z1 z2 z3 (by omega) h6 h7) (g2) ls _ _ (lv_sub hl [0, 1, 2, 3] rfl) hW
  exact lp4 _ 0 lw rfl (Nat.zero_le _) (fun z1 _ _ h _ _ => absurd h (Nat.not_lt_zero z1)) (hlw) ls _ _ (lv_sub hl [0, 1, 2] rfl) hW
set_option maxHeartbeats 4000000 in
set_option maxRecDepth 100000 in
theorem cx_share_y (l : Launch) (D : va_G) (cI cL : ClassId) (ad : Nat → Nat) (S K n wc dn : Nat) (w lw sy sb sh rw rk dr : Nat → Nat) (ka : Nat) (kb : Nat) (kc : Nat) (x : Int32) (hV : xq_V S K n wc w lw sy sb sh rw rk) (hs : xq_sr S K n ka kb kc) : xt_M l yX0_share cX0_share 6 (some .long) 4 D cI cL [.ref (ad 0), .int (nI ka), .int (nI kb), .int (nI kc), .int x] (xX ad cI cL S K n wc dn w lw sy sb sh rw rk dr) (xt_Ql D cI cL (xX ad cI cL S K n wc dn w lw sy sb sh rw rk dr) (fun (r : Int64) (u : Unit) => r = lN (xq_pt (ms_un (xe w sy) S n sy ka kb kc) (ms_sum (fun z1 => ms_wt (xe w sy) S n z1) (S ^ n)) x)) (fun u => xX ad cI cL S K n wc dn w lw sy sb sh rw rk dr)) := by
  have hV2 := hV
  obtain ⟨hS0, hS3, hK0, hK4, hn6, hw, hlw, hsK, hok⟩ := hV
  have hsy : ∀ p, p < n → sy p < 4 := fun p h => Nat.lt_of_lt_of_le (hsK p h) hK4
  have hsu := hs; unfold xq_sr at hsu
  refine xt_start (own := RX0) rfl (by decide) (Nat.le_of_ble_eq_true rfl) (fun pg ev ss mi args below meth cd A Q ls C hE hA hl hW => ?_)
  replace hl : lv_has ls 6 [(0, .ref (ad 0)), (1, .int (nI ka)), (2, .int (nI kb)), (3, .int (nI kc)), (4, .int x)] := hl
  refine lv_iload_n C.1 C.2.1 dX0_share_0 rfl (lv_at hl 1 rfl) ?_
  refine xt_if_ne C (by omega) dX0_share_1 (tgt := 28) (by decide) (fun h1 => ?_) (fun h1 => ?_)
  · refine lv_aload_n C.1 C.2.1 dX0_share_28 rfl (lv_at hl 0 rfl) ?_
    refine lv_iload_n C.1 C.2.1 dX0_share_29 rfl (lv_at hl 1 rfl) ?_
    refine lv_iload_n C.1 C.2.1 dX0_share_30 rfl (lv_at hl 2 rfl) ?_
    refine lv_iload_n C.1 C.2.1 dX0_share_31 rfl (lv_at hl 3 rfl) ?_
    refine xt_ci hA hW (xt_runV C hW.1 hW.2.1 cwX0_X0_hasWeight (cx_hasWeight l D cI cL ad S K n wc dn w lw sy sb sh rw rk dr (nI ka) (nI kb) (nI kc) (by omega) (by omega)) rfl rfl rfl hl.1 (rest := []) rfl (Nat.le_of_ble_eq_true rfl) ⟨(Nat.le_of_ble_eq_true rfl), (Nat.le_of_ble_eq_true rfl)⟩ ⟨Nat.zero_le _, Nat.zero_le _⟩ dX0_share_32) (fun r32 u H locs hp32 hW => ?_)
    replace hW : xt_W D A ss.heap (xX ad cI cL S K n wc dn w lw sy sb sh rw rk dr) H locs := hW
    replace hp32 : (r32 = nI 1 ∧ ∃ a b c, xt_ok S K (nI ka) (nI kb) (nI kc) a b c) ∨ (r32 = nI 0 ∧ ¬ ∃ a b c, xt_ok S K (nI ka) (nI kb) (nI kc) a b c) := hp32
    rcases hp32 with ⟨rfl, -⟩ | ⟨-, hno⟩
    · replace hl : lv_has ls 6 [(0, .ref (ad 0)), (1, .int (nI ka)), (2, .int (nI kb)), (3, .int (nI kc)), (4, .int x)] := hl
      refine lv_istore C.1 C.2.1 dX0_share_35 hl (by decide) rfl (fun ls hl => ?_)
      replace hl : lv_has ls 6 [(5, .int (nI 1)), (0, .ref (ad 0)), (1, .int (nI ka)), (2, .int (nI kb)), (3, .int (nI kc)), (4, .int x)] := hl
      refine lv_iload C.1 C.2.1 dX0_share_37 (lv_at hl 0 rfl) ?_
      refine xt_if_eq C (by omega) dX0_share_39 (tgt := 61) (by decide) (fun h39 => ?_) (fun h39 => ?_)
      · exfalso
        omega
      · refine lv_aload_n C.1 C.2.1 dX0_share_42 rfl (lv_at hl 1 rfl) ?_
        refine lv_iload_n C.1 C.2.1 dX0_share_43 rfl (lv_at hl 2 rfl) ?_
        refine lv_iload_n C.1 C.2.1 dX0_share_44 rfl (lv_at hl 3 rfl) ?_
        refine lv_iload_n C.1 C.2.1 dX0_share_45 rfl (lv_at hl 4 rfl) ?_
        refine xt_cl hA hW (xt_runV C hW.1 hW.2.1 cwX0_X0_unitsOf (cx_unitsOf l D cI cL ad S K n wc dn w lw sy sb sh rw rk dr ka kb kc (hV2) (xq_sku hn6 hs)) rfl rfl rfl hl.1 (rest := []) rfl (Nat.le_of_ble_eq_true rfl) ⟨(Nat.le_of_ble_eq_true rfl), (Nat.le_of_ble_eq_true rfl)⟩ ⟨Nat.zero_le _, Nat.zero_le _⟩ dX0_share_46) (fun r46 u H locs hp46 hW => ?_)
        replace hW : xt_W D A ss.heap (xX ad cI cL S K n wc dn w lw sy sb sh rw rk dr) H locs := hW
        subst hp46
        refine lv_aload_n C.1 C.2.1 dX0_share_49 rfl (lv_at hl 1 rfl) ?_
        refine xt_cl hA hW (xt_runV C hW.1 hW.2.1 cwX0_X0_total (cx_total l D cI cL ad S K n wc dn w lw sy sb sh rw rk dr (hV2)) rfl rfl rfl hl.1 (rest := [.long (lN (ms_un (xe w sy) S n sy ka kb kc))]) rfl (Nat.le_of_ble_eq_true rfl) ⟨(Nat.le_of_ble_eq_true rfl), (Nat.le_of_ble_eq_true rfl)⟩ ⟨Nat.zero_le _, Nat.zero_le _⟩ dX0_share_50) (fun r50 u H locs hp50 hW => ?_)
        replace hW : xt_W D A ss.heap (xX ad cI cL S K n wc dn w lw sy sb sh rw rk dr) H locs := hW
        subst hp50
        refine lv_iload C.1 C.2.1 dX0_share_53 (lv_at hl 5 rfl) ?_
        refine xt_cl hA hW (xt_runS C hW.1 hW.2.1 cwX0_X0_partOf (cx_partOf l D cI cL (xX ad cI cL S K n wc dn w lw sy sb sh rw rk dr) (ms_un (xe w sy) S n sy ka kb kc) (ms_sum (fun z1 => ms_wt (xe w sy) S n z1) (S ^ n)) x (Nat.lt_of_le_of_lt (xq_unb hS0 hS3 hn6 hw hsy (xq_sku hn6 hs)) (by decide)) (xq_totb hS0 hS3 hn6 hw hsy)) rfl hl.1 (rest := []) rfl (Nat.le_of_ble_eq_true rfl) ⟨(Nat.le_of_ble_eq_true rfl), (Nat.le_of_ble_eq_true rfl)⟩ ⟨Nat.zero_le _, Nat.zero_le _⟩ dX0_share_55) (fun r55 u H locs hp55 hW => ?_)
        replace hW : xt_W D A ss.heap (xX ad cI cL S K n wc dn w lw sy sb sh rw rk dr) H locs := hW
        subst hp55
        refine lv_goto C.1 C.2.1 dX0_share_58 (tgt := 62) (by decide) ?_
        exact xt_lret C hE () hW (rfl) dX0_share_62
    · exact absurd (⟨ka, kb, kc, rfl, rfl, rfl, xq_skr h1 hs⟩) hno
  · refine lv_aload_n C.1 C.2.1 dX0_share_4 rfl (lv_at hl 0 rfl) ?_
    refine lv_iload_n C.1 C.2.1 dX0_share_5 rfl (lv_at hl 2 rfl) ?_
    refine xt_ci hA hW (xt_runV C hW.1 hW.2.1 cwX0_X0_hasPlace (cx_hasPlace l D cI cL ad S K n wc dn w lw sy sb sh rw rk dr (nI kb) (by omega)) rfl rfl rfl hl.1 (rest := []) rfl (Nat.le_of_ble_eq_true rfl) ⟨(Nat.le_of_ble_eq_true rfl), (Nat.le_of_ble_eq_true rfl)⟩ ⟨Nat.zero_le _, Nat.zero_le _⟩ dX0_share_6) (fun r6 u H locs hp6 hW => ?_)
    replace hW : xt_W D A ss.heap (xX ad cI cL S K n wc dn w lw sy sb sh rw rk dr) H locs := hW
    replace hp6 : (r6 = nI 1 ∧ ∃ z1, z1 < n ∧ (nI kb) = nI z1) ∨ (r6 = nI 0 ∧ ¬ ∃ z1, z1 < n ∧ (nI kb) = nI z1) := hp6
    rcases hp6 with ⟨rfl, -⟩ | ⟨-, hno⟩
    · replace hl : lv_has ls 6 [(0, .ref (ad 0)), (1, .int (nI ka)), (2, .int (nI kb)), (3, .int (nI kc)), (4, .int x)] := hl
      refine xt_if_eq C (by omega) dX0_share_9 (tgt := 24) (by decide) (fun h9 => ?_) (fun h9 => ?_)
      · exfalso
        omega
      · refine lv_aload_n C.1 C.2.1 dX0_share_12 rfl (lv_at hl 0 rfl) ?_
        refine lv_iload_n C.1 C.2.1 dX0_share_13 rfl (lv_at hl 3 rfl) ?_
        refine xt_ci hA hW (xt_runV C hW.1 hW.2.1 cwX0_X0_hasState (cx_hasState l D cI cL ad S K n wc dn w lw sy sb sh rw rk dr (nI kc) (by omega)) rfl rfl rfl hl.1 (rest := []) rfl (Nat.le_of_ble_eq_true rfl) ⟨(Nat.le_of_ble_eq_true rfl), (Nat.le_of_ble_eq_true rfl)⟩ ⟨Nat.zero_le _, Nat.zero_le _⟩ dX0_share_14) (fun r14 u H locs hp14 hW => ?_)
        replace hW : xt_W D A ss.heap (xX ad cI cL S K n wc dn w lw sy sb sh rw rk dr) H locs := hW
        replace hp14 : (r14 = nI 1 ∧ ∃ z1, z1 < S ∧ (nI kc) = nI z1) ∨ (r14 = nI 0 ∧ ¬ ∃ z1, z1 < S ∧ (nI kc) = nI z1) := hp14
        rcases hp14 with ⟨rfl, -⟩ | ⟨-, hno⟩
        · replace hl : lv_has ls 6 [(0, .ref (ad 0)), (1, .int (nI ka)), (2, .int (nI kb)), (3, .int (nI kc)), (4, .int x)] := hl
          refine xt_if_eq C (by omega) dX0_share_17 (tgt := 24) (by decide) (fun h17 => ?_) (fun h17 => ?_)
          · exfalso
            omega
          · refine xt_iconst C 1 dX0_share_20 (by decide +kernel) ?_
            refine lv_goto C.1 C.2.1 dX0_share_21 (tgt := 35) (by decide) ?_
            refine lv_istore C.1 C.2.1 dX0_share_35 hl (by decide) rfl (fun ls hl => ?_)
            replace hl : lv_has ls 6 [(5, .int (nI 1)), (0, .ref (ad 0)), (1, .int (nI ka)), (2, .int (nI kb)), (3, .int (nI kc)), (4, .int x)] := hl
            refine lv_iload C.1 C.2.1 dX0_share_37 (lv_at hl 0 rfl) ?_
            refine xt_if_eq C (by omega) dX0_share_39 (tgt := 61) (by decide) (fun h39 => ?_) (fun h39 => ?_)
            · exfalso
              omega
            · refine lv_aload_n C.1 C.2.1 dX0_share_42 rfl (lv_at hl 1 rfl) ?_
              refine lv_iload_n C.1 C.2.1 dX0_share_43 rfl (lv_at hl 2 rfl) ?_
              refine lv_iload_n C.1 C.2.1 dX0_share_44 rfl (lv_at hl 3 rfl) ?_
              refine lv_iload_n C.1 C.2.1 dX0_share_45 rfl (lv_at hl 4 rfl) ?_
              refine xt_cl hA hW (xt_runV C hW.1 hW.2.1 cwX0_X0_unitsOf (cx_unitsOf l D cI cL ad S K n wc dn w lw sy sb sh rw rk dr ka kb kc (hV2) (xq_sku hn6 hs)) rfl rfl rfl hl.1 (rest := []) rfl (Nat.le_of_ble_eq_true rfl) ⟨(Nat.le_of_ble_eq_true rfl), (Nat.le_of_ble_eq_true rfl)⟩ ⟨Nat.zero_le _, Nat.zero_le _⟩ dX0_share_46) (fun r46 u H locs hp46 hW => ?_)
              replace hW : xt_W D A ss.heap (xX ad cI cL S K n wc dn w lw sy sb sh rw rk dr) H locs := hW
              subst hp46
              refine lv_aload_n C.1 C.2.1 dX0_share_49 rfl (lv_at hl 1 rfl) ?_
              refine xt_cl hA hW (xt_runV C hW.1 hW.2.1 cwX0_X0_total (cx_total l D cI cL ad S K n wc dn w lw sy sb sh rw rk dr (hV2)) rfl rfl rfl hl.1 (rest := [.long (lN (ms_un (xe w sy) S n sy ka kb kc))]) rfl (Nat.le_of_ble_eq_true rfl) ⟨(Nat.le_of_ble_eq_true rfl), (Nat.le_of_ble_eq_true rfl)⟩ ⟨Nat.zero_le _, Nat.zero_le _⟩ dX0_share_50) (fun r50 u H locs hp50 hW => ?_)
              replace hW : xt_W D A ss.heap (xX ad cI cL S K n wc dn w lw sy sb sh rw rk dr) H locs := hW
              subst hp50
              refine lv_iload C.1 C.2.1 dX0_share_53 (lv_at hl 5 rfl) ?_
              refine xt_cl hA hW (xt_runS C hW.1 hW.2.1 cwX0_X0_partOf (cx_partOf l D cI cL (xX ad cI cL S K n wc dn w lw sy sb sh rw rk dr) (ms_un (xe w sy) S n sy ka kb kc) (ms_sum (fun z1 => ms_wt (xe w sy) S n z1) (S ^ n)) x (Nat.lt_of_le_of_lt (xq_unb hS0 hS3 hn6 hw hsy (xq_sku hn6 hs)) (by decide)) (xq_totb hS0 hS3 hn6 hw hsy)) rfl hl.1 (rest := []) rfl (Nat.le_of_ble_eq_true rfl) ⟨(Nat.le_of_ble_eq_true rfl), (Nat.le_of_ble_eq_true rfl)⟩ ⟨Nat.zero_le _, Nat.zero_le _⟩ dX0_share_55) (fun r55 u H locs hp55 hW => ?_)
              replace hW : xt_W D A ss.heap (xX ad cI cL S K n wc dn w lw sy sb sh rw rk dr) H locs := hW
              subst hp55
              refine lv_goto C.1 C.2.1 dX0_share_58 (tgt := 62) (by decide) ?_
              exact xt_lret C hE () hW (rfl) dX0_share_62
        · exact absurd (⟨kc, by omega, rfl⟩) hno
    · exact absurd (⟨kb, by omega, rfl⟩) hno
set_option maxHeartbeats 4000000 in
set_option maxRecDepth 100000 in
theorem cx_share_n (l : Launch) (D : va_G) (cI cL : ClassId) (ad : Nat → Nat) (S K n wc dn : Nat) (w lw sy sb sh rw rk dr : Nat → Nat) (kd : Int32) (ro : Int32) (co : Int32) (x : Int32) (hV : xq_V S K n wc w lw sy sb sh rw rk) (hno : ¬ (kd = nI 0 ∧ (∃ j, j < n ∧ ro = nI j) ∧ ∃ j, j < S ∧ co = nI j)) (hnk : ¬ (¬ kd = nI 0 ∧ ∃ a b c, xt_ok S K kd ro co a b c)) : xt_M l yX0_share cX0_share 6 (some .long) 4 D cI cL [.ref (ad 0), .int kd, .int ro, .int co, .int x] (xX ad cI cL S K n wc dn w lw sy sb sh rw rk dr) (xt_Ql D cI cL (xX ad cI cL S K n wc dn w lw sy sb sh rw rk dr) (fun (r : Int64) (u : Unit) => r = lN 0) (fun u => xX ad cI cL S K n wc dn w lw sy sb sh rw rk dr)) := by
  obtain ⟨hS0, hS3, hK0, hK4, hn6, hw, hlw, hsK, hok⟩ := hV
  have hsy : ∀ p, p < n → sy p < 4 := fun p h => Nat.lt_of_lt_of_le (hsK p h) hK4
  refine xt_start (own := RX0) rfl (by decide) (Nat.le_of_ble_eq_true rfl) (fun pg ev ss mi args below meth cd A Q ls C hE hA hl hW => ?_)
  replace hl : lv_has ls 6 [(0, .ref (ad 0)), (1, .int kd), (2, .int ro), (3, .int co), (4, .int x)] := hl
  refine lv_iload_n C.1 C.2.1 dX0_share_0 rfl (lv_at hl 1 rfl) ?_
  refine lv_if_ne C.1 C.2.1 dX0_share_1 (tgt := 28) (by decide) (fun h1 => ?_) (fun h1 => ?_)
  · refine lv_aload_n C.1 C.2.1 dX0_share_28 rfl (lv_at hl 0 rfl) ?_
    refine lv_iload_n C.1 C.2.1 dX0_share_29 rfl (lv_at hl 1 rfl) ?_
    refine lv_iload_n C.1 C.2.1 dX0_share_30 rfl (lv_at hl 2 rfl) ?_
    refine lv_iload_n C.1 C.2.1 dX0_share_31 rfl (lv_at hl 3 rfl) ?_
    refine xt_ci hA hW (xt_runV C hW.1 hW.2.1 cwX0_X0_hasWeight (cx_hasWeight l D cI cL ad S K n wc dn w lw sy sb sh rw rk dr kd ro co (by omega) (by omega)) rfl rfl rfl hl.1 (rest := []) rfl (Nat.le_of_ble_eq_true rfl) ⟨(Nat.le_of_ble_eq_true rfl), (Nat.le_of_ble_eq_true rfl)⟩ ⟨Nat.zero_le _, Nat.zero_le _⟩ dX0_share_32) (fun r32 u H locs hp32 hW => ?_)
    replace hW : xt_W D A ss.heap (xX ad cI cL S K n wc dn w lw sy sb sh rw rk dr) H locs := hW
    replace hp32 : (r32 = nI 1 ∧ ∃ a b c, xt_ok S K kd ro co a b c) ∨ (r32 = nI 0 ∧ ¬ ∃ a b c, xt_ok S K kd ro co a b c) := hp32
    rcases hp32 with ⟨-, hz⟩ | ⟨rfl, -⟩
    · exact absurd ⟨fun q => h1 (by rw [q]; exact nI_0), hz⟩ hnk
    · replace hl : lv_has ls 6 [(0, .ref (ad 0)), (1, .int kd), (2, .int ro), (3, .int co), (4, .int x)] := hl
      refine lv_istore C.1 C.2.1 dX0_share_35 hl (by decide) rfl (fun ls hl => ?_)
      replace hl : lv_has ls 6 [(5, .int (nI 0)), (0, .ref (ad 0)), (1, .int kd), (2, .int ro), (3, .int co), (4, .int x)] := hl
      refine lv_iload C.1 C.2.1 dX0_share_37 (lv_at hl 0 rfl) ?_
      refine xt_if_eq C (by omega) dX0_share_39 (tgt := 61) (by decide) (fun h39 => ?_) (fun h39 => ?_)
      · refine xt_lconst C 0 dX0_share_61 (by decide +kernel) ?_
        exact xt_lret C hE () hW (rfl) dX0_share_62
      · exfalso
        omega
  · refine lv_aload_n C.1 C.2.1 dX0_share_4 rfl (lv_at hl 0 rfl) ?_
    refine lv_iload_n C.1 C.2.1 dX0_share_5 rfl (lv_at hl 2 rfl) ?_
    refine xt_ci hA hW (xt_runV C hW.1 hW.2.1 cwX0_X0_hasPlace (cx_hasPlace l D cI cL ad S K n wc dn w lw sy sb sh rw rk dr ro (by omega)) rfl rfl rfl hl.1 (rest := []) rfl (Nat.le_of_ble_eq_true rfl) ⟨(Nat.le_of_ble_eq_true rfl), (Nat.le_of_ble_eq_true rfl)⟩ ⟨Nat.zero_le _, Nat.zero_le _⟩ dX0_share_6) (fun r6 u H locs hp6 hW => ?_)
    replace hW : xt_W D A ss.heap (xX ad cI cL S K n wc dn w lw sy sb sh rw rk dr) H locs := hW
    replace hp6 : (r6 = nI 1 ∧ ∃ z1, z1 < n ∧ ro = nI z1) ∨ (r6 = nI 0 ∧ ¬ ∃ z1, z1 < n ∧ ro = nI z1) := hp6
    rcases hp6 with ⟨rfl, hy1⟩ | ⟨rfl, -⟩
    · replace hl : lv_has ls 6 [(0, .ref (ad 0)), (1, .int kd), (2, .int ro), (3, .int co), (4, .int x)] := hl
      refine xt_if_eq C (by omega) dX0_share_9 (tgt := 24) (by decide) (fun h9 => ?_) (fun h9 => ?_)
      · exfalso
        omega
      · refine lv_aload_n C.1 C.2.1 dX0_share_12 rfl (lv_at hl 0 rfl) ?_
        refine lv_iload_n C.1 C.2.1 dX0_share_13 rfl (lv_at hl 3 rfl) ?_
        refine xt_ci hA hW (xt_runV C hW.1 hW.2.1 cwX0_X0_hasState (cx_hasState l D cI cL ad S K n wc dn w lw sy sb sh rw rk dr co (by omega)) rfl rfl rfl hl.1 (rest := []) rfl (Nat.le_of_ble_eq_true rfl) ⟨(Nat.le_of_ble_eq_true rfl), (Nat.le_of_ble_eq_true rfl)⟩ ⟨Nat.zero_le _, Nat.zero_le _⟩ dX0_share_14) (fun r14 u H locs hp14 hW => ?_)
        replace hW : xt_W D A ss.heap (xX ad cI cL S K n wc dn w lw sy sb sh rw rk dr) H locs := hW
        replace hp14 : (r14 = nI 1 ∧ ∃ z1, z1 < S ∧ co = nI z1) ∨ (r14 = nI 0 ∧ ¬ ∃ z1, z1 < S ∧ co = nI z1) := hp14
        rcases hp14 with ⟨-, hz⟩ | ⟨rfl, -⟩
        · exact absurd (⟨by rw [nI_0]; exact h1, hy1, hz⟩) hno
        · replace hl : lv_has ls 6 [(0, .ref (ad 0)), (1, .int kd), (2, .int ro), (3, .int co), (4, .int x)] := hl
          refine xt_if_eq C (by omega) dX0_share_17 (tgt := 24) (by decide) (fun h17 => ?_) (fun h17 => ?_)
          · refine xt_iconst C 0 dX0_share_24 (by decide +kernel) ?_
            refine lv_goto C.1 C.2.1 dX0_share_25 (tgt := 35) (by decide) ?_
            refine lv_istore C.1 C.2.1 dX0_share_35 hl (by decide) rfl (fun ls hl => ?_)
            replace hl : lv_has ls 6 [(5, .int (nI 0)), (0, .ref (ad 0)), (1, .int kd), (2, .int ro), (3, .int co), (4, .int x)] := hl
            refine lv_iload C.1 C.2.1 dX0_share_37 (lv_at hl 0 rfl) ?_
            refine xt_if_eq C (by omega) dX0_share_39 (tgt := 61) (by decide) (fun h39 => ?_) (fun h39 => ?_)
            · refine xt_lconst C 0 dX0_share_61 (by decide +kernel) ?_
              exact xt_lret C hE () hW (rfl) dX0_share_62
            · exfalso
              omega
          · exfalso
            omega
    · replace hl : lv_has ls 6 [(0, .ref (ad 0)), (1, .int kd), (2, .int ro), (3, .int co), (4, .int x)] := hl
      refine xt_if_eq C (by omega) dX0_share_9 (tgt := 24) (by decide) (fun h9 => ?_) (fun h9 => ?_)
      · refine xt_iconst C 0 dX0_share_24 (by decide +kernel) ?_
        refine lv_goto C.1 C.2.1 dX0_share_25 (tgt := 35) (by decide) ?_
        refine lv_istore C.1 C.2.1 dX0_share_35 hl (by decide) rfl (fun ls hl => ?_)
        replace hl : lv_has ls 6 [(5, .int (nI 0)), (0, .ref (ad 0)), (1, .int kd), (2, .int ro), (3, .int co), (4, .int x)] := hl
        refine lv_iload C.1 C.2.1 dX0_share_37 (lv_at hl 0 rfl) ?_
        refine xt_if_eq C (by omega) dX0_share_39 (tgt := 61) (by decide) (fun h39 => ?_) (fun h39 => ?_)
        · refine xt_lconst C 0 dX0_share_61 (by decide +kernel) ?_
          exact xt_lret C hE () hW (rfl) dX0_share_62
        · exfalso
          omega
      · exfalso
        omega
set_option maxHeartbeats 4000000 in
set_option maxRecDepth 100000 in
theorem cx_learned_y (l : Launch) (D : va_G) (cI cL : ClassId) (ad : Nat → Nat) (S K n wc dn : Nat) (w lw sy sb sh rw rk dr : Nat → Nat) (ka : Nat) (kb : Nat) (kc : Nat) (x : Int32) (hV : xq_V S K n wc w lw sy sb sh rw rk) (hk : xq_kr S K ka kb kc) : xt_M l yX0_learned cX0_learned 7 (some .long) 5 D cI cL [.ref (ad 0), .int (nI ka), .int (nI kb), .int (nI kc), .int x] (xX ad cI cL S K n wc dn w lw sy sb sh rw rk dr) (xt_Ql D cI cL (xX ad cI cL S K n wc dn w lw sy sb sh rw rk dr) (fun (r : Int64) (u : Unit) => r = lN (xq_pt (xq_po S K n w sy ka kb kc) (xq_wh S K n w sy ka kb) x)) (fun u => xX ad cI cL S K n wc dn w lw sy sb sh rw rk dr)) := by
  have hV2 := hV
  obtain ⟨hS0, hS3, hK0, hK4, hn6, hw, hlw, hsK, hok⟩ := hV
  have hsy : ∀ p, p < n → sy p < 4 := fun p h => Nat.lt_of_lt_of_le (hsK p h) hK4
  obtain ⟨ha3, hbr, hck⟩ := xq_kcr hk
  have hwhb := xq_whb (n := n) (K := K) hS0 hS3 hK4 hn6 hw hsy ha3 hbr
  have hpob := xq_pow (S := S) (K := K) (n := n) (w := w) (sy := sy) (a := ka) (b := kb) hck
  refine xt_start (own := RX0) rfl (by decide) (Nat.le_of_ble_eq_true rfl) (fun pg ev ss mi args below meth cd A Q ls C hE hA hl hW => ?_)
  replace hl : lv_has ls 7 [(0, .ref (ad 0)), (1, .int (nI ka)), (2, .int (nI kb)), (3, .int (nI kc)), (4, .int x)] := hl
  refine lv_aload_n C.1 C.2.1 dX0_learned_0 rfl (lv_at hl 0 rfl) ?_
  refine lv_iload_n C.1 C.2.1 dX0_learned_1 rfl (lv_at hl 1 rfl) ?_
  refine lv_iload_n C.1 C.2.1 dX0_learned_2 rfl (lv_at hl 2 rfl) ?_
  refine lv_iload_n C.1 C.2.1 dX0_learned_3 rfl (lv_at hl 3 rfl) ?_
  refine xt_ci hA hW (xt_runV C hW.1 hW.2.1 cwX0_X0_hasWeight (cx_hasWeight l D cI cL ad S K n wc dn w lw sy sb sh rw rk dr (nI ka) (nI kb) (nI kc) (by omega) (by omega)) rfl rfl rfl hl.1 (rest := []) rfl (Nat.le_of_ble_eq_true rfl) ⟨(Nat.le_of_ble_eq_true rfl), (Nat.le_of_ble_eq_true rfl)⟩ ⟨Nat.zero_le _, Nat.zero_le _⟩ dX0_learned_4) (fun r4 u H locs hp4 hW => ?_)
  replace hW : xt_W D A ss.heap (xX ad cI cL S K n wc dn w lw sy sb sh rw rk dr) H locs := hW
  replace hp4 : (r4 = nI 1 ∧ ∃ a b c, xt_ok S K (nI ka) (nI kb) (nI kc) a b c) ∨ (r4 = nI 0 ∧ ¬ ∃ a b c, xt_ok S K (nI ka) (nI kb) (nI kc) a b c) := hp4
  rcases hp4 with ⟨rfl, -⟩ | ⟨-, hno⟩
  · replace hl : lv_has ls 7 [(0, .ref (ad 0)), (1, .int (nI ka)), (2, .int (nI kb)), (3, .int (nI kc)), (4, .int x)] := hl
    refine xt_if_ne C (by omega) dX0_learned_7 (tgt := 12) (by decide) (fun h7 => ?_) (fun h7 => ?_)
    · refine lv_aload_n C.1 C.2.1 dX0_learned_12 rfl (lv_at hl 0 rfl) ?_
      refine lv_iload_n C.1 C.2.1 dX0_learned_13 rfl (lv_at hl 1 rfl) ?_
      refine lv_iload_n C.1 C.2.1 dX0_learned_14 rfl (lv_at hl 2 rfl) ?_
      refine xt_cl hA hW (xt_runV C hW.1 hW.2.1 cwX0_X0_unitsOfRow (cx_unitsOfRow l D cI cL ad S K n wc dn w lw sy sb sh rw rk dr ka kb (hV2) (by omega) (by omega)) rfl rfl rfl hl.1 (rest := []) rfl (Nat.le_of_ble_eq_true rfl) ⟨(Nat.le_of_ble_eq_true rfl), (Nat.le_of_ble_eq_true rfl)⟩ ⟨Nat.zero_le _, Nat.zero_le _⟩ dX0_learned_15) (fun r15 u H locs hp15 hW => ?_)
      replace hW : xt_W D A ss.heap (xX ad cI cL S K n wc dn w lw sy sb sh rw rk dr) H locs := hW
      subst hp15
      refine lv_lstore C.1 C.2.1 dX0_learned_18 hl (by decide) rfl (fun ls hl => ?_)
      replace hl : lv_has ls 7 [(5, .long (lN (xq_ru S K n w sy ka kb))), (0, .ref (ad 0)), (1, .int (nI ka)), (2, .int (nI kb)), (3, .int (nI kc)), (4, .int x)] := hl
      refine lv_aload_n C.1 C.2.1 dX0_learned_20 rfl (lv_at hl 1 rfl) ?_
      refine lv_iload_n C.1 C.2.1 dX0_learned_21 rfl (lv_at hl 2 rfl) ?_
      refine lv_iload_n C.1 C.2.1 dX0_learned_22 rfl (lv_at hl 3 rfl) ?_
      refine lv_iload_n C.1 C.2.1 dX0_learned_23 rfl (lv_at hl 4 rfl) ?_
      refine lv_lload C.1 C.2.1 dX0_learned_24 (lv_at hl 0 rfl) ?_
      refine xt_cl hA hW (xt_runV C hW.1 hW.2.1 cwX0_X0_learnedPortion (cx_learnedPortion l D cI cL ad S K n wc dn w lw sy sb sh rw rk dr ka kb kc (xq_ru S K n w sy ka kb) (hV2) (by omega) (by omega) (by omega) (rfl)) rfl rfl rfl hl.1 (rest := []) rfl (Nat.le_of_ble_eq_true rfl) ⟨(Nat.le_of_ble_eq_true rfl), (Nat.le_of_ble_eq_true rfl)⟩ ⟨Nat.zero_le _, Nat.zero_le _⟩ dX0_learned_26) (fun r26 u H locs hp26 hW => ?_)
      replace hW : xt_W D A ss.heap (xX ad cI cL S K n wc dn w lw sy sb sh rw rk dr) H locs := hW
      subst hp26
      refine lv_aload_n C.1 C.2.1 dX0_learned_29 rfl (lv_at hl 1 rfl) ?_
      refine W.eq (g2 := F0 mi 30 ls [.ref (ad 0), .long (lN (xq_po S K n w sy ka kb kc))]) rfl ?_
      refine lv_iload_n C.1 C.2.1 dX0_learned_30 rfl (lv_at hl 2 rfl) ?_
      refine lv_iload_n C.1 C.2.1 dX0_learned_31 rfl (lv_at hl 3 rfl) ?_
      refine lv_lload C.1 C.2.1 dX0_learned_32 (lv_at hl 0 rfl) ?_
      refine xt_cl hA hW (xt_runV C hW.1 hW.2.1 cwX0_X0_learnedWhole (cx_learnedWhole l D cI cL ad S K n wc dn w lw sy sb sh rw rk dr ka kb (xq_ru S K n w sy ka kb) (hV2) (by omega) (by omega) (rfl)) rfl rfl rfl hl.1 (rest := [.long (lN (xq_po S K n w sy ka kb kc))]) rfl (Nat.le_of_ble_eq_true rfl) ⟨(Nat.le_of_ble_eq_true rfl), (Nat.le_of_ble_eq_true rfl)⟩ ⟨Nat.zero_le _, Nat.zero_le _⟩ dX0_learned_34) (fun r34 u H locs hp34 hW => ?_)
      replace hW : xt_W D A ss.heap (xX ad cI cL S K n wc dn w lw sy sb sh rw rk dr) H locs := hW
      subst hp34
      refine lv_iload C.1 C.2.1 dX0_learned_37 (lv_at hl 5 rfl) ?_
      refine xt_cl hA hW (xt_runS C hW.1 hW.2.1 cwX0_X0_partOf (cx_partOf l D cI cL (xX ad cI cL S K n wc dn w lw sy sb sh rw rk dr) (xq_po S K n w sy ka kb kc) (xq_wh S K n w sy ka kb) x (by omega) (by omega)) rfl hl.1 (rest := []) rfl (Nat.le_of_ble_eq_true rfl) ⟨(Nat.le_of_ble_eq_true rfl), (Nat.le_of_ble_eq_true rfl)⟩ ⟨Nat.zero_le _, Nat.zero_le _⟩ dX0_learned_39) (fun r39 u H locs hp39 hW => ?_)
      replace hW : xt_W D A ss.heap (xX ad cI cL S K n wc dn w lw sy sb sh rw rk dr) H locs := hW
      subst hp39
      exact xt_lret C hE () hW (rfl) dX0_learned_42
    · exfalso
      omega
  · exact absurd (⟨ka, kb, kc, rfl, rfl, rfl, hk⟩) hno
set_option maxHeartbeats 4000000 in
set_option maxRecDepth 100000 in
theorem cx_learned_n (l : Launch) (D : va_G) (cI cL : ClassId) (ad : Nat → Nat) (S K n wc dn : Nat) (w lw sy sb sh rw rk dr : Nat → Nat) (kd : Int32) (ro : Int32) (co : Int32) (x : Int32) (hV : xq_V S K n wc w lw sy sb sh rw rk) (hno : ¬ ∃ a b c, xt_ok S K kd ro co a b c) : xt_M l yX0_learned cX0_learned 7 (some .long) 5 D cI cL [.ref (ad 0), .int kd, .int ro, .int co, .int x] (xX ad cI cL S K n wc dn w lw sy sb sh rw rk dr) (xt_Ql D cI cL (xX ad cI cL S K n wc dn w lw sy sb sh rw rk dr) (fun (r : Int64) (u : Unit) => r = lN 0) (fun u => xX ad cI cL S K n wc dn w lw sy sb sh rw rk dr)) := by
  obtain ⟨hS0, hS3, hK0, hK4, hn6, hw, hlw, hsK, hok⟩ := hV
  have hsy : ∀ p, p < n → sy p < 4 := fun p h => Nat.lt_of_lt_of_le (hsK p h) hK4
  refine xt_start (own := RX0) rfl (by decide) (Nat.le_of_ble_eq_true rfl) (fun pg ev ss mi args below meth cd A Q ls C hE hA hl hW => ?_)
  replace hl : lv_has ls 7 [(0, .ref (ad 0)), (1, .int kd), (2, .int ro), (3, .int co), (4, .int x)] := hl
  refine lv_aload_n C.1 C.2.1 dX0_learned_0 rfl (lv_at hl 0 rfl) ?_
  refine lv_iload_n C.1 C.2.1 dX0_learned_1 rfl (lv_at hl 1 rfl) ?_
  refine lv_iload_n C.1 C.2.1 dX0_learned_2 rfl (lv_at hl 2 rfl) ?_
  refine lv_iload_n C.1 C.2.1 dX0_learned_3 rfl (lv_at hl 3 rfl) ?_
  refine xt_ci hA hW (xt_runV C hW.1 hW.2.1 cwX0_X0_hasWeight (cx_hasWeight l D cI cL ad S K n wc dn w lw sy sb sh rw rk dr kd ro co (by omega) (by omega)) rfl rfl rfl hl.1 (rest := []) rfl (Nat.le_of_ble_eq_true rfl) ⟨(Nat.le_of_ble_eq_true rfl), (Nat.le_of_ble_eq_true rfl)⟩ ⟨Nat.zero_le _, Nat.zero_le _⟩ dX0_learned_4) (fun r4 u H locs hp4 hW => ?_)
  replace hW : xt_W D A ss.heap (xX ad cI cL S K n wc dn w lw sy sb sh rw rk dr) H locs := hW
  replace hp4 : (r4 = nI 1 ∧ ∃ a b c, xt_ok S K kd ro co a b c) ∨ (r4 = nI 0 ∧ ¬ ∃ a b c, xt_ok S K kd ro co a b c) := hp4
  rcases hp4 with ⟨-, hz⟩ | ⟨rfl, -⟩
  · exact absurd (hz) hno
  · replace hl : lv_has ls 7 [(0, .ref (ad 0)), (1, .int kd), (2, .int ro), (3, .int co), (4, .int x)] := hl
    refine xt_if_ne C (by omega) dX0_learned_7 (tgt := 12) (by decide) (fun h7 => ?_) (fun h7 => ?_)
    · exfalso
      omega
    · refine xt_lconst C 0 dX0_learned_10 (by decide +kernel) ?_
      exact xt_lret C hE () hW (rfl) dX0_learned_11
set_option maxHeartbeats 4000000 in
set_option maxRecDepth 100000 in
theorem cx_draw_y (l : Launch) (D : va_G) (cI cL : ClassId) (ad : Nat → Nat) (S K n wc dn : Nat) (w lw sy sb sh rw rk dr : Nat → Nat) (v : Nat) (hV : xq_V S K n wc w lw sy sb sh rw rk) (hvt : v < ms_sum (fun z1 => ms_wt (xe w sy) S n z1) (S ^ n)) : xt_M l yX0_draw cX0_draw 12 (some .boolean) 2 D cI cL [.ref (ad 0), .long (lN v)] (xX ad cI cL S K n wc dn w lw sy sb sh rw rk dr) (xt_Qi D cI cL (xX ad cI cL S K n wc dn w lw sy sb sh rw rk dr) (fun (r : Int32) (u : (Nat → Nat)) => r = nI 1 ∧ ∃ z3, z3 < S ^ n ∧ ms_sum (fun z1 => ms_wt (xe w sy) S n z1) z3 ≤ v ∧ v < ms_sum (fun z1 => ms_wt (xe w sy) S n z1) (z3 + 1) ∧ ∀ z2, z2 < n → u z2 = ms_dg S n z3 z2) (fun u => xX ad cI cL S K n wc n w lw sy sb sh rw rk u)) := by
  have hV2 := hV
  obtain ⟨hS0, hS3, hK0, hK4, hn6, hw, hlw, hsK, hok⟩ := hV
  have hsy : ∀ p, p < n → sy p < 4 := fun p h => Nat.lt_of_lt_of_le (hsK p h) hK4
  have htb := xq_totb (n := n) hS0 hS3 hn6 hw hsy
  have hvb : v < 2 ^ 63 := Nat.lt_trans hvt htb
  refine xt_start (own := RX0) rfl (by decide) (Nat.le_of_ble_eq_true rfl) (fun pg ev ss mi args below meth cd A Q ls C hE hA hl hW => ?_)
  replace hl : lv_has ls 12 [(0, .ref (ad 0)), (1, .long (lN v))] := hl
  refine lv_lload_n C.1 C.2.1 dX0_draw_0 rfl (lv_at hl 1 rfl) ?_
  refine xt_lconst C 0 dX0_draw_1 (by decide +kernel) ?_
  refine xt_l_lt C (hvb) (by decide) dX0_draw_2 dX0_draw_3 (tgt := 15) (by decide) (fun h2 => ?_) (fun h2 => ?_)
  · exfalso
    omega
  · refine lv_lload_n C.1 C.2.1 dX0_draw_6 rfl (lv_at hl 1 rfl) ?_
    refine lv_aload_n C.1 C.2.1 dX0_draw_7 rfl (lv_at hl 0 rfl) ?_
    refine xt_cl hA hW (xt_runV C hW.1 hW.2.1 cwX0_X0_total (cx_total l D cI cL ad S K n wc dn w lw sy sb sh rw rk dr (hV2)) rfl rfl rfl hl.1 (rest := [.long (lN v)]) rfl (Nat.le_of_ble_eq_true rfl) ⟨(Nat.le_of_ble_eq_true rfl), (Nat.le_of_ble_eq_true rfl)⟩ ⟨Nat.zero_le _, Nat.zero_le _⟩ dX0_draw_8) (fun r8 u H locs hp8 hW => ?_)
    replace hW : xt_W D A ss.heap (xX ad cI cL S K n wc dn w lw sy sb sh rw rk dr) H locs := hW
    subst hp8
    refine xt_l_lt C (hvb) (htb) dX0_draw_11 dX0_draw_12 (tgt := 17) (by decide) (fun h11 => ?_) (fun h11 => ?_)
    · refine lv_lload_n C.1 C.2.1 dX0_draw_17 rfl (lv_at hl 1 rfl) ?_
      refine lv_lstore_n C.1 C.2.1 dX0_draw_18 rfl hl (by decide) rfl (fun ls hl => ?_)
      replace hl : lv_has ls 12 [(3, .long (lN v)), (0, .ref (ad 0)), (1, .long (lN v))] := hl
      refine xt_lconst C 1 dX0_draw_19 (by decide +kernel) ?_
      refine lv_lstore C.1 C.2.1 dX0_draw_20 hl (by decide) rfl (fun ls hl => ?_)
      replace hl : lv_has ls 12 [(5, .long (lN 1)), (3, .long (lN v)), (0, .ref (ad 0)), (1, .long (lN v))] := hl
      refine xt_iconst C 0 dX0_draw_22 (by decide +kernel) ?_
      refine lv_istore C.1 C.2.1 dX0_draw_23 hl (by decide) rfl (fun ls hl => ?_)
      replace hl : lv_has ls 12 [(7, .int (nI 0)), (5, .long (lN 1)), (3, .long (lN v)), (0, .ref (ad 0)), (1, .long (lN v))] := hl
      refine xt_iconst C 0 dX0_draw_25 (by decide +kernel) ?_
      refine lv_istore C.1 C.2.1 dX0_draw_26 hl (by decide) rfl (fun ls hl => ?_)
      replace hl : lv_has ls 12 [(8, .int (nI 0)), (7, .int (nI 0)), (5, .long (lN 1)), (3, .long (lN v)), (0, .ref (ad 0)), (1, .long (lN v))] := hl
      have lp28 : ∀ (q : Nat) (p : Nat) (r : Nat) (a : Nat) (rs : Nat) (wt : Nat) (fr : Nat) (dv : Nat → Nat), r = q → (p + r = n) → (a < S ^ p) → (wt = ms_wt (xe w sy) S p a) → (fr = ms_ls S p a) → (ms_sum (fun z1 => ms_wt (xe w sy) S n z1) (a * S ^ r) + rs = v) → (v < ms_sum (fun z1 => ms_wt (xe w sy) S n z1) ((a + 1) * S ^ r)) → (∀ q, q < p → dv q = ms_dg S p a q) → ∀ (ls : Array Slot) (H : Heap) (locs : List Loc), lv_has ls 12 [(8, .int (nI p)), (7, .int (nI fr)), (5, .long (lN wt)), (3, .long (lN rs)), (0, .ref (ad 0))] → xt_W D A ss.heap (xX ad cI cL S K n wc dn w lw sy sb sh rw rk dv) H locs → W pg l ev (xt_R 2) ss mi args below meth cd H locs 0 0 Q (F0 mi 28 ls []) := by
        intro q
        induction q using Nat.strongRecOn with
        | _ q ih28 =>
          intro p r a rs wt fr dv hq28 hpr haS hwt hfr hA1 hB1 hdd ls H locs hl hW
          refine lv_iload C.1 C.2.1 dX0_draw_28 (lv_at hl 0 rfl) ?_
          refine lv_aload_n C.1 C.2.1 dX0_draw_30 rfl (lv_at hl 4 rfl) ?_
          refine xt_get xt_inX0 C hW 0 rfl rfl 4 (by decide) rfl flX0_seenCount rfl dX0_draw_31 ?_
          refine xt_icmp_ge C (by omega) (by omega) dX0_draw_34 (tgt := 159) (by decide) (fun h34 => ?_) (fun h34 => ?_)
          · refine lv_aload_n C.1 C.2.1 dX0_draw_159 rfl (lv_at hl 4 rfl) ?_
            refine lv_aload_n C.1 C.2.1 dX0_draw_160 rfl (lv_at hl 4 rfl) ?_
            refine xt_get xt_inX0 C hW 0 rfl rfl 4 (by decide) rfl flX0_seenCount rfl dX0_draw_161 ?_
            refine xt_put (ty := .int) xt_inX0 tyX0 tyX0_ok nmX0 C hW 0 rfl rfl 11 (by decide) rfl flX0_drawnCount rfl (by decide +kernel) rfl rfl (Nat.le_of_ble_eq_true rfl) dX0_draw_164 (fun H locs hW => ?_)
            replace hW : xt_W D A ss.heap (xX ad cI cL S K n wc n w lw sy sb sh rw rk dv) H locs := hW
            refine xt_iconst C 1 dX0_draw_167 (by decide +kernel) ?_
            exact xt_zret C hE dv hW (by first | exact Or.inl rfl | exact Or.inr rfl) (⟨rfl, a, (by rw [show n = p by omega]; exact haS), (by rw [show r = 0 by omega, Nat.pow_zero, Nat.mul_one] at hA1; omega), (by rw [show r = 0 by omega, Nat.pow_zero, Nat.mul_one] at hB1; exact hB1), fun z2 hz => (by rw [hdd z2 (by omega), show p = n by omega])⟩) dX0_draw_168
          · obtain ⟨r2, rfl⟩ : ∃ r2, r = r2 + 1 := ⟨r - 1, by omega⟩
            refine xt_iconst C 0 dX0_draw_37 (by decide +kernel) ?_
            refine lv_istore C.1 C.2.1 dX0_draw_38 hl (by decide) rfl (fun ls hl => ?_)
            replace hl : lv_has ls 12 [(9, .int (nI 0)), (8, .int (nI p)), (7, .int (nI fr)), (5, .long (lN wt)), (3, .long (lN rs)), (0, .ref (ad 0))] := hl
            have hfb : fr < S := by rw [hfr]; exact xq_lsb hS0
            refine lv_lload C.1 C.2.1 dX0_draw_40 (lv_at hl 3 rfl) ?_
            refine lv_aload_n C.1 C.2.1 dX0_draw_42 rfl (lv_at hl 5 rfl) ?_
            refine lv_iload C.1 C.2.1 dX0_draw_43 (lv_at hl 1 rfl) ?_
            refine lv_iload C.1 C.2.1 dX0_draw_45 (lv_at hl 2 rfl) ?_
            refine lv_iload C.1 C.2.1 dX0_draw_47 (lv_at hl 0 rfl) ?_
            refine xt_cl hA hW (xt_runV C hW.1 hW.2.1 cwX0_X0_entry (cx_entry l D cI cL ad S K n wc dn w lw sy sb sh rw rk dv p fr 0 (by omega) (by omega) (by omega) (hw) (hsy _ (by omega))) rfl rfl rfl hl.1 (rest := [.long (lN wt)]) rfl (Nat.le_of_ble_eq_true rfl) ⟨(Nat.le_of_ble_eq_true rfl), (Nat.le_of_ble_eq_true rfl)⟩ ⟨Nat.zero_le _, Nat.zero_le _⟩ dX0_draw_49) (fun r49 u H locs hp49 hW => ?_)
            replace hW : xt_W D A ss.heap (xX ad cI cL S K n wc dn w lw sy sb sh rw rk dv) H locs := hW
            subst hp49
            refine xt_lmul C dX0_draw_52 ?_
            refine lv_aload_n C.1 C.2.1 dX0_draw_53 rfl (lv_at hl 5 rfl) ?_
            refine xt_get xt_inX0 C hW 0 rfl rfl 7 (by decide) rfl flX0_sumsBehind rfl dX0_draw_54 ?_
            refine lv_iload C.1 C.2.1 dX0_draw_57 (lv_at hl 1 rfl) ?_
            refine W.eq (g2 := F0 mi 59 ls [.int (nI p), .ref (ad 5), .long (lN (wt * (xe w sy p fr 0)))]) rfl ?_
            refine lv_iload C.1 C.2.1 dX0_draw_59 (lv_at hl 0 rfl) ?_
            refine xt_ci hA hW (xt_runS C hW.1 hW.2.1 cwX0_X0_cell (cx_cell l D cI cL (xX ad cI cL S K n wc dn w lw sy sb sh rw rk dv) p 0) rfl hl.1 (rest := [.ref (ad 5), .long (lN (wt * (xe w sy p fr 0)))]) rfl (Nat.le_of_ble_eq_true rfl) ⟨(Nat.le_of_ble_eq_true rfl), (Nat.le_of_ble_eq_true rfl)⟩ ⟨Nat.zero_le _, Nat.zero_le _⟩ dX0_draw_61) (fun r61 u H locs hp61 hW => ?_)
            replace hW : xt_W D A ss.heap (xX ad cI cL S K n wc dn w lw sy sb sh rw rk dv) H locs := hW
            subst hp61
            refine xt_lald C hW 5 rfl (by decide) dX0_draw_64 (by omega) ?_
            refine xt_lmul C dX0_draw_65 ?_
            refine lv_lstore C.1 C.2.1 dX0_draw_66 hl (by decide) rfl (fun ls hl => ?_)
            replace hl : lv_has ls 12 [(10, .long (lN ((wt * (xe w sy p fr 0)) * (sh (p * 3 + 0))))), (9, .int (nI 0)), (8, .int (nI p)), (7, .int (nI fr)), (5, .long (lN wt)), (3, .long (lN rs)), (0, .ref (ad 0))] := hl
            have lp68 : ∀ (q : Nat) (t : Nat) (rs2 : Nat), S - t = q → (t < S) → (ms_sum (fun z1 => ms_wt (xe w sy) S n z1) ((a * S + t) * S ^ r2) + rs2 = v) → ∀ (ls : Array Slot) (H : Heap) (locs : List Loc), lv_has ls 12 [(9, .int (nI t)), (10, .long (lN (wt * xe w sy p fr t * sh (p * 3 + t)))), (3, .long (lN rs2)), (8, .int (nI p)), (7, .int (nI fr)), (5, .long (lN wt)), (0, .ref (ad 0))] → xt_W D A ss.heap (xX ad cI cL S K n wc dn w lw sy sb sh rw rk dv) H locs → W pg l ev (xt_R 2) ss mi args below meth cd H locs 0 0 Q (F0 mi 68 ls []) := by
              intro q
              induction q using Nat.strongRecOn with
              | _ q ih68 =>
                intro t rs2 hq68 ht hA2 ls H locs hl hW
                refine lv_iload C.1 C.2.1 dX0_draw_68 (lv_at hl 0 rfl) ?_
                refine lv_aload_n C.1 C.2.1 dX0_draw_70 rfl (lv_at hl 6 rfl) ?_
                refine xt_get xt_inX0 C hW 0 rfl rfl 0 (by decide) rfl flX0_stateCount rfl dX0_draw_71 ?_
                refine xt_iconst C 1 dX0_draw_74 (by decide +kernel) ?_
                refine xt_isub C dX0_draw_75 (by omega) ?_
                refine xt_icmp_ge C (by omega) (by omega) dX0_draw_76 (tgt := 125) (by decide) (fun h76 => ?_) (fun h76 => ?_)
                · have hB2 : v < ms_sum (fun z1 => ms_wt (xe w sy) S n z1) ((a * S + t + 1) * S ^ r2) := by rw [show a * S + t + 1 = a * S + S by omega, xq_kS]; exact hB1
                  refine lv_lload C.1 C.2.1 dX0_draw_125 (lv_at hl 5 rfl) ?_
                  refine lv_aload_n C.1 C.2.1 dX0_draw_127 rfl (lv_at hl 6 rfl) ?_
                  refine lv_iload C.1 C.2.1 dX0_draw_128 (lv_at hl 3 rfl) ?_
                  refine lv_iload C.1 C.2.1 dX0_draw_130 (lv_at hl 4 rfl) ?_
                  refine lv_iload C.1 C.2.1 dX0_draw_132 (lv_at hl 0 rfl) ?_
                  refine xt_cl hA hW (xt_runV C hW.1 hW.2.1 cwX0_X0_entry (cx_entry l D cI cL ad S K n wc dn w lw sy sb sh rw rk dv p fr t (by omega) (by omega) (by omega) (hw) (hsy _ (by omega))) rfl rfl rfl hl.1 (rest := [.long (lN wt)]) rfl (Nat.le_of_ble_eq_true rfl) ⟨(Nat.le_of_ble_eq_true rfl), (Nat.le_of_ble_eq_true rfl)⟩ ⟨Nat.zero_le _, Nat.zero_le _⟩ dX0_draw_134) (fun r134 u H locs hp134 hW => ?_)
                  replace hW : xt_W D A ss.heap (xX ad cI cL S K n wc dn w lw sy sb sh rw rk dv) H locs := hW
                  subst hp134
                  refine xt_lmul C dX0_draw_137 ?_
                  refine lv_lstore C.1 C.2.1 dX0_draw_138 hl (by decide) rfl (fun ls hl => ?_)
                  replace hl : lv_has ls 12 [(5, .long (lN (wt * (xe w sy p fr t)))), (9, .int (nI t)), (10, .long (lN (wt * xe w sy p fr t * sh (p * 3 + t)))), (3, .long (lN rs2)), (8, .int (nI p)), (7, .int (nI fr)), (0, .ref (ad 0))] := hl
                  refine lv_aload_n C.1 C.2.1 dX0_draw_140 rfl (lv_at hl 6 rfl) ?_
                  refine xt_get xt_inX0 C hW 0 rfl rfl 12 (by decide) rfl flX0_drawnStates rfl dX0_draw_141 ?_
                  refine lv_iload C.1 C.2.1 dX0_draw_144 (lv_at hl 4 rfl) ?_
                  refine lv_iload C.1 C.2.1 dX0_draw_146 (lv_at hl 1 rfl) ?_
                  refine W.eq (g2 := F0 mi 148 ls [.int (nI t), .int (nI p), .ref (ad 8)]) rfl ?_
                  refine xt_iast C hW 8 rfl (by decide) dX0_draw_148 (by omega) (fun H locs hW => ?_)
                  replace hW : xt_W D A ss.heap (xX ad cI cL S K n wc dn w lw sy sb sh rw rk (va_up dv p t)) H locs := hW
                  refine lv_iload C.1 C.2.1 dX0_draw_149 (lv_at hl 1 rfl) ?_
                  refine lv_istore C.1 C.2.1 dX0_draw_151 hl (by decide) rfl (fun ls hl => ?_)
                  replace hl : lv_has ls 12 [(7, .int (nI t)), (5, .long (lN (wt * (xe w sy p fr t)))), (9, .int (nI t)), (10, .long (lN (wt * xe w sy p fr t * sh (p * 3 + t)))), (3, .long (lN rs2)), (8, .int (nI p)), (0, .ref (ad 0))] := hl
                  refine lv_iinc (k := 5) C.1 C.2.1 dX0_draw_153 hl rfl xt_inc (by decide) rfl (fun ls hl => ?_)
                  replace hl : lv_has ls 12 [(8, .int (nI (p + 1))), (7, .int (nI t)), (5, .long (lN (wt * (xe w sy p fr t)))), (9, .int (nI t)), (10, .long (lN (wt * xe w sy p fr t * sh (p * 3 + t)))), (3, .long (lN rs2)), (0, .ref (ad 0))] := hl
                  refine lv_goto C.1 C.2.1 dX0_draw_156 (tgt := 28) (by decide) ?_
                  exact ih28 _ (by omega) (p + 1) r2 (a * S + t) rs2 (wt * xe w sy p fr t) t (va_up dv p t) rfl (by omega) (xq_snl haS ht) (by rw [ms_wt_snoc (xe_0 w sy) ht, hwt, hfr]) ((ms_ls_snoc ht).symm) (hA2) (hB2) (fun q hq => if e : q = p then (by rw [e, xq_up, ms_dg_last ht]) else (by rw [xq_un e, ms_dg_snoc ht (by omega)]; exact hdd q (by omega))) ls _ _ (lv_sub hl [0, 1, 2, 5, 6] rfl) hW
                · refine lv_lload_n C.1 C.2.1 dX0_draw_79 rfl (lv_at hl 2 rfl) ?_
                  refine lv_lload C.1 C.2.1 dX0_draw_80 (lv_at hl 1 rfl) ?_
                  refine xt_l_lt C (by omega) (xq_unl (r := r2) (by omega) ht haS hwt hfr hok.2.1 htb) dX0_draw_82 dX0_draw_83 (tgt := 125) (by decide) (fun h82 => ?_) (fun h82 => ?_)
                  · have hB2 : v < ms_sum (fun z1 => ms_wt (xe w sy) S n z1) ((a * S + t + 1) * S ^ r2) := by rw [xq_un1 (by omega) ht hwt hfr hok.2.1]; omega
                    refine lv_lload C.1 C.2.1 dX0_draw_125 (lv_at hl 5 rfl) ?_
                    refine lv_aload_n C.1 C.2.1 dX0_draw_127 rfl (lv_at hl 6 rfl) ?_
                    refine lv_iload C.1 C.2.1 dX0_draw_128 (lv_at hl 3 rfl) ?_
                    refine lv_iload C.1 C.2.1 dX0_draw_130 (lv_at hl 4 rfl) ?_
                    refine lv_iload C.1 C.2.1 dX0_draw_132 (lv_at hl 0 rfl) ?_
                    refine xt_cl hA hW (xt_runV C hW.1 hW.2.1 cwX0_X0_entry (cx_entry l D cI cL ad S K n wc dn w lw sy sb sh rw rk dv p fr t (by omega) (by omega) (by omega) (hw) (hsy _ (by omega))) rfl rfl rfl hl.1 (rest := [.long (lN wt)]) rfl (Nat.le_of_ble_eq_true rfl) ⟨(Nat.le_of_ble_eq_true rfl), (Nat.le_of_ble_eq_true rfl)⟩ ⟨Nat.zero_le _, Nat.zero_le _⟩ dX0_draw_134) (fun r134 u H locs hp134 hW => ?_)
                    replace hW : xt_W D A ss.heap (xX ad cI cL S K n wc dn w lw sy sb sh rw rk dv) H locs := hW
                    subst hp134
                    refine xt_lmul C dX0_draw_137 ?_
                    refine lv_lstore C.1 C.2.1 dX0_draw_138 hl (by decide) rfl (fun ls hl => ?_)
                    replace hl : lv_has ls 12 [(5, .long (lN (wt * (xe w sy p fr t)))), (9, .int (nI t)), (10, .long (lN (wt * xe w sy p fr t * sh (p * 3 + t)))), (3, .long (lN rs2)), (8, .int (nI p)), (7, .int (nI fr)), (0, .ref (ad 0))] := hl
                    refine lv_aload_n C.1 C.2.1 dX0_draw_140 rfl (lv_at hl 6 rfl) ?_
                    refine xt_get xt_inX0 C hW 0 rfl rfl 12 (by decide) rfl flX0_drawnStates rfl dX0_draw_141 ?_
                    refine lv_iload C.1 C.2.1 dX0_draw_144 (lv_at hl 4 rfl) ?_
                    refine lv_iload C.1 C.2.1 dX0_draw_146 (lv_at hl 1 rfl) ?_
                    refine W.eq (g2 := F0 mi 148 ls [.int (nI t), .int (nI p), .ref (ad 8)]) rfl ?_
                    refine xt_iast C hW 8 rfl (by decide) dX0_draw_148 (by omega) (fun H locs hW => ?_)
                    replace hW : xt_W D A ss.heap (xX ad cI cL S K n wc dn w lw sy sb sh rw rk (va_up dv p t)) H locs := hW
                    refine lv_iload C.1 C.2.1 dX0_draw_149 (lv_at hl 1 rfl) ?_
                    refine lv_istore C.1 C.2.1 dX0_draw_151 hl (by decide) rfl (fun ls hl => ?_)
                    replace hl : lv_has ls 12 [(7, .int (nI t)), (5, .long (lN (wt * (xe w sy p fr t)))), (9, .int (nI t)), (10, .long (lN (wt * xe w sy p fr t * sh (p * 3 + t)))), (3, .long (lN rs2)), (8, .int (nI p)), (0, .ref (ad 0))] := hl
                    refine lv_iinc (k := 5) C.1 C.2.1 dX0_draw_153 hl rfl xt_inc (by decide) rfl (fun ls hl => ?_)
                    replace hl : lv_has ls 12 [(8, .int (nI (p + 1))), (7, .int (nI t)), (5, .long (lN (wt * (xe w sy p fr t)))), (9, .int (nI t)), (10, .long (lN (wt * xe w sy p fr t * sh (p * 3 + t)))), (3, .long (lN rs2)), (0, .ref (ad 0))] := hl
                    refine lv_goto C.1 C.2.1 dX0_draw_156 (tgt := 28) (by decide) ?_
                    exact ih28 _ (by omega) (p + 1) r2 (a * S + t) rs2 (wt * xe w sy p fr t) t (va_up dv p t) rfl (by omega) (xq_snl haS ht) (by rw [ms_wt_snoc (xe_0 w sy) ht, hwt, hfr]) ((ms_ls_snoc ht).symm) (hA2) (hB2) (fun q hq => if e : q = p then (by rw [e, xq_up, ms_dg_last ht]) else (by rw [xq_un e, ms_dg_snoc ht (by omega)]; exact hdd q (by omega))) ls _ _ (lv_sub hl [0, 1, 2, 5, 6] rfl) hW
                  · refine lv_lload_n C.1 C.2.1 dX0_draw_86 rfl (lv_at hl 2 rfl) ?_
                    refine lv_lload C.1 C.2.1 dX0_draw_87 (lv_at hl 1 rfl) ?_
                    refine xt_lsub C dX0_draw_89 (by omega) ?_
                    refine lv_lstore_n C.1 C.2.1 dX0_draw_90 rfl hl (by decide) rfl (fun ls hl => ?_)
                    replace hl : lv_has ls 12 [(3, .long (lN (rs2 - (wt * xe w sy p fr t * sh (p * 3 + t))))), (9, .int (nI t)), (10, .long (lN (wt * xe w sy p fr t * sh (p * 3 + t)))), (8, .int (nI p)), (7, .int (nI fr)), (5, .long (lN wt)), (0, .ref (ad 0))] := hl
                    refine lv_iinc (k := 1) C.1 C.2.1 dX0_draw_91 hl rfl xt_inc (by decide) rfl (fun ls hl => ?_)
                    replace hl : lv_has ls 12 [(9, .int (nI (t + 1))), (3, .long (lN (rs2 - (wt * xe w sy p fr t * sh (p * 3 + t))))), (10, .long (lN (wt * xe w sy p fr t * sh (p * 3 + t)))), (8, .int (nI p)), (7, .int (nI fr)), (5, .long (lN wt)), (0, .ref (ad 0))] := hl
                    refine lv_lload C.1 C.2.1 dX0_draw_94 (lv_at hl 5 rfl) ?_
                    refine lv_aload_n C.1 C.2.1 dX0_draw_96 rfl (lv_at hl 6 rfl) ?_
                    refine lv_iload C.1 C.2.1 dX0_draw_97 (lv_at hl 3 rfl) ?_
                    refine lv_iload C.1 C.2.1 dX0_draw_99 (lv_at hl 4 rfl) ?_
                    refine lv_iload C.1 C.2.1 dX0_draw_101 (lv_at hl 0 rfl) ?_
                    refine xt_cl hA hW (xt_runV C hW.1 hW.2.1 cwX0_X0_entry (cx_entry l D cI cL ad S K n wc dn w lw sy sb sh rw rk dv p fr (t + 1) (by omega) (by omega) (by omega) (hw) (hsy _ (by omega))) rfl rfl rfl hl.1 (rest := [.long (lN wt)]) rfl (Nat.le_of_ble_eq_true rfl) ⟨(Nat.le_of_ble_eq_true rfl), (Nat.le_of_ble_eq_true rfl)⟩ ⟨Nat.zero_le _, Nat.zero_le _⟩ dX0_draw_103) (fun r103 u H locs hp103 hW => ?_)
                    replace hW : xt_W D A ss.heap (xX ad cI cL S K n wc dn w lw sy sb sh rw rk dv) H locs := hW
                    subst hp103
                    refine xt_lmul C dX0_draw_106 ?_
                    refine W.eq (g2 := F0 mi 107 ls [.long (lN (wt * (xe w sy p fr (t + 1))))]) rfl ?_
                    refine lv_aload_n C.1 C.2.1 dX0_draw_107 rfl (lv_at hl 6 rfl) ?_
                    refine xt_get xt_inX0 C hW 0 rfl rfl 7 (by decide) rfl flX0_sumsBehind rfl dX0_draw_108 ?_
                    refine lv_iload C.1 C.2.1 dX0_draw_111 (lv_at hl 3 rfl) ?_
                    refine lv_iload C.1 C.2.1 dX0_draw_113 (lv_at hl 0 rfl) ?_
                    refine xt_ci hA hW (xt_runS C hW.1 hW.2.1 cwX0_X0_cell (cx_cell l D cI cL (xX ad cI cL S K n wc dn w lw sy sb sh rw rk dv) p (t + 1)) rfl hl.1 (rest := [.ref (ad 5), .long (lN (wt * (xe w sy p fr (t + 1))))]) rfl (Nat.le_of_ble_eq_true rfl) ⟨(Nat.le_of_ble_eq_true rfl), (Nat.le_of_ble_eq_true rfl)⟩ ⟨Nat.zero_le _, Nat.zero_le _⟩ dX0_draw_115) (fun r115 u H locs hp115 hW => ?_)
                    replace hW : xt_W D A ss.heap (xX ad cI cL S K n wc dn w lw sy sb sh rw rk dv) H locs := hW
                    subst hp115
                    refine xt_lald C hW 5 rfl (by decide) dX0_draw_118 (by omega) ?_
                    refine xt_lmul C dX0_draw_119 ?_
                    refine lv_lstore C.1 C.2.1 dX0_draw_120 hl (by decide) rfl (fun ls hl => ?_)
                    replace hl : lv_has ls 12 [(10, .long (lN ((wt * (xe w sy p fr (t + 1))) * (sh (p * 3 + (t + 1)))))), (9, .int (nI (t + 1))), (3, .long (lN (rs2 - (wt * xe w sy p fr t * sh (p * 3 + t))))), (8, .int (nI p)), (7, .int (nI fr)), (5, .long (lN wt)), (0, .ref (ad 0))] := hl
                    refine lv_goto C.1 C.2.1 dX0_draw_122 (tgt := 68) (by decide) ?_
                    exact ih68 _ (by omega) (t + 1) (rs2 - wt * xe w sy p fr t * sh (p * 3 + t)) rfl (by omega) (by rw [← Nat.add_assoc, xq_un1 (by omega) ht hwt hfr hok.2.1]; omega) ls _ _ (lv_sub hl [1, 0, 2, 3, 4, 5, 6] rfl) hW
            exact lp68 _ 0 rs rfl (hS0) (by rw [← xq_k0]; exact hA1) ls _ _ (lv_sub hl [1, 0, 5, 2, 3, 4, 6] rfl) hW
      exact lp28 _ 0 n 0 v 1 0 dr rfl (Nat.zero_add n) (Nat.one_pos) (rfl) (rfl) (by rw [Nat.zero_mul]; exact Nat.zero_add v) (by rw [Nat.zero_add, Nat.one_mul]; exact hvt) (fun q h => absurd h (Nat.not_lt_zero q)) ls _ _ (lv_sub hl [0, 1, 2, 3, 4] rfl) hW
    · exfalso
      exact absurd hvt (by omega)
set_option maxHeartbeats 4000000 in
set_option maxRecDepth 100000 in
theorem cx_draw_n (l : Launch) (D : va_G) (cI cL : ClassId) (ad : Nat → Nat) (S K n wc dn : Nat) (w lw sy sb sh rw rk dr : Nat → Nat) (u : Int64) (hV : xq_V S K n wc w lw sy sb sh rw rk) (hno : ¬ ∃ z3, u = lN z3 ∧ z3 < ms_sum (fun z1 => ms_wt (xe w sy) S n z1) (S ^ n)) : xt_M l yX0_draw cX0_draw 12 (some .boolean) 2 D cI cL [.ref (ad 0), .long u] (xX ad cI cL S K n wc dn w lw sy sb sh rw rk dr) (xt_Qi D cI cL (xX ad cI cL S K n wc dn w lw sy sb sh rw rk dr) (fun (r : Int32) (u : Unit) => r = nI 0) (fun u => xX ad cI cL S K n wc dn w lw sy sb sh rw rk dr)) := by
  have hV2 := hV
  obtain ⟨hS0, hS3, hK0, hK4, hn6, hw, hlw, hsK, hok⟩ := hV
  have hsy : ∀ p, p < n → sy p < 4 := fun p h => Nat.lt_of_lt_of_le (hsK p h) hK4
  have htb := xq_totb (n := n) hS0 hS3 hn6 hw hsy
  refine xt_start (own := RX0) rfl (by decide) (Nat.le_of_ble_eq_true rfl) (fun pg ev ss mi args below meth cd A Q ls C hE hA hl hW => ?_)
  replace hl : lv_has ls 12 [(0, .ref (ad 0)), (1, .long u)] := hl
  by_cases hu : u < 0
  · refine lv_lload_n C.1 C.2.1 dX0_draw_0 rfl (lv_at hl 1 rfl) ?_
    refine xt_lconst C 0 dX0_draw_1 (by decide +kernel) ?_
    refine W.lcmp C.1 C.2.1 dX0_draw_2 ?_
    refine lv_if_lt C.1 C.2.1 dX0_draw_3 (tgt := 15) (by decide) (fun h2 => ?_) (fun h2 => ?_)
    · refine xt_iconst C 0 dX0_draw_15 (by decide +kernel) ?_
      exact xt_zret C hE () hW (by first | exact Or.inl rfl | exact Or.inr rfl) (rfl) dX0_draw_16
    · exfalso
      exact h2 ((lg_cmp_lt _ _).mpr hu)
  obtain ⟨v, hvb, rfl⟩ := pk_lOf hu
  replace hl : lv_has ls 12 [(0, .ref (ad 0)), (1, .long (lN v))] := hl
  refine lv_lload_n C.1 C.2.1 dX0_draw_0 rfl (lv_at hl 1 rfl) ?_
  refine xt_lconst C 0 dX0_draw_1 (by decide +kernel) ?_
  refine xt_l_lt C (hvb) (by decide) dX0_draw_2 dX0_draw_3 (tgt := 15) (by decide) (fun h2 => ?_) (fun h2 => ?_)
  · refine xt_iconst C 0 dX0_draw_15 (by decide +kernel) ?_
    exact xt_zret C hE () hW (by first | exact Or.inl rfl | exact Or.inr rfl) (rfl) dX0_draw_16
  · refine lv_lload_n C.1 C.2.1 dX0_draw_6 rfl (lv_at hl 1 rfl) ?_
    refine lv_aload_n C.1 C.2.1 dX0_draw_7 rfl (lv_at hl 0 rfl) ?_
    refine xt_cl hA hW (xt_runV C hW.1 hW.2.1 cwX0_X0_total (cx_total l D cI cL ad S K n wc dn w lw sy sb sh rw rk dr (hV2)) rfl rfl rfl hl.1 (rest := [.long (lN v)]) rfl (Nat.le_of_ble_eq_true rfl) ⟨(Nat.le_of_ble_eq_true rfl), (Nat.le_of_ble_eq_true rfl)⟩ ⟨Nat.zero_le _, Nat.zero_le _⟩ dX0_draw_8) (fun r8 u H locs hp8 hW => ?_)
    replace hW : xt_W D A ss.heap (xX ad cI cL S K n wc dn w lw sy sb sh rw rk dr) H locs := hW
    subst hp8
    refine xt_l_lt C (hvb) (htb) dX0_draw_11 dX0_draw_12 (tgt := 17) (by decide) (fun h11 => ?_) (fun h11 => ?_)
    · exfalso
      exact hno ⟨v, rfl, h11⟩
    · refine xt_iconst C 0 dX0_draw_15 (by decide +kernel) ?_
      exact xt_zret C hE () hW (by first | exact Or.inl rfl | exact Or.inr rfl) (rfl) dX0_draw_16
end
section
/-- the reference's cells: its object, its six rows -/
def xM (am : Nat → Nat) (cI cL : ClassId) (S K n iz dz tp bt : Nat) (w ro wa ch al fr : Nat → Nat) : va_W :=
  [(am 0, .inr (1, [.int (nI S), .int (nI K), .ref (am 1), .int (nI n), .ref (am 2), .ref (am 3), .int (nI iz), .int (nI dz), .ref (am 4), .ref (am 5), .ref (am 6), .long (lN tp), .long (lN bt)])),
   (am 1, xt_i cI 24 w), (am 2, xt_i cI 6 ro), (am 3, xt_i cI 6 wa), (am 4, xt_i cI 6 ch), (am 5, xt_l cL 729 al), (am 6, xt_i cI 24 fr)]
/-- a state of the reference that holds together -/
def mq_V (S K n : Nat) (w ro : Nat → Nat) : Prop := 0 < S ∧ S ≤ 3 ∧ 0 < K ∧ K ≤ 4 ∧ n ≤ 6 ∧ (∀ i, i < 24 → w i ≤ 9) ∧ (∀ p, p < n → ro p < K)
/-- a weight's place -/
def mq_sl (a b c : Nat) : Nat := if a = 0 then c else if a = 1 then 3 + 3 * b + c else 12 + 4 * b + c
theorem mq_slb {S K a b c : Nat} (hS3 : S ≤ 3) (hK4 : K ≤ 4) (h : xq_kr S K a b c) : mq_sl a b c < 24 := by
  unfold xq_kr at h
  unfold mq_sl
  rcases h with ⟨rfl, h1, h2⟩ | ⟨rfl, h1, h2⟩ | ⟨rfl, h1, h2⟩
  · rw [if_pos rfl]; omega
  · rw [if_neg (by decide), if_pos rfl]; omega
  · rw [if_neg (by decide), if_neg (by decide)]; omega
theorem mq_f1 {wv : Nat → Nat} {i : Nat} (h : ∀ j, j < i → wv j = 1) : ∀ j, j < i + 1 → va_up wv i 1 j = 1 := xq_fill h
set_option maxHeartbeats 4000000 in
set_option maxRecDepth 100000 in
theorem cm_clear (l : Launch) (D : va_G) (cI cL : ClassId) (am : Nat → Nat) (S K n iz dz tp bt : Nat) (w ro wa ch al fr : Nat → Nat) : xt_M l yX1_clear cX1_clear 2 none 0 D cI cL [.ref (am 0)] (xM am cI cL S K n iz dz tp bt w ro wa ch al fr) (xt_Qv D cI cL (xM am cI cL S K n iz dz tp bt w ro wa ch al fr) (fun (u : (Nat → Nat)) => ∀ j, j < 24 → u j = 1) (fun u => xM am cI cL S K 0 0 dz tp bt u ro wa ch al fr)) := by
  refine xt_start (own := RX1) rfl (by decide) (Nat.le_of_ble_eq_true rfl) (fun pg ev ss mi args below meth cd A Q ls C hE hA hl hW => ?_)
  replace hl : lv_has ls 2 [(0, .ref (am 0))] := hl
  refine xt_iconst C 0 dX1_clear_0 (by decide +kernel) ?_
  refine lv_istore_n C.1 C.2.1 dX1_clear_1 rfl hl (by decide) rfl (fun ls hl => ?_)
  replace hl : lv_has ls 2 [(1, .int (nI 0)), (0, .ref (am 0))] := hl
  have lp2 : ∀ (q : Nat) (i : Nat) (wv : Nat → Nat), 24 - i = q → (i ≤ 24) → (∀ j, j < i → wv j = 1) → ∀ (ls : Array Slot) (H : Heap) (locs : List Loc), lv_has ls 2 [(1, .int (nI i)), (0, .ref (am 0))] → xt_W D A ss.heap (xM am cI cL S K n iz dz tp bt wv ro wa ch al fr) H locs → W pg l ev (xt_R 0) ss mi args below meth cd H locs 0 0 Q (F0 mi 2 ls []) := by
    intro q
    induction q using Nat.strongRecOn with
    | _ q ih2 =>
      intro i wv hq2 hi hv ls H locs hl hW
      refine lv_iload_n C.1 C.2.1 dX1_clear_2 rfl (lv_at hl 0 rfl) ?_
      refine xt_bipush C 24 dX1_clear_3 (by decide +kernel) ?_
      refine xt_icmp_ge C (by omega) (by omega) dX1_clear_5 (tgt := 21) (by decide) (fun h5 => ?_) (fun h5 => ?_)
      · refine lv_aload_n C.1 C.2.1 dX1_clear_21 rfl (lv_at hl 1 rfl) ?_
        refine xt_iconst C 0 dX1_clear_22 (by decide +kernel) ?_
        refine xt_put (ty := .int) xt_inX1 tyX1 tyX1_ok nmX1 C hW 0 rfl rfl 3 (by decide) rfl flX1_n rfl (by decide +kernel) rfl rfl (Nat.le_of_ble_eq_true rfl) dX1_clear_23 (fun H locs hW => ?_)
        replace hW : xt_W D A ss.heap (xM am cI cL S K 0 iz dz tp bt wv ro wa ch al fr) H locs := hW
        refine lv_aload_n C.1 C.2.1 dX1_clear_26 rfl (lv_at hl 1 rfl) ?_
        refine xt_iconst C 0 dX1_clear_27 (by decide +kernel) ?_
        refine xt_put (ty := .boolean) xt_inX1 tyX1 tyX1_ok nmX1 C hW 0 rfl rfl 6 (by decide) rfl flX1_isDrawn rfl (by decide +kernel) rfl rfl (Nat.le_of_ble_eq_true rfl) dX1_clear_28 (fun H locs hW => ?_)
        replace hW : xt_W D A ss.heap (xM am cI cL S K 0 0 dz tp bt wv ro wa ch al fr) H locs := hW
        exact xt_vret C hE wv hW (fun j hj => hv j (by omega)) dX1_clear_31
      · refine lv_aload_n C.1 C.2.1 dX1_clear_8 rfl (lv_at hl 1 rfl) ?_
        refine xt_get xt_inX1 C hW 0 rfl rfl 2 (by decide) rfl flX1_weights rfl dX1_clear_9 ?_
        refine lv_iload_n C.1 C.2.1 dX1_clear_12 rfl (lv_at hl 0 rfl) ?_
        refine xt_iconst C 1 dX1_clear_13 (by decide +kernel) ?_
        refine xt_iast C hW 1 rfl (by decide) dX1_clear_14 (by omega) (fun H locs hW => ?_)
        replace hW : xt_W D A ss.heap (xM am cI cL S K n iz dz tp bt (va_up wv i 1) ro wa ch al fr) H locs := hW
        refine lv_iinc (k := 0) C.1 C.2.1 dX1_clear_15 hl rfl xt_inc (by decide) rfl (fun ls hl => ?_)
        replace hl : lv_has ls 2 [(1, .int (nI (i + 1))), (0, .ref (am 0))] := hl
        refine lv_goto C.1 C.2.1 dX1_clear_18 (tgt := 2) (by decide) ?_
        exact ih2 _ (by omega) (i + 1) (va_up wv i 1) rfl (by omega) (mq_f1 hv) ls _ _ (lv_sub hl [0, 1] rfl) hW
  exact lp2 _ 0 w rfl (Nat.zero_le _) (fun j h => absurd h (Nat.not_lt_zero j)) ls _ _ (lv_sub hl [0, 1] rfl) hW
set_option maxHeartbeats 4000000 in
set_option maxRecDepth 100000 in
theorem cm_size_y (l : Launch) (D : va_G) (cI cL : ClassId) (am : Nat → Nat) (S K n iz dz tp bt : Nat) (w ro wa ch al fr : Nat → Nat) (a : Nat) (b : Nat) (ha1 : 1 ≤ a) (ha3 : a ≤ 3) (hb1 : 1 ≤ b) (hb4 : b ≤ 4) : xt_M l yX1_size cX1_size 3 (some .boolean) 1 D cI cL [.ref (am 0), .int (nI a), .int (nI b)] (xM am cI cL S K n iz dz tp bt w ro wa ch al fr) (xt_Qi D cI cL (xM am cI cL S K n iz dz tp bt w ro wa ch al fr) (fun (r : Int32) (u : (Nat → Nat)) => r = nI 1 ∧ ∀ j, j < 24 → u j = 1) (fun u => xM am cI cL a b 0 0 dz tp bt u ro wa ch al fr)) := by
  refine xt_start (own := RX1) rfl (by decide) (Nat.le_of_ble_eq_true rfl) (fun pg ev ss mi args below meth cd A Q ls C hE hA hl hW => ?_)
  replace hl : lv_has ls 3 [(0, .ref (am 0)), (1, .int (nI a)), (2, .int (nI b))] := hl
  refine lv_iload_n C.1 C.2.1 dX1_size_0 rfl (lv_at hl 1 rfl) ?_
  refine xt_iconst C 1 dX1_size_1 (by decide +kernel) ?_
  refine xt_icmp_lt C (by omega) (by omega) dX1_size_2 (tgt := 20) (by decide) (fun h2 => ?_) (fun h2 => ?_)
  · exfalso
    omega
  · refine lv_iload_n C.1 C.2.1 dX1_size_5 rfl (lv_at hl 1 rfl) ?_
    refine xt_iconst C 3 dX1_size_6 (by decide +kernel) ?_
    refine xt_icmp_gt C (by omega) (by omega) dX1_size_7 (tgt := 20) (by decide) (fun h7 => ?_) (fun h7 => ?_)
    · exfalso
      omega
    · refine lv_iload_n C.1 C.2.1 dX1_size_10 rfl (lv_at hl 2 rfl) ?_
      refine xt_iconst C 1 dX1_size_11 (by decide +kernel) ?_
      refine xt_icmp_lt C (by omega) (by omega) dX1_size_12 (tgt := 20) (by decide) (fun h12 => ?_) (fun h12 => ?_)
      · exfalso
        omega
      · refine lv_iload_n C.1 C.2.1 dX1_size_15 rfl (lv_at hl 2 rfl) ?_
        refine xt_iconst C 4 dX1_size_16 (by decide +kernel) ?_
        refine xt_icmp_le C (by omega) (by omega) dX1_size_17 (tgt := 22) (by decide) (fun h17 => ?_) (fun h17 => ?_)
        · refine lv_aload_n C.1 C.2.1 dX1_size_22 rfl (lv_at hl 0 rfl) ?_
          refine lv_iload_n C.1 C.2.1 dX1_size_23 rfl (lv_at hl 1 rfl) ?_
          refine xt_put (ty := .int) xt_inX1 tyX1 tyX1_ok nmX1 C hW 0 rfl rfl 0 (by decide) rfl flX1_states rfl (by decide +kernel) rfl rfl (Nat.le_of_ble_eq_true rfl) dX1_size_24 (fun H locs hW => ?_)
          replace hW : xt_W D A ss.heap (xM am cI cL a K n iz dz tp bt w ro wa ch al fr) H locs := hW
          refine lv_aload_n C.1 C.2.1 dX1_size_27 rfl (lv_at hl 0 rfl) ?_
          refine lv_iload_n C.1 C.2.1 dX1_size_28 rfl (lv_at hl 2 rfl) ?_
          refine xt_put (ty := .int) xt_inX1 tyX1 tyX1_ok nmX1 C hW 0 rfl rfl 1 (by decide) rfl flX1_symbols rfl (by decide +kernel) rfl rfl (Nat.le_of_ble_eq_true rfl) dX1_size_29 (fun H locs hW => ?_)
          replace hW : xt_W D A ss.heap (xM am cI cL a b n iz dz tp bt w ro wa ch al fr) H locs := hW
          refine lv_aload_n C.1 C.2.1 dX1_size_32 rfl (lv_at hl 0 rfl) ?_
          refine xt_cvd hA hW (xt_runV C hW.1 hW.2.1 cwX1_X1_clear (cm_clear l D cI cL am a b n iz dz tp bt w ro wa ch al fr) rfl rfl rfl hl.1 (rest := []) rfl (Nat.le_of_ble_eq_true rfl) ⟨(Nat.le_of_ble_eq_true rfl), (Nat.le_of_ble_eq_true rfl)⟩ ⟨Nat.zero_le _, Nat.zero_le _⟩ dX1_size_33) (fun u H locs hp33 hW => ?_)
          obtain ⟨w_33, rfl⟩ : ∃ z, z = u := ⟨_, rfl⟩
          replace hW : xt_W D A ss.heap (xM am cI cL a b 0 0 dz tp bt w_33 ro wa ch al fr) H locs := hW
          replace hp33 : ∀ j, j < 24 → w_33 j = 1 := hp33
          refine xt_iconst C 1 dX1_size_36 (by decide +kernel) ?_
          exact xt_zret C hE w_33 hW (by first | exact Or.inl rfl | exact Or.inr rfl) (⟨rfl, hp33⟩) dX1_size_37
        · exfalso
          omega
set_option maxHeartbeats 4000000 in
set_option maxRecDepth 100000 in
theorem cm_size_n (l : Launch) (D : va_G) (cI cL : ClassId) (am : Nat → Nat) (S K n iz dz tp bt : Nat) (w ro wa ch al fr : Nat → Nat) (a : Int32) (b : Int32) (hno : ¬ ∃ s k, a = nI s ∧ b = nI k ∧ 1 ≤ s ∧ s ≤ 3 ∧ 1 ≤ k ∧ k ≤ 4) : xt_M l yX1_size cX1_size 3 (some .boolean) 1 D cI cL [.ref (am 0), .int a, .int b] (xM am cI cL S K n iz dz tp bt w ro wa ch al fr) (xt_Qi D cI cL (xM am cI cL S K n iz dz tp bt w ro wa ch al fr) (fun (r : Int32) (u : Unit) => r = nI 0) (fun u => xM am cI cL S K n iz dz tp bt w ro wa ch al fr)) := by
  refine xt_start (own := RX1) rfl (by decide) (Nat.le_of_ble_eq_true rfl) (fun pg ev ss mi args below meth cd A Q ls C hE hA hl hW => ?_)
  replace hl : lv_has ls 3 [(0, .ref (am 0)), (1, .int a), (2, .int b)] := hl
  refine lv_iload_n C.1 C.2.1 dX1_size_0 rfl (lv_at hl 1 rfl) ?_
  refine xt_iconst C 1 dX1_size_1 (by decide +kernel) ?_
  refine lv_icmp_lt C.1 C.2.1 dX1_size_2 (tgt := 20) (by decide) (fun h2 => ?_) (fun h2 => ?_)
  · refine xt_iconst C 0 dX1_size_20 (by decide +kernel) ?_
    exact xt_zret C hE () hW (by first | exact Or.inl rfl | exact Or.inr rfl) (rfl) dX1_size_21
  · refine lv_iload_n C.1 C.2.1 dX1_size_5 rfl (lv_at hl 1 rfl) ?_
    refine xt_iconst C 3 dX1_size_6 (by decide +kernel) ?_
    refine lv_icmp_gt C.1 C.2.1 dX1_size_7 (tgt := 20) (by decide) (fun h7 => ?_) (fun h7 => ?_)
    · refine xt_iconst C 0 dX1_size_20 (by decide +kernel) ?_
      exact xt_zret C hE () hW (by first | exact Or.inl rfl | exact Or.inr rfl) (rfl) dX1_size_21
    · refine lv_iload_n C.1 C.2.1 dX1_size_10 rfl (lv_at hl 2 rfl) ?_
      refine xt_iconst C 1 dX1_size_11 (by decide +kernel) ?_
      refine lv_icmp_lt C.1 C.2.1 dX1_size_12 (tgt := 20) (by decide) (fun h12 => ?_) (fun h12 => ?_)
      · refine xt_iconst C 0 dX1_size_20 (by decide +kernel) ?_
        exact xt_zret C hE () hW (by first | exact Or.inl rfl | exact Or.inr rfl) (rfl) dX1_size_21
      · refine lv_iload_n C.1 C.2.1 dX1_size_15 rfl (lv_at hl 2 rfl) ?_
        refine xt_iconst C 4 dX1_size_16 (by decide +kernel) ?_
        refine lv_icmp_le C.1 C.2.1 dX1_size_17 (tgt := 22) (by decide) (fun h17 => ?_) (fun h17 => ?_)
        · exfalso
          exact hno (xq_sz h2 h7 h12 h17)
        · refine xt_iconst C 0 dX1_size_20 (by decide +kernel) ?_
          exact xt_zret C hE () hW (by first | exact Or.inl rfl | exact Or.inr rfl) (rfl) dX1_size_21
set_option maxHeartbeats 4000000 in
set_option maxRecDepth 100000 in
theorem cm_state (l : Launch) (D : va_G) (cI cL : ClassId) (am : Nat → Nat) (S K n iz dz tp bt : Nat) (w ro wa ch al fr : Nat → Nat) (q : Int32) (hS3 : S ≤ 3) : xt_M l yX1_state cX1_state 2 (some .boolean) 0 D cI cL [.ref (am 0), .int q] (xM am cI cL S K n iz dz tp bt w ro wa ch al fr) (xt_Qi D cI cL (xM am cI cL S K n iz dz tp bt w ro wa ch al fr) (fun (r : Int32) (u : Unit) => (r = nI 1 ∧ ∃ z1, z1 < S ∧ q = nI z1) ∨ (r = nI 0 ∧ ¬ ∃ z1, z1 < S ∧ q = nI z1)) (fun u => xM am cI cL S K n iz dz tp bt w ro wa ch al fr)) := by
  refine xt_start (own := RX1) rfl (by decide) (Nat.le_of_ble_eq_true rfl) (fun pg ev ss mi args below meth cd A Q ls C hE hA hl hW => ?_)
  replace hl : lv_has ls 2 [(0, .ref (am 0)), (1, .int q)] := hl
  refine lv_iload_n C.1 C.2.1 dX1_state_0 rfl (lv_at hl 1 rfl) ?_
  refine lv_if_lt C.1 C.2.1 dX1_state_1 (tgt := 16) (by decide) (fun h1 => ?_) (fun h1 => ?_)
  · refine xt_iconst C 0 dX1_state_16 (by decide +kernel) ?_
    exact xt_zret C hE () hW (by first | exact Or.inl rfl | exact Or.inr rfl) (by first | exact Or.inr ⟨rfl, xq_no1 (by omega) h1⟩ | exact Or.inr ⟨rfl, xq_no2 (by omega) h9⟩ | exact Or.inl ⟨rfl, xq_yes (by omega) h1 h9⟩) dX1_state_17
  · refine lv_iload_n C.1 C.2.1 dX1_state_4 rfl (lv_at hl 1 rfl) ?_
    refine lv_aload_n C.1 C.2.1 dX1_state_5 rfl (lv_at hl 0 rfl) ?_
    refine xt_get xt_inX1 C hW 0 rfl rfl 0 (by decide) rfl flX1_states rfl dX1_state_6 ?_
    refine lv_icmp_ge C.1 C.2.1 dX1_state_9 (tgt := 16) (by decide) (fun h9 => ?_) (fun h9 => ?_)
    · refine xt_iconst C 0 dX1_state_16 (by decide +kernel) ?_
      exact xt_zret C hE () hW (by first | exact Or.inl rfl | exact Or.inr rfl) (by first | exact Or.inr ⟨rfl, xq_no1 (by omega) h1⟩ | exact Or.inr ⟨rfl, xq_no2 (by omega) h9⟩ | exact Or.inl ⟨rfl, xq_yes (by omega) h1 h9⟩) dX1_state_17
    · refine xt_iconst C 1 dX1_state_12 (by decide +kernel) ?_
      refine lv_goto C.1 C.2.1 dX1_state_13 (tgt := 17) (by decide) ?_
      exact xt_zret C hE () hW (by first | exact Or.inl rfl | exact Or.inr rfl) (by first | exact Or.inr ⟨rfl, xq_no1 (by omega) h1⟩ | exact Or.inr ⟨rfl, xq_no2 (by omega) h9⟩ | exact Or.inl ⟨rfl, xq_yes (by omega) h1 h9⟩) dX1_state_17
set_option maxHeartbeats 4000000 in
set_option maxRecDepth 100000 in
theorem cm_isSymbol (l : Launch) (D : va_G) (cI cL : ClassId) (am : Nat → Nat) (S K n iz dz tp bt : Nat) (w ro wa ch al fr : Nat → Nat) (q : Int32) (hK4 : K ≤ 4) : xt_M l yX1_isSymbol cX1_isSymbol 2 (some .boolean) 0 D cI cL [.ref (am 0), .int q] (xM am cI cL S K n iz dz tp bt w ro wa ch al fr) (xt_Qi D cI cL (xM am cI cL S K n iz dz tp bt w ro wa ch al fr) (fun (r : Int32) (u : Unit) => (r = nI 1 ∧ ∃ z1, z1 < K ∧ q = nI z1) ∨ (r = nI 0 ∧ ¬ ∃ z1, z1 < K ∧ q = nI z1)) (fun u => xM am cI cL S K n iz dz tp bt w ro wa ch al fr)) := by
  refine xt_start (own := RX1) rfl (by decide) (Nat.le_of_ble_eq_true rfl) (fun pg ev ss mi args below meth cd A Q ls C hE hA hl hW => ?_)
  replace hl : lv_has ls 2 [(0, .ref (am 0)), (1, .int q)] := hl
  refine lv_iload_n C.1 C.2.1 dX1_isSymbol_0 rfl (lv_at hl 1 rfl) ?_
  refine lv_if_lt C.1 C.2.1 dX1_isSymbol_1 (tgt := 16) (by decide) (fun h1 => ?_) (fun h1 => ?_)
  · refine xt_iconst C 0 dX1_isSymbol_16 (by decide +kernel) ?_
    exact xt_zret C hE () hW (by first | exact Or.inl rfl | exact Or.inr rfl) (by first | exact Or.inr ⟨rfl, xq_no1 (by omega) h1⟩ | exact Or.inr ⟨rfl, xq_no2 (by omega) h9⟩ | exact Or.inl ⟨rfl, xq_yes (by omega) h1 h9⟩) dX1_isSymbol_17
  · refine lv_iload_n C.1 C.2.1 dX1_isSymbol_4 rfl (lv_at hl 1 rfl) ?_
    refine lv_aload_n C.1 C.2.1 dX1_isSymbol_5 rfl (lv_at hl 0 rfl) ?_
    refine xt_get xt_inX1 C hW 0 rfl rfl 1 (by decide) rfl flX1_symbols rfl dX1_isSymbol_6 ?_
    refine lv_icmp_ge C.1 C.2.1 dX1_isSymbol_9 (tgt := 16) (by decide) (fun h9 => ?_) (fun h9 => ?_)
    · refine xt_iconst C 0 dX1_isSymbol_16 (by decide +kernel) ?_
      exact xt_zret C hE () hW (by first | exact Or.inl rfl | exact Or.inr rfl) (by first | exact Or.inr ⟨rfl, xq_no1 (by omega) h1⟩ | exact Or.inr ⟨rfl, xq_no2 (by omega) h9⟩ | exact Or.inl ⟨rfl, xq_yes (by omega) h1 h9⟩) dX1_isSymbol_17
    · refine xt_iconst C 1 dX1_isSymbol_12 (by decide +kernel) ?_
      refine lv_goto C.1 C.2.1 dX1_isSymbol_13 (tgt := 17) (by decide) ?_
      exact xt_zret C hE () hW (by first | exact Or.inl rfl | exact Or.inr rfl) (by first | exact Or.inr ⟨rfl, xq_no1 (by omega) h1⟩ | exact Or.inr ⟨rfl, xq_no2 (by omega) h9⟩ | exact Or.inl ⟨rfl, xq_yes (by omega) h1 h9⟩) dX1_isSymbol_17
set_option maxHeartbeats 4000000 in
set_option maxRecDepth 100000 in
theorem cm_slot_y (l : Launch) (D : va_G) (cI cL : ClassId) (am : Nat → Nat) (S K n iz dz tp bt : Nat) (w ro wa ch al fr : Nat → Nat) (ka : Nat) (kb : Nat) (kc : Nat) (hS3 : S ≤ 3) (hK4 : K ≤ 4) (hk : xq_kr S K ka kb kc) : xt_M l yX1_slot cX1_slot 4 (some .int) 1 D cI cL [.ref (am 0), .int (nI ka), .int (nI kb), .int (nI kc)] (xM am cI cL S K n iz dz tp bt w ro wa ch al fr) (xt_Qi D cI cL (xM am cI cL S K n iz dz tp bt w ro wa ch al fr) (fun (r : Int32) (u : Unit) => r = nI (mq_sl ka kb kc)) (fun u => xM am cI cL S K n iz dz tp bt w ro wa ch al fr)) := by
  refine xt_start (own := RX1) rfl (by decide) (Nat.le_of_ble_eq_true rfl) (fun pg ev ss mi args below meth cd A Q ls C hE hA hl hW => ?_)
  replace hl : lv_has ls 4 [(0, .ref (am 0)), (1, .int (nI ka)), (2, .int (nI kb)), (3, .int (nI kc))] := hl
  rcases hk with ⟨rfl, rfl, hk2⟩ | ⟨rfl, hk1, hk2⟩ | ⟨rfl, hk1, hk2⟩
  · replace hl : lv_has ls 4 [(0, .ref (am 0)), (1, .int (nI 0)), (2, .int (nI 0)), (3, .int (nI kc))] := hl
    refine lv_iload_n C.1 C.2.1 dX1_slot_0 rfl (lv_at hl 1 rfl) ?_
    refine xt_if_ne C (by omega) dX1_slot_1 (tgt := 22) (by decide) (fun h1 => ?_) (fun h1 => ?_)
    · exfalso
      omega
    · refine lv_iload_n C.1 C.2.1 dX1_slot_4 rfl (lv_at hl 2 rfl) ?_
      refine xt_if_ne C (by omega) dX1_slot_5 (tgt := 20) (by decide) (fun h5 => ?_) (fun h5 => ?_)
      · exfalso
        omega
      · refine lv_aload_n C.1 C.2.1 dX1_slot_8 rfl (lv_at hl 0 rfl) ?_
        refine lv_iload_n C.1 C.2.1 dX1_slot_9 rfl (lv_at hl 3 rfl) ?_
        refine xt_ci hA hW (xt_runV C hW.1 hW.2.1 cwX1_X1_state (cm_state l D cI cL am S K n iz dz tp bt w ro wa ch al fr (nI kc) (by omega)) rfl rfl rfl hl.1 (rest := []) rfl (Nat.le_of_ble_eq_true rfl) ⟨(Nat.le_of_ble_eq_true rfl), (Nat.le_of_ble_eq_true rfl)⟩ ⟨Nat.zero_le _, Nat.zero_le _⟩ dX1_slot_10) (fun r10 u H locs hp10 hW => ?_)
        replace hW : xt_W D A ss.heap (xM am cI cL S K n iz dz tp bt w ro wa ch al fr) H locs := hW
        replace hp10 : (r10 = nI 1 ∧ ∃ z1, z1 < S ∧ (nI kc) = nI z1) ∨ (r10 = nI 0 ∧ ¬ ∃ z1, z1 < S ∧ (nI kc) = nI z1) := hp10
        rcases hp10 with ⟨rfl, -⟩ | ⟨-, hno⟩
        · replace hl : lv_has ls 4 [(0, .ref (am 0)), (1, .int (nI 0)), (2, .int (nI 0)), (3, .int (nI kc))] := hl
          refine xt_if_eq C (by omega) dX1_slot_13 (tgt := 20) (by decide) (fun h13 => ?_) (fun h13 => ?_)
          · exfalso
            omega
          · refine lv_iload_n C.1 C.2.1 dX1_slot_16 rfl (lv_at hl 3 rfl) ?_
            refine lv_goto C.1 C.2.1 dX1_slot_17 (tgt := 21) (by decide) ?_
            exact xt_iret C hE () hW (rfl) dX1_slot_21
        · exact absurd (⟨kc, by omega, rfl⟩) hno
  · replace hl : lv_has ls 4 [(0, .ref (am 0)), (1, .int (nI 1)), (2, .int (nI kb)), (3, .int (nI kc))] := hl
    refine lv_iload_n C.1 C.2.1 dX1_slot_0 rfl (lv_at hl 1 rfl) ?_
    refine xt_if_ne C (by omega) dX1_slot_1 (tgt := 22) (by decide) (fun h1 => ?_) (fun h1 => ?_)
    · refine lv_aload_n C.1 C.2.1 dX1_slot_22 rfl (lv_at hl 0 rfl) ?_
      refine lv_iload_n C.1 C.2.1 dX1_slot_23 rfl (lv_at hl 2 rfl) ?_
      refine xt_ci hA hW (xt_runV C hW.1 hW.2.1 cwX1_X1_state (cm_state l D cI cL am S K n iz dz tp bt w ro wa ch al fr (nI kb) (by omega)) rfl rfl rfl hl.1 (rest := []) rfl (Nat.le_of_ble_eq_true rfl) ⟨(Nat.le_of_ble_eq_true rfl), (Nat.le_of_ble_eq_true rfl)⟩ ⟨Nat.zero_le _, Nat.zero_le _⟩ dX1_slot_24) (fun r24 u H locs hp24 hW => ?_)
      replace hW : xt_W D A ss.heap (xM am cI cL S K n iz dz tp bt w ro wa ch al fr) H locs := hW
      replace hp24 : (r24 = nI 1 ∧ ∃ z1, z1 < S ∧ (nI kb) = nI z1) ∨ (r24 = nI 0 ∧ ¬ ∃ z1, z1 < S ∧ (nI kb) = nI z1) := hp24
      rcases hp24 with ⟨rfl, -⟩ | ⟨-, hno⟩
      · replace hl : lv_has ls 4 [(0, .ref (am 0)), (1, .int (nI 1)), (2, .int (nI kb)), (3, .int (nI kc))] := hl
        refine xt_if_ne C (by omega) dX1_slot_27 (tgt := 32) (by decide) (fun h27 => ?_) (fun h27 => ?_)
        · refine lv_iload_n C.1 C.2.1 dX1_slot_32 rfl (lv_at hl 1 rfl) ?_
          refine xt_iconst C 1 dX1_slot_33 (by decide +kernel) ?_
          refine xt_icmp_ne C (by omega) (by omega) dX1_slot_34 (tgt := 57) (by decide) (fun h34 => ?_) (fun h34 => ?_)
          · exfalso
            omega
          · refine lv_aload_n C.1 C.2.1 dX1_slot_37 rfl (lv_at hl 0 rfl) ?_
            refine lv_iload_n C.1 C.2.1 dX1_slot_38 rfl (lv_at hl 3 rfl) ?_
            refine xt_ci hA hW (xt_runV C hW.1 hW.2.1 cwX1_X1_state (cm_state l D cI cL am S K n iz dz tp bt w ro wa ch al fr (nI kc) (by omega)) rfl rfl rfl hl.1 (rest := []) rfl (Nat.le_of_ble_eq_true rfl) ⟨(Nat.le_of_ble_eq_true rfl), (Nat.le_of_ble_eq_true rfl)⟩ ⟨Nat.zero_le _, Nat.zero_le _⟩ dX1_slot_39) (fun r39 u H locs hp39 hW => ?_)
            replace hW : xt_W D A ss.heap (xM am cI cL S K n iz dz tp bt w ro wa ch al fr) H locs := hW
            replace hp39 : (r39 = nI 1 ∧ ∃ z1, z1 < S ∧ (nI kc) = nI z1) ∨ (r39 = nI 0 ∧ ¬ ∃ z1, z1 < S ∧ (nI kc) = nI z1) := hp39
            rcases hp39 with ⟨rfl, -⟩ | ⟨-, hno⟩
            · replace hl : lv_has ls 4 [(0, .ref (am 0)), (1, .int (nI 1)), (2, .int (nI kb)), (3, .int (nI kc))] := hl
              refine xt_if_eq C (by omega) dX1_slot_42 (tgt := 55) (by decide) (fun h42 => ?_) (fun h42 => ?_)
              · exfalso
                omega
              · refine xt_iconst C 3 dX1_slot_45 (by decide +kernel) ?_
                refine xt_iconst C 3 dX1_slot_46 (by decide +kernel) ?_
                refine lv_iload_n C.1 C.2.1 dX1_slot_47 rfl (lv_at hl 2 rfl) ?_
                refine xt_imul C dX1_slot_48 ?_
                refine xt_iadd C dX1_slot_49 ?_
                refine lv_iload_n C.1 C.2.1 dX1_slot_50 rfl (lv_at hl 3 rfl) ?_
                refine xt_iadd C dX1_slot_51 ?_
                refine lv_goto C.1 C.2.1 dX1_slot_52 (tgt := 56) (by decide) ?_
                exact xt_iret C hE () hW (rfl) dX1_slot_56
            · exact absurd (⟨kc, by omega, rfl⟩) hno
        · exfalso
          omega
      · exact absurd (⟨kb, by omega, rfl⟩) hno
    · exfalso
      omega
  · replace hl : lv_has ls 4 [(0, .ref (am 0)), (1, .int (nI 2)), (2, .int (nI kb)), (3, .int (nI kc))] := hl
    refine lv_iload_n C.1 C.2.1 dX1_slot_0 rfl (lv_at hl 1 rfl) ?_
    refine xt_if_ne C (by omega) dX1_slot_1 (tgt := 22) (by decide) (fun h1 => ?_) (fun h1 => ?_)
    · refine lv_aload_n C.1 C.2.1 dX1_slot_22 rfl (lv_at hl 0 rfl) ?_
      refine lv_iload_n C.1 C.2.1 dX1_slot_23 rfl (lv_at hl 2 rfl) ?_
      refine xt_ci hA hW (xt_runV C hW.1 hW.2.1 cwX1_X1_state (cm_state l D cI cL am S K n iz dz tp bt w ro wa ch al fr (nI kb) (by omega)) rfl rfl rfl hl.1 (rest := []) rfl (Nat.le_of_ble_eq_true rfl) ⟨(Nat.le_of_ble_eq_true rfl), (Nat.le_of_ble_eq_true rfl)⟩ ⟨Nat.zero_le _, Nat.zero_le _⟩ dX1_slot_24) (fun r24 u H locs hp24 hW => ?_)
      replace hW : xt_W D A ss.heap (xM am cI cL S K n iz dz tp bt w ro wa ch al fr) H locs := hW
      replace hp24 : (r24 = nI 1 ∧ ∃ z1, z1 < S ∧ (nI kb) = nI z1) ∨ (r24 = nI 0 ∧ ¬ ∃ z1, z1 < S ∧ (nI kb) = nI z1) := hp24
      rcases hp24 with ⟨rfl, -⟩ | ⟨-, hno⟩
      · replace hl : lv_has ls 4 [(0, .ref (am 0)), (1, .int (nI 2)), (2, .int (nI kb)), (3, .int (nI kc))] := hl
        refine xt_if_ne C (by omega) dX1_slot_27 (tgt := 32) (by decide) (fun h27 => ?_) (fun h27 => ?_)
        · refine lv_iload_n C.1 C.2.1 dX1_slot_32 rfl (lv_at hl 1 rfl) ?_
          refine xt_iconst C 1 dX1_slot_33 (by decide +kernel) ?_
          refine xt_icmp_ne C (by omega) (by omega) dX1_slot_34 (tgt := 57) (by decide) (fun h34 => ?_) (fun h34 => ?_)
          · refine lv_iload_n C.1 C.2.1 dX1_slot_57 rfl (lv_at hl 1 rfl) ?_
            refine xt_iconst C 2 dX1_slot_58 (by decide +kernel) ?_
            refine xt_icmp_ne C (by omega) (by omega) dX1_slot_59 (tgt := 81) (by decide) (fun h59 => ?_) (fun h59 => ?_)
            · exfalso
              omega
            · refine lv_aload_n C.1 C.2.1 dX1_slot_62 rfl (lv_at hl 0 rfl) ?_
              refine lv_iload_n C.1 C.2.1 dX1_slot_63 rfl (lv_at hl 3 rfl) ?_
              refine xt_ci hA hW (xt_runV C hW.1 hW.2.1 cwX1_X1_isSymbol (cm_isSymbol l D cI cL am S K n iz dz tp bt w ro wa ch al fr (nI kc) (by omega)) rfl rfl rfl hl.1 (rest := []) rfl (Nat.le_of_ble_eq_true rfl) ⟨(Nat.le_of_ble_eq_true rfl), (Nat.le_of_ble_eq_true rfl)⟩ ⟨Nat.zero_le _, Nat.zero_le _⟩ dX1_slot_64) (fun r64 u H locs hp64 hW => ?_)
              replace hW : xt_W D A ss.heap (xM am cI cL S K n iz dz tp bt w ro wa ch al fr) H locs := hW
              replace hp64 : (r64 = nI 1 ∧ ∃ z1, z1 < K ∧ (nI kc) = nI z1) ∨ (r64 = nI 0 ∧ ¬ ∃ z1, z1 < K ∧ (nI kc) = nI z1) := hp64
              rcases hp64 with ⟨rfl, -⟩ | ⟨-, hno⟩
              · replace hl : lv_has ls 4 [(0, .ref (am 0)), (1, .int (nI 2)), (2, .int (nI kb)), (3, .int (nI kc))] := hl
                refine xt_if_eq C (by omega) dX1_slot_67 (tgt := 81) (by decide) (fun h67 => ?_) (fun h67 => ?_)
                · exfalso
                  omega
                · refine xt_bipush C 12 dX1_slot_70 (by decide +kernel) ?_
                  refine xt_iconst C 4 dX1_slot_72 (by decide +kernel) ?_
                  refine lv_iload_n C.1 C.2.1 dX1_slot_73 rfl (lv_at hl 2 rfl) ?_
                  refine xt_imul C dX1_slot_74 ?_
                  refine xt_iadd C dX1_slot_75 ?_
                  refine lv_iload_n C.1 C.2.1 dX1_slot_76 rfl (lv_at hl 3 rfl) ?_
                  refine xt_iadd C dX1_slot_77 ?_
                  refine lv_goto C.1 C.2.1 dX1_slot_78 (tgt := 82) (by decide) ?_
                  exact xt_iret C hE () hW (rfl) dX1_slot_82
              · exact absurd (⟨kc, by omega, rfl⟩) hno
          · exfalso
            omega
        · exfalso
          omega
      · exact absurd (⟨kb, by omega, rfl⟩) hno
    · exfalso
      omega
set_option maxHeartbeats 4000000 in
set_option maxRecDepth 100000 in
theorem cm_slot_n (l : Launch) (D : va_G) (cI cL : ClassId) (am : Nat → Nat) (S K n iz dz tp bt : Nat) (w ro wa ch al fr : Nat → Nat) (kd : Int32) (ro2 : Int32) (co : Int32) (hS3 : S ≤ 3) (hK4 : K ≤ 4) (hno : ¬ ∃ a b c, xt_ok S K kd ro2 co a b c) : xt_M l yX1_slot cX1_slot 4 (some .int) 1 D cI cL [.ref (am 0), .int kd, .int ro2, .int co] (xM am cI cL S K n iz dz tp bt w ro wa ch al fr) (xt_Qi D cI cL (xM am cI cL S K n iz dz tp bt w ro wa ch al fr) (fun (r : Int32) (u : Unit) => r =  (-1)) (fun u => xM am cI cL S K n iz dz tp bt w ro wa ch al fr)) := by
  refine xt_start (own := RX1) rfl (by decide) (Nat.le_of_ble_eq_true rfl) (fun pg ev ss mi args below meth cd A Q ls C hE hA hl hW => ?_)
  replace hl : lv_has ls 4 [(0, .ref (am 0)), (1, .int kd), (2, .int ro2), (3, .int co)] := hl
  refine lv_iload_n C.1 C.2.1 dX1_slot_0 rfl (lv_at hl 1 rfl) ?_
  refine lv_if_ne C.1 C.2.1 dX1_slot_1 (tgt := 22) (by decide) (fun h1 => ?_) (fun h1 => ?_)
  · refine lv_aload_n C.1 C.2.1 dX1_slot_22 rfl (lv_at hl 0 rfl) ?_
    refine lv_iload_n C.1 C.2.1 dX1_slot_23 rfl (lv_at hl 2 rfl) ?_
    refine xt_ci hA hW (xt_runV C hW.1 hW.2.1 cwX1_X1_state (cm_state l D cI cL am S K n iz dz tp bt w ro wa ch al fr ro2 (by omega)) rfl rfl rfl hl.1 (rest := []) rfl (Nat.le_of_ble_eq_true rfl) ⟨(Nat.le_of_ble_eq_true rfl), (Nat.le_of_ble_eq_true rfl)⟩ ⟨Nat.zero_le _, Nat.zero_le _⟩ dX1_slot_24) (fun r24 u H locs hp24 hW => ?_)
    replace hW : xt_W D A ss.heap (xM am cI cL S K n iz dz tp bt w ro wa ch al fr) H locs := hW
    replace hp24 : (r24 = nI 1 ∧ ∃ z1, z1 < S ∧ ro2 = nI z1) ∨ (r24 = nI 0 ∧ ¬ ∃ z1, z1 < S ∧ ro2 = nI z1) := hp24
    rcases hp24 with ⟨rfl, j, hj, hje⟩ | ⟨rfl, -⟩
    · replace hl : lv_has ls 4 [(0, .ref (am 0)), (1, .int kd), (2, .int ro2), (3, .int co)] := hl
      refine xt_if_ne C (by omega) dX1_slot_27 (tgt := 32) (by decide) (fun h27 => ?_) (fun h27 => ?_)
      · refine lv_iload_n C.1 C.2.1 dX1_slot_32 rfl (lv_at hl 1 rfl) ?_
        refine xt_iconst C 1 dX1_slot_33 (by decide +kernel) ?_
        refine lv_icmp_ne C.1 C.2.1 dX1_slot_34 (tgt := 57) (by decide) (fun h34 => ?_) (fun h34 => ?_)
        · refine lv_iload_n C.1 C.2.1 dX1_slot_57 rfl (lv_at hl 1 rfl) ?_
          refine xt_iconst C 2 dX1_slot_58 (by decide +kernel) ?_
          refine lv_icmp_ne C.1 C.2.1 dX1_slot_59 (tgt := 81) (by decide) (fun h59 => ?_) (fun h59 => ?_)
          · refine lv_iconst (v := -1) C.1 C.2.1 dX1_slot_81 (by decide +kernel) ?_
            exact xt_iret C hE () hW (rfl) dX1_slot_82
          · refine lv_aload_n C.1 C.2.1 dX1_slot_62 rfl (lv_at hl 0 rfl) ?_
            refine lv_iload_n C.1 C.2.1 dX1_slot_63 rfl (lv_at hl 3 rfl) ?_
            refine xt_ci hA hW (xt_runV C hW.1 hW.2.1 cwX1_X1_isSymbol (cm_isSymbol l D cI cL am S K n iz dz tp bt w ro wa ch al fr co (by omega)) rfl rfl rfl hl.1 (rest := []) rfl (Nat.le_of_ble_eq_true rfl) ⟨(Nat.le_of_ble_eq_true rfl), (Nat.le_of_ble_eq_true rfl)⟩ ⟨Nat.zero_le _, Nat.zero_le _⟩ dX1_slot_64) (fun r64 u H locs hp64 hW => ?_)
            replace hW : xt_W D A ss.heap (xM am cI cL S K n iz dz tp bt w ro wa ch al fr) H locs := hW
            replace hp64 : (r64 = nI 1 ∧ ∃ z1, z1 < K ∧ co = nI z1) ∨ (r64 = nI 0 ∧ ¬ ∃ z1, z1 < K ∧ co = nI z1) := hp64
            rcases hp64 with ⟨-, j2, hj2, rfl⟩ | ⟨rfl, -⟩
            · exact absurd ⟨2, j, j2, h59, hje, rfl, Or.inr (Or.inr ⟨rfl, hj, hj2⟩)⟩ hno
            · replace hl : lv_has ls 4 [(0, .ref (am 0)), (1, .int kd), (2, .int ro2), (3, .int co)] := hl
              refine xt_if_eq C (by omega) dX1_slot_67 (tgt := 81) (by decide) (fun h67 => ?_) (fun h67 => ?_)
              · refine lv_iconst (v := -1) C.1 C.2.1 dX1_slot_81 (by decide +kernel) ?_
                exact xt_iret C hE () hW (rfl) dX1_slot_82
              · exfalso
                omega
        · refine lv_aload_n C.1 C.2.1 dX1_slot_37 rfl (lv_at hl 0 rfl) ?_
          refine lv_iload_n C.1 C.2.1 dX1_slot_38 rfl (lv_at hl 3 rfl) ?_
          refine xt_ci hA hW (xt_runV C hW.1 hW.2.1 cwX1_X1_state (cm_state l D cI cL am S K n iz dz tp bt w ro wa ch al fr co (by omega)) rfl rfl rfl hl.1 (rest := []) rfl (Nat.le_of_ble_eq_true rfl) ⟨(Nat.le_of_ble_eq_true rfl), (Nat.le_of_ble_eq_true rfl)⟩ ⟨Nat.zero_le _, Nat.zero_le _⟩ dX1_slot_39) (fun r39 u H locs hp39 hW => ?_)
          replace hW : xt_W D A ss.heap (xM am cI cL S K n iz dz tp bt w ro wa ch al fr) H locs := hW
          replace hp39 : (r39 = nI 1 ∧ ∃ z1, z1 < S ∧ co = nI z1) ∨ (r39 = nI 0 ∧ ¬ ∃ z1, z1 < S ∧ co = nI z1) := hp39
          rcases hp39 with ⟨-, j2, hj2, rfl⟩ | ⟨rfl, -⟩
          · exact absurd ⟨1, j, j2, h34, hje, rfl, Or.inr (Or.inl ⟨rfl, hj, hj2⟩)⟩ hno
          · replace hl : lv_has ls 4 [(0, .ref (am 0)), (1, .int kd), (2, .int ro2), (3, .int co)] := hl
            refine xt_if_eq C (by omega) dX1_slot_42 (tgt := 55) (by decide) (fun h42 => ?_) (fun h42 => ?_)
            · refine lv_iconst (v := -1) C.1 C.2.1 dX1_slot_55 (by decide +kernel) ?_
              exact xt_iret C hE () hW (rfl) dX1_slot_56
            · exfalso
              omega
      · exfalso
        omega
    · replace hl : lv_has ls 4 [(0, .ref (am 0)), (1, .int kd), (2, .int ro2), (3, .int co)] := hl
      refine xt_if_ne C (by omega) dX1_slot_27 (tgt := 32) (by decide) (fun h27 => ?_) (fun h27 => ?_)
      · exfalso
        omega
      · refine lv_iconst (v := -1) C.1 C.2.1 dX1_slot_30 (by decide +kernel) ?_
        exact xt_iret C hE () hW (rfl) dX1_slot_31
  · refine lv_iload_n C.1 C.2.1 dX1_slot_4 rfl (lv_at hl 2 rfl) ?_
    refine lv_if_ne C.1 C.2.1 dX1_slot_5 (tgt := 20) (by decide) (fun h5 => ?_) (fun h5 => ?_)
    · refine lv_iconst (v := -1) C.1 C.2.1 dX1_slot_20 (by decide +kernel) ?_
      exact xt_iret C hE () hW (rfl) dX1_slot_21
    · refine lv_aload_n C.1 C.2.1 dX1_slot_8 rfl (lv_at hl 0 rfl) ?_
      refine lv_iload_n C.1 C.2.1 dX1_slot_9 rfl (lv_at hl 3 rfl) ?_
      refine xt_ci hA hW (xt_runV C hW.1 hW.2.1 cwX1_X1_state (cm_state l D cI cL am S K n iz dz tp bt w ro wa ch al fr co (by omega)) rfl rfl rfl hl.1 (rest := []) rfl (Nat.le_of_ble_eq_true rfl) ⟨(Nat.le_of_ble_eq_true rfl), (Nat.le_of_ble_eq_true rfl)⟩ ⟨Nat.zero_le _, Nat.zero_le _⟩ dX1_slot_10) (fun r10 u H locs hp10 hW => ?_)
      replace hW : xt_W D A ss.heap (xM am cI cL S K n iz dz tp bt w ro wa ch al fr) H locs := hW
      replace hp10 : (r10 = nI 1 ∧ ∃ z1, z1 < S ∧ co = nI z1) ∨ (r10 = nI 0 ∧ ¬ ∃ z1, z1 < S ∧ co = nI z1) := hp10
      rcases hp10 with ⟨-, j, hj, rfl⟩ | ⟨rfl, -⟩
      · exact absurd ⟨0, 0, j, (by rw [nI_0]; exact h1), (by rw [nI_0]; exact h5), rfl, Or.inl ⟨rfl, rfl, hj⟩⟩ hno
      · replace hl : lv_has ls 4 [(0, .ref (am 0)), (1, .int kd), (2, .int ro2), (3, .int co)] := hl
        refine xt_if_eq C (by omega) dX1_slot_13 (tgt := 20) (by decide) (fun h13 => ?_) (fun h13 => ?_)
        · refine lv_iconst (v := -1) C.1 C.2.1 dX1_slot_20 (by decide +kernel) ?_
          exact xt_iret C hE () hW (rfl) dX1_slot_21
        · exfalso
          omega
set_option maxHeartbeats 4000000 in
set_option maxRecDepth 100000 in
theorem cm_weigh_y (l : Launch) (D : va_G) (cI cL : ClassId) (am : Nat → Nat) (S K n iz dz tp bt : Nat) (w ro wa ch al fr : Nat → Nat) (ka : Nat) (kb : Nat) (kc : Nat) (v : Nat) (hV : mq_V S K n w ro) (hk : xq_kr S K ka kb kc) (hv9 : v ≤ 9) : xt_M l yX1_weigh cX1_weigh 6 (some .boolean) 2 D cI cL [.ref (am 0), .int (nI ka), .int (nI kb), .int (nI kc), .int (nI v)] (xM am cI cL S K n iz dz tp bt w ro wa ch al fr) (xt_Qi D cI cL (xM am cI cL S K n iz dz tp bt w ro wa ch al fr) (fun (r : Int32) (u : Unit) => r = nI 1) (fun u => xM am cI cL S K n iz dz tp bt (va_up w (mq_sl ka kb kc) v) ro wa ch al fr)) := by
  obtain ⟨hS0, hS3, hK0, hK4, hn6, hw, hsK⟩ := hV
  have hsy : ∀ p, p < n → ro p < 4 := fun p h => Nat.lt_of_lt_of_le (hsK p h) hK4
  have hku := hk; unfold xq_kr at hku
  have hslb := mq_slb hS3 hK4 hk
  refine xt_start (own := RX1) rfl (by decide) (Nat.le_of_ble_eq_true rfl) (fun pg ev ss mi args below meth cd A Q ls C hE hA hl hW => ?_)
  replace hl : lv_has ls 6 [(0, .ref (am 0)), (1, .int (nI ka)), (2, .int (nI kb)), (3, .int (nI kc)), (4, .int (nI v))] := hl
  refine lv_aload_n C.1 C.2.1 dX1_weigh_0 rfl (lv_at hl 0 rfl) ?_
  refine lv_iload_n C.1 C.2.1 dX1_weigh_1 rfl (lv_at hl 1 rfl) ?_
  refine lv_iload_n C.1 C.2.1 dX1_weigh_2 rfl (lv_at hl 2 rfl) ?_
  refine lv_iload_n C.1 C.2.1 dX1_weigh_3 rfl (lv_at hl 3 rfl) ?_
  refine xt_ci hA hW (xt_runV C hW.1 hW.2.1 cwX1_X1_slot (cm_slot_y l D cI cL am S K n iz dz tp bt w ro wa ch al fr ka kb kc (by omega) (by omega) (hk)) rfl rfl rfl hl.1 (rest := []) rfl (Nat.le_of_ble_eq_true rfl) ⟨(Nat.le_of_ble_eq_true rfl), (Nat.le_of_ble_eq_true rfl)⟩ ⟨Nat.zero_le _, Nat.zero_le _⟩ dX1_weigh_4) (fun r4 u H locs hp4 hW => ?_)
  replace hW : xt_W D A ss.heap (xM am cI cL S K n iz dz tp bt w ro wa ch al fr) H locs := hW
  subst hp4
  refine lv_istore C.1 C.2.1 dX1_weigh_7 hl (by decide) rfl (fun ls hl => ?_)
  replace hl : lv_has ls 6 [(5, .int (nI (mq_sl ka kb kc))), (0, .ref (am 0)), (1, .int (nI ka)), (2, .int (nI kb)), (3, .int (nI kc)), (4, .int (nI v))] := hl
  refine lv_iload C.1 C.2.1 dX1_weigh_9 (lv_at hl 0 rfl) ?_
  refine xt_if_lt C (by omega) dX1_weigh_11 (tgt := 26) (by decide) ?_
  refine lv_iload C.1 C.2.1 dX1_weigh_14 (lv_at hl 5 rfl) ?_
  refine xt_if_lt C (by omega) dX1_weigh_16 (tgt := 26) (by decide) ?_
  refine lv_iload C.1 C.2.1 dX1_weigh_19 (lv_at hl 5 rfl) ?_
  refine xt_bipush C 9 dX1_weigh_21 (by decide +kernel) ?_
  refine W.eq (g2 := F0 mi 23 ls [.int (nI 9), .int (nI v)]) rfl ?_
  refine xt_icmp_le C (by omega) (by omega) dX1_weigh_23 (tgt := 28) (by decide) (fun h23 => ?_) (fun h23 => ?_)
  · refine lv_aload_n C.1 C.2.1 dX1_weigh_28 rfl (lv_at hl 1 rfl) ?_
    refine xt_get xt_inX1 C hW 0 rfl rfl 2 (by decide) rfl flX1_weights rfl dX1_weigh_29 ?_
    refine lv_iload C.1 C.2.1 dX1_weigh_32 (lv_at hl 0 rfl) ?_
    refine lv_iload C.1 C.2.1 dX1_weigh_34 (lv_at hl 5 rfl) ?_
    refine xt_iast C hW 1 rfl (by decide) dX1_weigh_36 (by omega) (fun H locs hW => ?_)
    replace hW : xt_W D A ss.heap (xM am cI cL S K n iz dz tp bt (va_up w (mq_sl ka kb kc) v) ro wa ch al fr) H locs := hW
    refine xt_iconst C 1 dX1_weigh_37 (by decide +kernel) ?_
    exact xt_zret C hE () hW (by first | exact Or.inl rfl | exact Or.inr rfl) (rfl) dX1_weigh_38
  · exfalso
    omega
set_option maxHeartbeats 4000000 in
set_option maxRecDepth 100000 in
theorem cm_weigh_n (l : Launch) (D : va_G) (cI cL : ClassId) (am : Nat → Nat) (S K n iz dz tp bt : Nat) (w ro wa ch al fr : Nat → Nat) (kd : Int32) (ro2 : Int32) (co : Int32) (x : Int32) (hV : mq_V S K n w ro) (hno : ¬ ((∃ a b c, xt_ok S K kd ro2 co a b c) ∧ ∃ v, v ≤ 9 ∧ x = nI v)) : xt_M l yX1_weigh cX1_weigh 6 (some .boolean) 2 D cI cL [.ref (am 0), .int kd, .int ro2, .int co, .int x] (xM am cI cL S K n iz dz tp bt w ro wa ch al fr) (xt_Qi D cI cL (xM am cI cL S K n iz dz tp bt w ro wa ch al fr) (fun (r : Int32) (u : Unit) => r = nI 0) (fun u => xM am cI cL S K n iz dz tp bt w ro wa ch al fr)) := by
  obtain ⟨hS0, hS3, hK0, hK4, hn6, hw, hsK⟩ := hV
  have hsy : ∀ p, p < n → ro p < 4 := fun p h => Nat.lt_of_lt_of_le (hsK p h) hK4
  refine xt_start (own := RX1) rfl (by decide) (Nat.le_of_ble_eq_true rfl) (fun pg ev ss mi args below meth cd A Q ls C hE hA hl hW => ?_)
  replace hl : lv_has ls 6 [(0, .ref (am 0)), (1, .int kd), (2, .int ro2), (3, .int co), (4, .int x)] := hl
  by_cases hyes : ∃ a b c, xt_ok S K kd ro2 co a b c
  · obtain ⟨ka, kb, kc, rfl, rfl, rfl, hk⟩ := hyes
    replace hl : lv_has ls 6 [(0, .ref (am 0)), (1, .int (nI ka)), (2, .int (nI kb)), (3, .int (nI kc)), (4, .int x)] := hl
    refine lv_aload_n C.1 C.2.1 dX1_weigh_0 rfl (lv_at hl 0 rfl) ?_
    refine lv_iload_n C.1 C.2.1 dX1_weigh_1 rfl (lv_at hl 1 rfl) ?_
    refine lv_iload_n C.1 C.2.1 dX1_weigh_2 rfl (lv_at hl 2 rfl) ?_
    refine lv_iload_n C.1 C.2.1 dX1_weigh_3 rfl (lv_at hl 3 rfl) ?_
    refine xt_ci hA hW (xt_runV C hW.1 hW.2.1 cwX1_X1_slot (cm_slot_y l D cI cL am S K n iz dz tp bt w ro wa ch al fr ka kb kc (by omega) (by omega) (hk)) rfl rfl rfl hl.1 (rest := []) rfl (Nat.le_of_ble_eq_true rfl) ⟨(Nat.le_of_ble_eq_true rfl), (Nat.le_of_ble_eq_true rfl)⟩ ⟨Nat.zero_le _, Nat.zero_le _⟩ dX1_weigh_4) (fun r4 u H locs hp4 hW => ?_)
    replace hW : xt_W D A ss.heap (xM am cI cL S K n iz dz tp bt w ro wa ch al fr) H locs := hW
    subst hp4
    refine lv_istore C.1 C.2.1 dX1_weigh_7 hl (by decide) rfl (fun ls hl => ?_)
    replace hl : lv_has ls 6 [(5, .int (nI (mq_sl ka kb kc))), (0, .ref (am 0)), (1, .int (nI ka)), (2, .int (nI kb)), (3, .int (nI kc)), (4, .int x)] := hl
    refine lv_iload C.1 C.2.1 dX1_weigh_9 (lv_at hl 0 rfl) ?_
    refine xt_if_lt C (by have := mq_slb hS3 hK4 hk; omega) dX1_weigh_11 (tgt := 26) (by decide) ?_
    refine lv_iload C.1 C.2.1 dX1_weigh_14 (lv_at hl 5 rfl) ?_
    refine lv_if_lt C.1 C.2.1 dX1_weigh_16 (tgt := 26) (by decide) (fun h16 => ?_) (fun h16 => ?_)
    · refine xt_iconst C 0 dX1_weigh_26 (by decide +kernel) ?_
      exact xt_zret C hE () hW (by first | exact Or.inl rfl | exact Or.inr rfl) (rfl) dX1_weigh_27
    · refine lv_iload C.1 C.2.1 dX1_weigh_19 (lv_at hl 5 rfl) ?_
      refine xt_bipush C 9 dX1_weigh_21 (by decide +kernel) ?_
      refine lv_icmp_le C.1 C.2.1 dX1_weigh_23 (tgt := 28) (by decide) (fun h23 => ?_) (fun h23 => ?_)
      · exfalso
        exact hno ⟨⟨ka, kb, kc, rfl, rfl, rfl, hk⟩, xq_le (by omega) h16 h23⟩
      · refine xt_iconst C 0 dX1_weigh_26 (by decide +kernel) ?_
        exact xt_zret C hE () hW (by first | exact Or.inl rfl | exact Or.inr rfl) (rfl) dX1_weigh_27
  · refine lv_aload_n C.1 C.2.1 dX1_weigh_0 rfl (lv_at hl 0 rfl) ?_
    refine lv_iload_n C.1 C.2.1 dX1_weigh_1 rfl (lv_at hl 1 rfl) ?_
    refine lv_iload_n C.1 C.2.1 dX1_weigh_2 rfl (lv_at hl 2 rfl) ?_
    refine lv_iload_n C.1 C.2.1 dX1_weigh_3 rfl (lv_at hl 3 rfl) ?_
    refine xt_ci hA hW (xt_runV C hW.1 hW.2.1 cwX1_X1_slot (cm_slot_n l D cI cL am S K n iz dz tp bt w ro wa ch al fr kd ro2 co (by omega) (by omega) (hyes)) rfl rfl rfl hl.1 (rest := []) rfl (Nat.le_of_ble_eq_true rfl) ⟨(Nat.le_of_ble_eq_true rfl), (Nat.le_of_ble_eq_true rfl)⟩ ⟨Nat.zero_le _, Nat.zero_le _⟩ dX1_weigh_4) (fun r4 u H locs hp4 hW => ?_)
    replace hW : xt_W D A ss.heap (xM am cI cL S K n iz dz tp bt w ro wa ch al fr) H locs := hW
    subst hp4
    refine lv_istore C.1 C.2.1 dX1_weigh_7 hl (by decide) rfl (fun ls hl => ?_)
    replace hl : lv_has ls 6 [(5, .int (-1)), (0, .ref (am 0)), (1, .int kd), (2, .int ro2), (3, .int co), (4, .int x)] := hl
    refine lv_iload C.1 C.2.1 dX1_weigh_9 (lv_at hl 0 rfl) ?_
    refine lv_if_lt C.1 C.2.1 dX1_weigh_11 (tgt := 26) (by decide) (fun h11 => ?_) (fun h11 => ?_)
    · refine xt_iconst C 0 dX1_weigh_26 (by decide +kernel) ?_
      exact xt_zret C hE () hW (by first | exact Or.inl rfl | exact Or.inr rfl) (rfl) dX1_weigh_27
    · exfalso
      exact h11 (by decide)
set_option maxHeartbeats 4000000 in
set_option maxRecDepth 100000 in
theorem cm_weight_y (l : Launch) (D : va_G) (cI cL : ClassId) (am : Nat → Nat) (S K n iz dz tp bt : Nat) (w ro wa ch al fr : Nat → Nat) (ka : Nat) (kb : Nat) (kc : Nat) (hV : mq_V S K n w ro) (hk : xq_kr S K ka kb kc) : xt_M l yX1_weight cX1_weight 5 (some .int) 2 D cI cL [.ref (am 0), .int (nI ka), .int (nI kb), .int (nI kc)] (xM am cI cL S K n iz dz tp bt w ro wa ch al fr) (xt_Qi D cI cL (xM am cI cL S K n iz dz tp bt w ro wa ch al fr) (fun (r : Int32) (u : Unit) => r = nI (w (mq_sl ka kb kc))) (fun u => xM am cI cL S K n iz dz tp bt w ro wa ch al fr)) := by
  obtain ⟨hS0, hS3, hK0, hK4, hn6, hw, hsK⟩ := hV
  have hsy : ∀ p, p < n → ro p < 4 := fun p h => Nat.lt_of_lt_of_le (hsK p h) hK4
  have hku := hk; unfold xq_kr at hku
  have hslb := mq_slb hS3 hK4 hk
  refine xt_start (own := RX1) rfl (by decide) (Nat.le_of_ble_eq_true rfl) (fun pg ev ss mi args below meth cd A Q ls C hE hA hl hW => ?_)
  replace hl : lv_has ls 5 [(0, .ref (am 0)), (1, .int (nI ka)), (2, .int (nI kb)), (3, .int (nI kc))] := hl
  refine lv_aload_n C.1 C.2.1 dX1_weight_0 rfl (lv_at hl 0 rfl) ?_
  refine lv_iload_n C.1 C.2.1 dX1_weight_1 rfl (lv_at hl 1 rfl) ?_
  refine lv_iload_n C.1 C.2.1 dX1_weight_2 rfl (lv_at hl 2 rfl) ?_
  refine lv_iload_n C.1 C.2.1 dX1_weight_3 rfl (lv_at hl 3 rfl) ?_
  refine xt_ci hA hW (xt_runV C hW.1 hW.2.1 cwX1_X1_slot (cm_slot_y l D cI cL am S K n iz dz tp bt w ro wa ch al fr ka kb kc (by omega) (by omega) (hk)) rfl rfl rfl hl.1 (rest := []) rfl (Nat.le_of_ble_eq_true rfl) ⟨(Nat.le_of_ble_eq_true rfl), (Nat.le_of_ble_eq_true rfl)⟩ ⟨Nat.zero_le _, Nat.zero_le _⟩ dX1_weight_4) (fun r4 u H locs hp4 hW => ?_)
  replace hW : xt_W D A ss.heap (xM am cI cL S K n iz dz tp bt w ro wa ch al fr) H locs := hW
  subst hp4
  refine lv_istore C.1 C.2.1 dX1_weight_7 hl (by decide) rfl (fun ls hl => ?_)
  replace hl : lv_has ls 5 [(4, .int (nI (mq_sl ka kb kc))), (0, .ref (am 0)), (1, .int (nI ka)), (2, .int (nI kb)), (3, .int (nI kc))] := hl
  refine lv_iload C.1 C.2.1 dX1_weight_9 (lv_at hl 0 rfl) ?_
  refine xt_if_ge C (by omega) dX1_weight_11 (tgt := 18) (by decide) ?_
  refine lv_aload_n C.1 C.2.1 dX1_weight_18 rfl (lv_at hl 1 rfl) ?_
  refine xt_get xt_inX1 C hW 0 rfl rfl 2 (by decide) rfl flX1_weights rfl dX1_weight_19 ?_
  refine lv_iload C.1 C.2.1 dX1_weight_22 (lv_at hl 0 rfl) ?_
  refine xt_iald C hW 1 rfl (by decide) dX1_weight_24 (by omega) ?_
  refine W.eq (g2 := F0 mi 25 ls [.int (nI (w (mq_sl ka kb kc)))]) rfl ?_
  exact xt_iret C hE () hW (rfl) dX1_weight_25
set_option maxHeartbeats 4000000 in
set_option maxRecDepth 100000 in
theorem cm_weight_n (l : Launch) (D : va_G) (cI cL : ClassId) (am : Nat → Nat) (S K n iz dz tp bt : Nat) (w ro wa ch al fr : Nat → Nat) (kd : Int32) (ro2 : Int32) (co : Int32) (hV : mq_V S K n w ro) (hno : ¬ ∃ a b c, xt_ok S K kd ro2 co a b c) : xt_M l yX1_weight cX1_weight 5 (some .int) 2 D cI cL [.ref (am 0), .int kd, .int ro2, .int co] (xM am cI cL S K n iz dz tp bt w ro wa ch al fr) (xt_Qi D cI cL (xM am cI cL S K n iz dz tp bt w ro wa ch al fr) (fun (r : Int32) (u : Unit) => r =  (-1)) (fun u => xM am cI cL S K n iz dz tp bt w ro wa ch al fr)) := by
  obtain ⟨hS0, hS3, hK0, hK4, hn6, hw, hsK⟩ := hV
  have hsy : ∀ p, p < n → ro p < 4 := fun p h => Nat.lt_of_lt_of_le (hsK p h) hK4
  refine xt_start (own := RX1) rfl (by decide) (Nat.le_of_ble_eq_true rfl) (fun pg ev ss mi args below meth cd A Q ls C hE hA hl hW => ?_)
  replace hl : lv_has ls 5 [(0, .ref (am 0)), (1, .int kd), (2, .int ro2), (3, .int co)] := hl
  refine lv_aload_n C.1 C.2.1 dX1_weight_0 rfl (lv_at hl 0 rfl) ?_
  refine lv_iload_n C.1 C.2.1 dX1_weight_1 rfl (lv_at hl 1 rfl) ?_
  refine lv_iload_n C.1 C.2.1 dX1_weight_2 rfl (lv_at hl 2 rfl) ?_
  refine lv_iload_n C.1 C.2.1 dX1_weight_3 rfl (lv_at hl 3 rfl) ?_
  refine xt_ci hA hW (xt_runV C hW.1 hW.2.1 cwX1_X1_slot (cm_slot_n l D cI cL am S K n iz dz tp bt w ro wa ch al fr kd ro2 co (by omega) (by omega) (hno)) rfl rfl rfl hl.1 (rest := []) rfl (Nat.le_of_ble_eq_true rfl) ⟨(Nat.le_of_ble_eq_true rfl), (Nat.le_of_ble_eq_true rfl)⟩ ⟨Nat.zero_le _, Nat.zero_le _⟩ dX1_weight_4) (fun r4 u H locs hp4 hW => ?_)
  replace hW : xt_W D A ss.heap (xM am cI cL S K n iz dz tp bt w ro wa ch al fr) H locs := hW
  subst hp4
  refine lv_istore C.1 C.2.1 dX1_weight_7 hl (by decide) rfl (fun ls hl => ?_)
  replace hl : lv_has ls 5 [(4, .int (-1)), (0, .ref (am 0)), (1, .int kd), (2, .int ro2), (3, .int co)] := hl
  refine lv_iload C.1 C.2.1 dX1_weight_9 (lv_at hl 0 rfl) ?_
  refine lv_if_ge C.1 C.2.1 dX1_weight_11 (tgt := 18) (by decide) (fun h11 => ?_) (fun h11 => ?_)
  · exfalso
    exact absurd h11 (by decide)
  · refine lv_iconst (v := -1) C.1 C.2.1 dX1_weight_14 (by decide +kernel) ?_
    refine lv_goto C.1 C.2.1 dX1_weight_15 (tgt := 25) (by decide) ?_
    exact xt_iret C hE () hW (rfl) dX1_weight_25
set_option maxHeartbeats 4000000 in
set_option maxRecDepth 100000 in
theorem cm_see_y (l : Launch) (D : va_G) (cI cL : ClassId) (am : Nat → Nat) (S K n iz dz tp bt : Nat) (w ro wa ch al fr : Nat → Nat) (k : Nat) (hV : mq_V S K n w ro) (hkK : k < K) (hnn : n < 6) : xt_M l yX1_see cX1_see 2 (some .int) 1 D cI cL [.ref (am 0), .int (nI k)] (xM am cI cL S K n iz dz tp bt w ro wa ch al fr) (xt_Qi D cI cL (xM am cI cL S K n iz dz tp bt w ro wa ch al fr) (fun (r : Int32) (u : Unit) => r = nI (n + 1)) (fun u => xM am cI cL S K (n + 1) iz dz tp bt w (va_up ro n k) wa ch al fr)) := by
  obtain ⟨hS0, hS3, hK0, hK4, hn6, hw, hsK⟩ := hV
  have hsy : ∀ p, p < n → ro p < 4 := fun p h => Nat.lt_of_lt_of_le (hsK p h) hK4
  refine xt_start (own := RX1) rfl (by decide) (Nat.le_of_ble_eq_true rfl) (fun pg ev ss mi args below meth cd A Q ls C hE hA hl hW => ?_)
  replace hl : lv_has ls 2 [(0, .ref (am 0)), (1, .int (nI k))] := hl
  refine lv_aload_n C.1 C.2.1 dX1_see_0 rfl (lv_at hl 0 rfl) ?_
  refine lv_iload_n C.1 C.2.1 dX1_see_1 rfl (lv_at hl 1 rfl) ?_
  refine xt_ci hA hW (xt_runV C hW.1 hW.2.1 cwX1_X1_isSymbol (cm_isSymbol l D cI cL am S K n iz dz tp bt w ro wa ch al fr (nI k) (by omega)) rfl rfl rfl hl.1 (rest := []) rfl (Nat.le_of_ble_eq_true rfl) ⟨(Nat.le_of_ble_eq_true rfl), (Nat.le_of_ble_eq_true rfl)⟩ ⟨Nat.zero_le _, Nat.zero_le _⟩ dX1_see_2) (fun r2 u H locs hp2 hW => ?_)
  replace hW : xt_W D A ss.heap (xM am cI cL S K n iz dz tp bt w ro wa ch al fr) H locs := hW
  replace hp2 : (r2 = nI 1 ∧ ∃ z1, z1 < K ∧ (nI k) = nI z1) ∨ (r2 = nI 0 ∧ ¬ ∃ z1, z1 < K ∧ (nI k) = nI z1) := hp2
  rcases hp2 with ⟨rfl, -⟩ | ⟨-, hno⟩
  · replace hl : lv_has ls 2 [(0, .ref (am 0)), (1, .int (nI k))] := hl
    refine xt_if_eq C (by omega) dX1_see_5 (tgt := 17) (by decide) (fun h5 => ?_) (fun h5 => ?_)
    · exfalso
      omega
    · refine lv_aload_n C.1 C.2.1 dX1_see_8 rfl (lv_at hl 0 rfl) ?_
      refine xt_get xt_inX1 C hW 0 rfl rfl 3 (by decide) rfl flX1_n rfl dX1_see_9 ?_
      refine xt_bipush C 6 dX1_see_12 (by decide +kernel) ?_
      refine xt_icmp_ne C (by omega) (by omega) dX1_see_14 (tgt := 19) (by decide) (fun h14 => ?_) (fun h14 => ?_)
      · refine lv_aload_n C.1 C.2.1 dX1_see_19 rfl (lv_at hl 0 rfl) ?_
        refine xt_get xt_inX1 C hW 0 rfl rfl 4 (by decide) rfl flX1_row rfl dX1_see_20 ?_
        refine lv_aload_n C.1 C.2.1 dX1_see_23 rfl (lv_at hl 0 rfl) ?_
        refine xt_get xt_inX1 C hW 0 rfl rfl 3 (by decide) rfl flX1_n rfl dX1_see_24 ?_
        refine lv_iload_n C.1 C.2.1 dX1_see_27 rfl (lv_at hl 1 rfl) ?_
        refine xt_iast C hW 2 rfl (by decide) dX1_see_28 (by omega) (fun H locs hW => ?_)
        replace hW : xt_W D A ss.heap (xM am cI cL S K n iz dz tp bt w (va_up ro n k) wa ch al fr) H locs := hW
        refine lv_aload_n C.1 C.2.1 dX1_see_29 rfl (lv_at hl 0 rfl) ?_
        refine lv_dup C.1 C.2.1 dX1_see_30 rfl ?_
        refine xt_get xt_inX1 C hW 0 rfl rfl 3 (by decide) rfl flX1_n rfl dX1_see_31 ?_
        refine xt_iconst C 1 dX1_see_34 (by decide +kernel) ?_
        refine xt_iadd C dX1_see_35 ?_
        refine xt_put (ty := .int) xt_inX1 tyX1 tyX1_ok nmX1 C hW 0 rfl rfl 3 (by decide) rfl flX1_n rfl (by decide +kernel) rfl rfl (Nat.le_of_ble_eq_true rfl) dX1_see_36 (fun H locs hW => ?_)
        replace hW : xt_W D A ss.heap (xM am cI cL S K (n + 1) iz dz tp bt w (va_up ro n k) wa ch al fr) H locs := hW
        refine W.eq (g2 := F0 mi 39 ls []) rfl ?_
        refine lv_aload_n C.1 C.2.1 dX1_see_39 rfl (lv_at hl 0 rfl) ?_
        refine xt_get xt_inX1 C hW 0 rfl rfl 3 (by decide) rfl flX1_n rfl dX1_see_40 ?_
        exact xt_iret C hE () hW (rfl) dX1_see_43
      · exfalso
        omega
  · exact absurd (⟨k, by omega, rfl⟩) hno
set_option maxHeartbeats 4000000 in
set_option maxRecDepth 100000 in
theorem cm_see_n (l : Launch) (D : va_G) (cI cL : ClassId) (am : Nat → Nat) (S K n iz dz tp bt : Nat) (w ro wa ch al fr : Nat → Nat) (q : Int32) (hV : mq_V S K n w ro) (hno : ¬ ((∃ j, j < K ∧ q = nI j) ∧ n < 6)) : xt_M l yX1_see cX1_see 2 (some .int) 1 D cI cL [.ref (am 0), .int q] (xM am cI cL S K n iz dz tp bt w ro wa ch al fr) (xt_Qi D cI cL (xM am cI cL S K n iz dz tp bt w ro wa ch al fr) (fun (r : Int32) (u : Unit) => r =  (-1)) (fun u => xM am cI cL S K n iz dz tp bt w ro wa ch al fr)) := by
  obtain ⟨hS0, hS3, hK0, hK4, hn6, hw, hsK⟩ := hV
  have hsy : ∀ p, p < n → ro p < 4 := fun p h => Nat.lt_of_lt_of_le (hsK p h) hK4
  refine xt_start (own := RX1) rfl (by decide) (Nat.le_of_ble_eq_true rfl) (fun pg ev ss mi args below meth cd A Q ls C hE hA hl hW => ?_)
  replace hl : lv_has ls 2 [(0, .ref (am 0)), (1, .int q)] := hl
  refine lv_aload_n C.1 C.2.1 dX1_see_0 rfl (lv_at hl 0 rfl) ?_
  refine lv_iload_n C.1 C.2.1 dX1_see_1 rfl (lv_at hl 1 rfl) ?_
  refine xt_ci hA hW (xt_runV C hW.1 hW.2.1 cwX1_X1_isSymbol (cm_isSymbol l D cI cL am S K n iz dz tp bt w ro wa ch al fr q (by omega)) rfl rfl rfl hl.1 (rest := []) rfl (Nat.le_of_ble_eq_true rfl) ⟨(Nat.le_of_ble_eq_true rfl), (Nat.le_of_ble_eq_true rfl)⟩ ⟨Nat.zero_le _, Nat.zero_le _⟩ dX1_see_2) (fun r2 u H locs hp2 hW => ?_)
  replace hW : xt_W D A ss.heap (xM am cI cL S K n iz dz tp bt w ro wa ch al fr) H locs := hW
  replace hp2 : (r2 = nI 1 ∧ ∃ z1, z1 < K ∧ q = nI z1) ∨ (r2 = nI 0 ∧ ¬ ∃ z1, z1 < K ∧ q = nI z1) := hp2
  rcases hp2 with ⟨rfl, hy1⟩ | ⟨rfl, -⟩
  · replace hl : lv_has ls 2 [(0, .ref (am 0)), (1, .int q)] := hl
    refine xt_if_eq C (by omega) dX1_see_5 (tgt := 17) (by decide) (fun h5 => ?_) (fun h5 => ?_)
    · exfalso
      omega
    · refine lv_aload_n C.1 C.2.1 dX1_see_8 rfl (lv_at hl 0 rfl) ?_
      refine xt_get xt_inX1 C hW 0 rfl rfl 3 (by decide) rfl flX1_n rfl dX1_see_9 ?_
      refine xt_bipush C 6 dX1_see_12 (by decide +kernel) ?_
      refine xt_icmp_ne C (by omega) (by omega) dX1_see_14 (tgt := 19) (by decide) (fun h14 => ?_) (fun h14 => ?_)
      · exfalso
        exact hno ⟨hy1, by omega⟩
      · refine lv_iconst (v := -1) C.1 C.2.1 dX1_see_17 (by decide +kernel) ?_
        exact xt_iret C hE () hW (rfl) dX1_see_18
  · replace hl : lv_has ls 2 [(0, .ref (am 0)), (1, .int q)] := hl
    refine xt_if_eq C (by omega) dX1_see_5 (tgt := 17) (by decide) (fun h5 => ?_) (fun h5 => ?_)
    · refine lv_iconst (v := -1) C.1 C.2.1 dX1_see_17 (by decide +kernel) ?_
      exact xt_iret C hE () hW (rfl) dX1_see_18
    · exfalso
      omega
set_option maxHeartbeats 4000000 in
set_option maxRecDepth 100000 in
theorem cm_forget_y (l : Launch) (D : va_G) (cI cL : ClassId) (am : Nat → Nat) (S K n iz dz tp bt : Nat) (w ro wa ch al fr : Nat → Nat) (j : Nat) (hV : mq_V S K n w ro) (hjn : j ≤ n) : xt_M l yX1_forget cX1_forget 3 (some .int) 0 D cI cL [.ref (am 0), .int (nI j)] (xM am cI cL S K n iz dz tp bt w ro wa ch al fr) (xt_Qi D cI cL (xM am cI cL S K n iz dz tp bt w ro wa ch al fr) (fun (r : Int32) (u : Unit) => r = nI (n - j)) (fun u => xM am cI cL S K j iz dz tp bt w ro wa ch al fr)) := by
  obtain ⟨hS0, hS3, hK0, hK4, hn6, hw, hsK⟩ := hV
  have hsy : ∀ p, p < n → ro p < 4 := fun p h => Nat.lt_of_lt_of_le (hsK p h) hK4
  refine xt_start (own := RX1) rfl (by decide) (Nat.le_of_ble_eq_true rfl) (fun pg ev ss mi args below meth cd A Q ls C hE hA hl hW => ?_)
  replace hl : lv_has ls 3 [(0, .ref (am 0)), (1, .int (nI j))] := hl
  refine lv_iload_n C.1 C.2.1 dX1_forget_0 rfl (lv_at hl 1 rfl) ?_
  refine xt_if_lt C (by omega) dX1_forget_1 (tgt := 12) (by decide) ?_
  refine lv_iload_n C.1 C.2.1 dX1_forget_4 rfl (lv_at hl 1 rfl) ?_
  refine lv_aload_n C.1 C.2.1 dX1_forget_5 rfl (lv_at hl 0 rfl) ?_
  refine xt_get xt_inX1 C hW 0 rfl rfl 3 (by decide) rfl flX1_n rfl dX1_forget_6 ?_
  refine xt_icmp_le C (by omega) (by omega) dX1_forget_9 (tgt := 14) (by decide) (fun h9 => ?_) (fun h9 => ?_)
  · refine lv_aload_n C.1 C.2.1 dX1_forget_14 rfl (lv_at hl 0 rfl) ?_
    refine xt_get xt_inX1 C hW 0 rfl rfl 3 (by decide) rfl flX1_n rfl dX1_forget_15 ?_
    refine lv_iload_n C.1 C.2.1 dX1_forget_18 rfl (lv_at hl 1 rfl) ?_
    refine xt_isub C dX1_forget_19 (by omega) ?_
    refine lv_istore_n C.1 C.2.1 dX1_forget_20 rfl hl (by decide) rfl (fun ls hl => ?_)
    replace hl : lv_has ls 3 [(2, .int (nI (n - j))), (0, .ref (am 0)), (1, .int (nI j))] := hl
    refine lv_aload_n C.1 C.2.1 dX1_forget_21 rfl (lv_at hl 1 rfl) ?_
    refine lv_iload_n C.1 C.2.1 dX1_forget_22 rfl (lv_at hl 2 rfl) ?_
    refine xt_put (ty := .int) xt_inX1 tyX1 tyX1_ok nmX1 C hW 0 rfl rfl 3 (by decide) rfl flX1_n rfl (by decide +kernel) rfl rfl (Nat.le_of_ble_eq_true rfl) dX1_forget_23 (fun H locs hW => ?_)
    replace hW : xt_W D A ss.heap (xM am cI cL S K j iz dz tp bt w ro wa ch al fr) H locs := hW
    refine lv_iload_n C.1 C.2.1 dX1_forget_26 rfl (lv_at hl 0 rfl) ?_
    exact xt_iret C hE () hW (rfl) dX1_forget_27
  · exfalso
    omega
set_option maxHeartbeats 4000000 in
set_option maxRecDepth 100000 in
theorem cm_forget_n (l : Launch) (D : va_G) (cI cL : ClassId) (am : Nat → Nat) (S K n iz dz tp bt : Nat) (w ro wa ch al fr : Nat → Nat) (q : Int32) (hV : mq_V S K n w ro) (hno : ¬ ∃ j, j ≤ n ∧ q = nI j) : xt_M l yX1_forget cX1_forget 3 (some .int) 0 D cI cL [.ref (am 0), .int q] (xM am cI cL S K n iz dz tp bt w ro wa ch al fr) (xt_Qi D cI cL (xM am cI cL S K n iz dz tp bt w ro wa ch al fr) (fun (r : Int32) (u : Unit) => r =  (-1)) (fun u => xM am cI cL S K n iz dz tp bt w ro wa ch al fr)) := by
  obtain ⟨hS0, hS3, hK0, hK4, hn6, hw, hsK⟩ := hV
  have hsy : ∀ p, p < n → ro p < 4 := fun p h => Nat.lt_of_lt_of_le (hsK p h) hK4
  refine xt_start (own := RX1) rfl (by decide) (Nat.le_of_ble_eq_true rfl) (fun pg ev ss mi args below meth cd A Q ls C hE hA hl hW => ?_)
  replace hl : lv_has ls 3 [(0, .ref (am 0)), (1, .int q)] := hl
  refine lv_iload_n C.1 C.2.1 dX1_forget_0 rfl (lv_at hl 1 rfl) ?_
  refine lv_if_lt C.1 C.2.1 dX1_forget_1 (tgt := 12) (by decide) (fun h1 => ?_) (fun h1 => ?_)
  · refine lv_iconst (v := -1) C.1 C.2.1 dX1_forget_12 (by decide +kernel) ?_
    exact xt_iret C hE () hW (rfl) dX1_forget_13
  · refine lv_iload_n C.1 C.2.1 dX1_forget_4 rfl (lv_at hl 1 rfl) ?_
    refine lv_aload_n C.1 C.2.1 dX1_forget_5 rfl (lv_at hl 0 rfl) ?_
    refine xt_get xt_inX1 C hW 0 rfl rfl 3 (by decide) rfl flX1_n rfl dX1_forget_6 ?_
    refine lv_icmp_le C.1 C.2.1 dX1_forget_9 (tgt := 14) (by decide) (fun h9 => ?_) (fun h9 => ?_)
    · exfalso
      exact hno (xq_le (by omega) h1 h9)
    · refine lv_iconst (v := -1) C.1 C.2.1 dX1_forget_12 (by decide +kernel) ?_
      exact xt_iret C hE () hW (rfl) dX1_forget_13
set_option maxHeartbeats 4000000 in
set_option maxRecDepth 100000 in
theorem cm_seen (l : Launch) (D : va_G) (cI cL : ClassId) (am : Nat → Nat) (S K n iz dz tp bt : Nat) (w ro wa ch al fr : Nat → Nat) : xt_M l yX1_seen cX1_seen 1 (some .int) 0 D cI cL [.ref (am 0)] (xM am cI cL S K n iz dz tp bt w ro wa ch al fr) (xt_Qi D cI cL (xM am cI cL S K n iz dz tp bt w ro wa ch al fr) (fun (r : Int32) (u : Unit) => r = nI n) (fun u => xM am cI cL S K n iz dz tp bt w ro wa ch al fr)) := by
  refine xt_start (own := RX1) rfl (by decide) (Nat.le_of_ble_eq_true rfl) (fun pg ev ss mi args below meth cd A Q ls C hE hA hl hW => ?_)
  replace hl : lv_has ls 1 [(0, .ref (am 0))] := hl
  refine lv_aload_n C.1 C.2.1 dX1_seen_0 rfl (lv_at hl 0 rfl) ?_
  refine xt_get xt_inX1 C hW 0 rfl rfl 3 (by decide) rfl flX1_n rfl dX1_seen_1 ?_
  exact xt_iret C hE () hW (rfl) dX1_seen_4
set_option maxHeartbeats 4000000 in
set_option maxRecDepth 100000 in
theorem cm_symbol_y (l : Launch) (D : va_G) (cI cL : ClassId) (am : Nat → Nat) (S K n iz dz tp bt : Nat) (w ro wa ch al fr : Nat → Nat) (j : Nat) (hV : mq_V S K n w ro) (hj : j < n) : xt_M l yX1_symbol cX1_symbol 2 (some .int) 0 D cI cL [.ref (am 0), .int (nI j)] (xM am cI cL S K n iz dz tp bt w ro wa ch al fr) (xt_Qi D cI cL (xM am cI cL S K n iz dz tp bt w ro wa ch al fr) (fun (r : Int32) (u : Unit) => r = nI (ro j)) (fun u => xM am cI cL S K n iz dz tp bt w ro wa ch al fr)) := by
  obtain ⟨hS0, hS3, hK0, hK4, hn6, hw, hsK⟩ := hV
  have hsy : ∀ p, p < n → ro p < 4 := fun p h => Nat.lt_of_lt_of_le (hsK p h) hK4
  refine xt_start (own := RX1) rfl (by decide) (Nat.le_of_ble_eq_true rfl) (fun pg ev ss mi args below meth cd A Q ls C hE hA hl hW => ?_)
  replace hl : lv_has ls 2 [(0, .ref (am 0)), (1, .int (nI j))] := hl
  refine lv_iload_n C.1 C.2.1 dX1_symbol_0 rfl (lv_at hl 1 rfl) ?_
  refine xt_if_lt C (by omega) dX1_symbol_1 (tgt := 12) (by decide) ?_
  refine lv_iload_n C.1 C.2.1 dX1_symbol_4 rfl (lv_at hl 1 rfl) ?_
  refine lv_aload_n C.1 C.2.1 dX1_symbol_5 rfl (lv_at hl 0 rfl) ?_
  refine xt_get xt_inX1 C hW 0 rfl rfl 3 (by decide) rfl flX1_n rfl dX1_symbol_6 ?_
  refine xt_icmp_lt C (by omega) (by omega) dX1_symbol_9 (tgt := 16) (by decide) (fun h9 => ?_) (fun h9 => ?_)
  · refine lv_aload_n C.1 C.2.1 dX1_symbol_16 rfl (lv_at hl 0 rfl) ?_
    refine xt_get xt_inX1 C hW 0 rfl rfl 4 (by decide) rfl flX1_row rfl dX1_symbol_17 ?_
    refine lv_iload_n C.1 C.2.1 dX1_symbol_20 rfl (lv_at hl 1 rfl) ?_
    refine xt_iald C hW 2 rfl (by decide) dX1_symbol_21 (by omega) ?_
    exact xt_iret C hE () hW (rfl) dX1_symbol_22
  · exfalso
    omega
set_option maxHeartbeats 4000000 in
set_option maxRecDepth 100000 in
theorem cm_symbol_n (l : Launch) (D : va_G) (cI cL : ClassId) (am : Nat → Nat) (S K n iz dz tp bt : Nat) (w ro wa ch al fr : Nat → Nat) (q : Int32) (hV : mq_V S K n w ro) (hno : ¬ ∃ j, j < n ∧ q = nI j) : xt_M l yX1_symbol cX1_symbol 2 (some .int) 0 D cI cL [.ref (am 0), .int q] (xM am cI cL S K n iz dz tp bt w ro wa ch al fr) (xt_Qi D cI cL (xM am cI cL S K n iz dz tp bt w ro wa ch al fr) (fun (r : Int32) (u : Unit) => r =  (-1)) (fun u => xM am cI cL S K n iz dz tp bt w ro wa ch al fr)) := by
  obtain ⟨hS0, hS3, hK0, hK4, hn6, hw, hsK⟩ := hV
  have hsy : ∀ p, p < n → ro p < 4 := fun p h => Nat.lt_of_lt_of_le (hsK p h) hK4
  refine xt_start (own := RX1) rfl (by decide) (Nat.le_of_ble_eq_true rfl) (fun pg ev ss mi args below meth cd A Q ls C hE hA hl hW => ?_)
  replace hl : lv_has ls 2 [(0, .ref (am 0)), (1, .int q)] := hl
  refine lv_iload_n C.1 C.2.1 dX1_symbol_0 rfl (lv_at hl 1 rfl) ?_
  refine lv_if_lt C.1 C.2.1 dX1_symbol_1 (tgt := 12) (by decide) (fun h1 => ?_) (fun h1 => ?_)
  · refine lv_iconst (v := -1) C.1 C.2.1 dX1_symbol_12 (by decide +kernel) ?_
    refine lv_goto C.1 C.2.1 dX1_symbol_13 (tgt := 22) (by decide) ?_
    exact xt_iret C hE () hW (rfl) dX1_symbol_22
  · refine lv_iload_n C.1 C.2.1 dX1_symbol_4 rfl (lv_at hl 1 rfl) ?_
    refine lv_aload_n C.1 C.2.1 dX1_symbol_5 rfl (lv_at hl 0 rfl) ?_
    refine xt_get xt_inX1 C hW 0 rfl rfl 3 (by decide) rfl flX1_n rfl dX1_symbol_6 ?_
    refine lv_icmp_lt C.1 C.2.1 dX1_symbol_9 (tgt := 16) (by decide) (fun h9 => ?_) (fun h9 => ?_)
    · exfalso
      exact hno (xq_yes (by omega) h1 (fun q => absurd h9 (Int32.not_lt.mpr q)))
    · refine lv_iconst (v := -1) C.1 C.2.1 dX1_symbol_12 (by decide +kernel) ?_
      refine lv_goto C.1 C.2.1 dX1_symbol_13 (tgt := 22) (by decide) ?_
      exact xt_iret C hE () hW (rfl) dX1_symbol_22
set_option maxHeartbeats 4000000 in
set_option maxRecDepth 100000 in
theorem cm_drawn_y (l : Launch) (D : va_G) (cI cL : ClassId) (am : Nat → Nat) (S K n iz dz tp bt : Nat) (w ro wa ch al fr : Nat → Nat) (j : Nat) (hd6 : dz ≤ 6) (hj : j < dz) (hiz : iz = 1) : xt_M l yX1_drawn cX1_drawn 2 (some .int) 0 D cI cL [.ref (am 0), .int (nI j)] (xM am cI cL S K n iz dz tp bt w ro wa ch al fr) (xt_Qi D cI cL (xM am cI cL S K n iz dz tp bt w ro wa ch al fr) (fun (r : Int32) (u : Unit) => r = nI (ch j)) (fun u => xM am cI cL S K n iz dz tp bt w ro wa ch al fr)) := by
  refine xt_start (own := RX1) rfl (by decide) (Nat.le_of_ble_eq_true rfl) (fun pg ev ss mi args below meth cd A Q ls C hE hA hl hW => ?_)
  replace hl : lv_has ls 2 [(0, .ref (am 0)), (1, .int (nI j))] := hl
  refine lv_aload_n C.1 C.2.1 dX1_drawn_0 rfl (lv_at hl 0 rfl) ?_
  refine xt_get xt_inX1 C hW 0 rfl rfl 6 (by decide) rfl flX1_isDrawn rfl dX1_drawn_1 ?_
  refine xt_if_eq C (by omega) dX1_drawn_4 (tgt := 28) (by decide) (fun h4 => ?_) (fun h4 => ?_)
  · exfalso
    omega
  · refine lv_iload_n C.1 C.2.1 dX1_drawn_7 rfl (lv_at hl 1 rfl) ?_
    refine xt_if_lt C (by omega) dX1_drawn_8 (tgt := 28) (by decide) ?_
    refine lv_iload_n C.1 C.2.1 dX1_drawn_11 rfl (lv_at hl 1 rfl) ?_
    refine lv_aload_n C.1 C.2.1 dX1_drawn_12 rfl (lv_at hl 0 rfl) ?_
    refine xt_get xt_inX1 C hW 0 rfl rfl 7 (by decide) rfl flX1_drawnSize rfl dX1_drawn_13 ?_
    refine xt_icmp_ge C (by omega) (by omega) dX1_drawn_16 (tgt := 28) (by decide) (fun h16 => ?_) (fun h16 => ?_)
    · exfalso
      omega
    · refine lv_aload_n C.1 C.2.1 dX1_drawn_19 rfl (lv_at hl 0 rfl) ?_
      refine xt_get xt_inX1 C hW 0 rfl rfl 8 (by decide) rfl flX1_chosen rfl dX1_drawn_20 ?_
      refine lv_iload_n C.1 C.2.1 dX1_drawn_23 rfl (lv_at hl 1 rfl) ?_
      refine xt_iald C hW 4 rfl (by decide) dX1_drawn_24 (by omega) ?_
      refine lv_goto C.1 C.2.1 dX1_drawn_25 (tgt := 29) (by decide) ?_
      exact xt_iret C hE () hW (rfl) dX1_drawn_29
set_option maxHeartbeats 4000000 in
set_option maxRecDepth 100000 in
theorem cm_drawn_n (l : Launch) (D : va_G) (cI cL : ClassId) (am : Nat → Nat) (S K n iz dz tp bt : Nat) (w ro wa ch al fr : Nat → Nat) (q : Int32) (hd6 : dz ≤ 6) (hiz : iz ≤ 1) (hno : ¬ (iz = 1 ∧ ∃ j, j < dz ∧ q = nI j)) : xt_M l yX1_drawn cX1_drawn 2 (some .int) 0 D cI cL [.ref (am 0), .int q] (xM am cI cL S K n iz dz tp bt w ro wa ch al fr) (xt_Qi D cI cL (xM am cI cL S K n iz dz tp bt w ro wa ch al fr) (fun (r : Int32) (u : Unit) => r =  (-1)) (fun u => xM am cI cL S K n iz dz tp bt w ro wa ch al fr)) := by
  refine xt_start (own := RX1) rfl (by decide) (Nat.le_of_ble_eq_true rfl) (fun pg ev ss mi args below meth cd A Q ls C hE hA hl hW => ?_)
  replace hl : lv_has ls 2 [(0, .ref (am 0)), (1, .int q)] := hl
  refine lv_aload_n C.1 C.2.1 dX1_drawn_0 rfl (lv_at hl 0 rfl) ?_
  refine xt_get xt_inX1 C hW 0 rfl rfl 6 (by decide) rfl flX1_isDrawn rfl dX1_drawn_1 ?_
  refine xt_if_eq C (by omega) dX1_drawn_4 (tgt := 28) (by decide) (fun h4 => ?_) (fun h4 => ?_)
  · refine lv_iconst (v := -1) C.1 C.2.1 dX1_drawn_28 (by decide +kernel) ?_
    exact xt_iret C hE () hW (rfl) dX1_drawn_29
  · refine lv_iload_n C.1 C.2.1 dX1_drawn_7 rfl (lv_at hl 1 rfl) ?_
    refine lv_if_lt C.1 C.2.1 dX1_drawn_8 (tgt := 28) (by decide) (fun h8 => ?_) (fun h8 => ?_)
    · refine lv_iconst (v := -1) C.1 C.2.1 dX1_drawn_28 (by decide +kernel) ?_
      exact xt_iret C hE () hW (rfl) dX1_drawn_29
    · refine lv_iload_n C.1 C.2.1 dX1_drawn_11 rfl (lv_at hl 1 rfl) ?_
      refine lv_aload_n C.1 C.2.1 dX1_drawn_12 rfl (lv_at hl 0 rfl) ?_
      refine xt_get xt_inX1 C hW 0 rfl rfl 7 (by decide) rfl flX1_drawnSize rfl dX1_drawn_13 ?_
      refine lv_icmp_ge C.1 C.2.1 dX1_drawn_16 (tgt := 28) (by decide) (fun h16 => ?_) (fun h16 => ?_)
      · refine lv_iconst (v := -1) C.1 C.2.1 dX1_drawn_28 (by decide +kernel) ?_
        exact xt_iret C hE () hW (rfl) dX1_drawn_29
      · exfalso
        exact hno ⟨by omega, xq_yes (by omega) h8 h16⟩
end
section
theorem mq_spell {S k f e q : Nat} {wa wv : Nat → Nat} (hq : 0 < q) (hf : f < q) (h1 : ∀ j, q ≤ j → j < e → wv j = k / S ^ (e - 1 - j) % S) (h2 : ∀ j, ¬ (q ≤ j ∧ j < e) → wv j = wa j) (hqe : q ≤ e) :
    (∀ j, q - 1 ≤ j → j < e → va_up wv (q - 1) (k / S ^ (e - q) % S) j = k / S ^ (e - 1 - j) % S) ∧ (∀ j, ¬ (q - 1 ≤ j ∧ j < e) → va_up wv (q - 1) (k / S ^ (e - q) % S) j = wa j) := by
  refine ⟨fun j h3 h4 => ?_, fun j h3 => ?_⟩
  · by_cases c : j = q - 1
    · subst c
      rw [xq_up, show e - 1 - (q - 1) = e - q by omega]
    · rw [xq_un c]
      exact h1 j (by omega) h4
  · rw [xq_un (by omega)]
    exact h2 j (by omega)
theorem mq_div {S k e q : Nat} (hq : 0 < q) (hqe : q ≤ e) : k / S ^ (e - q) / S = k / S ^ (e - (q - 1)) := by
  rw [Nat.div_div_eq_div_mul, ← Nat.pow_succ, show (e - q).succ = e - (q - 1) by omega]
theorem mq_prs {w ro wa : Nat → Nat} {f c : Nat} (h : f + c = 0) : ms_pr (me w ro) wa f c * w (wa 0) * w (12 + 4 * wa (f + c) + ro (f + c)) = ms_pr (me w ro) wa f (c + 1) := by
  rw [ms_pr_succ, Nat.mul_assoc]
  unfold me
  rw [if_pos h, h]
theorem mq_prn {w ro wa : Nat → Nat} {f c : Nat} (h : f + c ≠ 0) : ms_pr (me w ro) wa f c * w (3 + 3 * wa (f + c - 1) + wa (f + c)) * w (12 + 4 * wa (f + c) + ro (f + c)) = ms_pr (me w ro) wa f (c + 1) := by
  rw [ms_pr_succ, Nat.mul_assoc]
  unfold me
  rw [if_neg h]
theorem mq_af {w ro wa wv : Nat → Nat} {S p k q : Nat} (h : ∀ j, 0 ≤ j ∧ j < p → wv j = k / S ^ (p - 1 - j) % S) : ms_pr (me w ro) (va_up wv p q) 0 (p + 1 - 0) = ms_af (me w ro) S p k q := by
  unfold ms_af
  rw [Nat.sub_zero]
  refine ms_pr_congr (fun j h1 _ => ?_)
  by_cases c : j = p
  · rw [c, xq_up]
    simp [ms_wa]
  · have h2 : j < p := by omega
    rw [xq_un c, h j ⟨Nat.zero_le _, h2⟩]
    simp only [ms_wa]
    rw [if_pos h2]
    rfl
theorem mq_bg {w ro wa wv : Nat → Nat} {S n p k q : Nat} (hp : p < n) (h : ∀ j, p + 1 ≤ j ∧ j < n → wv j = k / S ^ (n - 1 - j) % S) : ms_pr (me w ro) (va_up wv p q) (p + 1) (n - (p + 1)) = ms_bg (me w ro) S n p q k := by
  unfold ms_bg
  rw [show n - (p + 1) = n - 1 - p by omega]
  refine ms_pr_congr (fun j h1 h2 => ?_)
  by_cases c : j = p
  · rw [c, xq_up]
    simp [ms_wb]
  · rw [xq_un c, h j ⟨by omega, by omega⟩]
    simp only [ms_wb]
    rw [if_neg (by omega)]
theorem mq_e81 {w ro : Nat → Nat} {S n : Nat} (hw : ∀ i, i < 24 → w i ≤ 9) (hS3 : S ≤ 3) (hsy : ∀ p, p < n → ro p < 4) : ∀ p s t, p < n → s < S → t < S → me w ro p s t ≤ 81 :=
  fun p s t hp hs ht => me_le hw (by omega) (by omega) (hsy p hp)
theorem mq_wtb {w ro : Nat → Nat} {S n a : Nat} (hw : ∀ i, i < 24 → w i ≤ 9) (hS3 : S ≤ 3) (hS0 : 0 < S) (hn6 : n ≤ 6) (hsy : ∀ p, p < n → ro p < 4) : ms_wt (me w ro) S n a < 2 ^ 63 :=
  Nat.lt_of_le_of_lt (ms_wt_b hS0 hn6 (mq_e81 hw hS3 hsy)) (by decide)
theorem mq_totb {S n : Nat} {w ro : Nat → Nat} (hS0 : 0 < S) (hS3 : S ≤ 3) (hn6 : n ≤ 6) (hw : ∀ i, i < 24 → w i ≤ 9) (hsy : ∀ p, p < n → ro p < 4) : ms_sum (fun z1 => ms_wt (me w ro) S n z1) (S ^ n) < 2 ^ 63 :=
  Nat.lt_of_le_of_lt (ms_tot_le hS0 hS3 hn6 (mq_e81 hw hS3 hsy)) (by decide)
set_option maxHeartbeats 4000000 in
set_option maxRecDepth 100000 in
theorem cm_power (l : Launch) (D : va_G) (cI cL : ClassId) (am : Nat → Nat) (S K n iz dz tp bt : Nat) (w ro wa ch al fr : Nat → Nat) (p : Nat) (hp6 : p ≤ 6) : xt_M l yX1_power cX1_power 4 (some .int) 0 D cI cL [.ref (am 0), .int (nI p)] (xM am cI cL S K n iz dz tp bt w ro wa ch al fr) (xt_Qi D cI cL (xM am cI cL S K n iz dz tp bt w ro wa ch al fr) (fun (r : Int32) (u : Unit) => r = nI (S ^ p)) (fun u => xM am cI cL S K n iz dz tp bt w ro wa ch al fr)) := by
  refine xt_start (own := RX1) rfl (by decide) (Nat.le_of_ble_eq_true rfl) (fun pg ev ss mi args below meth cd A Q ls C hE hA hl hW => ?_)
  replace hl : lv_has ls 4 [(0, .ref (am 0)), (1, .int (nI p))] := hl
  refine xt_iconst C 1 dX1_power_0 (by decide +kernel) ?_
  refine lv_istore_n C.1 C.2.1 dX1_power_1 rfl hl (by decide) rfl (fun ls hl => ?_)
  replace hl : lv_has ls 4 [(2, .int (nI 1)), (0, .ref (am 0)), (1, .int (nI p))] := hl
  refine xt_iconst C 0 dX1_power_2 (by decide +kernel) ?_
  refine lv_istore_n C.1 C.2.1 dX1_power_3 rfl hl (by decide) rfl (fun ls hl => ?_)
  replace hl : lv_has ls 4 [(3, .int (nI 0)), (2, .int (nI 1)), (0, .ref (am 0)), (1, .int (nI p))] := hl
  have lp4 : ∀ (mq0 : Nat) (i : Nat), p - i = mq0 → (i ≤ p) → ∀ (ls : Array Slot) (H : Heap) (locs : List Loc), lv_has ls 4 [(3, .int (nI i)), (2, .int (nI (S ^ i))), (0, .ref (am 0)), (1, .int (nI p))] → xt_W D A ss.heap (xM am cI cL S K n iz dz tp bt w ro wa ch al fr) H locs → W pg l ev (xt_R 0) ss mi args below meth cd H locs 0 0 Q (F0 mi 4 ls []) := by
    intro mq0
    induction mq0 using Nat.strongRecOn with
    | _ mq0 ih4 =>
      intro i hq4 hi ls H locs hl hW
      refine lv_iload_n C.1 C.2.1 dX1_power_4 rfl (lv_at hl 0 rfl) ?_
      refine lv_iload_n C.1 C.2.1 dX1_power_5 rfl (lv_at hl 3 rfl) ?_
      refine xt_icmp_ge C (by omega) (by omega) dX1_power_6 (tgt := 22) (by decide) (fun h6 => ?_) (fun h6 => ?_)
      · refine lv_iload_n C.1 C.2.1 dX1_power_22 rfl (lv_at hl 1 rfl) ?_
        exact xt_iret C hE () hW (by show nI (S ^ i) = nI _; rw [show i = p by omega]) dX1_power_23
      · refine lv_iload_n C.1 C.2.1 dX1_power_9 rfl (lv_at hl 1 rfl) ?_
        refine lv_aload_n C.1 C.2.1 dX1_power_10 rfl (lv_at hl 2 rfl) ?_
        refine xt_get xt_inX1 C hW 0 rfl rfl 0 (by decide) rfl flX1_states rfl dX1_power_11 ?_
        refine xt_imul C dX1_power_14 ?_
        refine lv_istore_n C.1 C.2.1 dX1_power_15 rfl hl (by decide) rfl (fun ls hl => ?_)
        replace hl : lv_has ls 4 [(2, .int (nI ((S ^ i) * S))), (3, .int (nI i)), (0, .ref (am 0)), (1, .int (nI p))] := hl
        refine lv_iinc (k := 1) C.1 C.2.1 dX1_power_16 hl rfl xt_inc (by decide) rfl (fun ls hl => ?_)
        replace hl : lv_has ls 4 [(3, .int (nI (i + 1))), (2, .int (nI ((S ^ i) * S))), (0, .ref (am 0)), (1, .int (nI p))] := hl
        refine lv_goto C.1 C.2.1 dX1_power_19 (tgt := 4) (by decide) ?_
        exact ih4 _ (by omega) (i + 1) rfl (by omega) ls _ _ (lv_sub hl [0, 1, 2, 3] rfl) hW
  exact lp4 _ 0 rfl (Nat.zero_le _) ls _ _ (lv_sub hl [0, 1, 2, 3] rfl) hW
set_option maxHeartbeats 4000000 in
set_option maxRecDepth 100000 in
theorem cm_spell (l : Launch) (D : va_G) (cI cL : ClassId) (am : Nat → Nat) (S K n iz dz tp bt : Nat) (w ro wa ch al fr : Nat → Nat) (k : Nat) (f : Nat) (e : Nat) (hk30 : k < 2 ^ 30) (hf6 : f ≤ 6) (he6 : e ≤ 6) (hS0 : 0 < S) (hS3 : S ≤ 3) : xt_M l yX1_spell cX1_spell 6 none 0 D cI cL [.ref (am 0), .int (nI k), .int (nI f), .int (nI e - nI 1)] (xM am cI cL S K n iz dz tp bt w ro wa ch al fr) (xt_Qv D cI cL (xM am cI cL S K n iz dz tp bt w ro wa ch al fr) (fun (u : (Nat → Nat)) => (∀ z1, f ≤ z1 ∧ z1 < e → u z1 = k / S ^ (e - 1 - z1) % S) ∧ (∀ z1, ¬ (f ≤ z1 ∧ z1 < e) → u z1 = wa z1)) (fun u => xM am cI cL S K n iz dz tp bt w ro u ch al fr)) := by
  refine xt_start (own := RX1) rfl (by decide) (Nat.le_of_ble_eq_true rfl) (fun pg ev ss mi args below meth cd A Q ls C hE hA hl hW => ?_)
  replace hl : lv_has ls 6 [(0, .ref (am 0)), (1, .int (nI k)), (2, .int (nI f)), (3, .int (nI e - nI 1))] := hl
  refine lv_iload_n C.1 C.2.1 dX1_spell_0 rfl (lv_at hl 1 rfl) ?_
  refine lv_istore C.1 C.2.1 dX1_spell_1 hl (by decide) rfl (fun ls hl => ?_)
  replace hl : lv_has ls 6 [(4, .int (nI k)), (0, .ref (am 0)), (1, .int (nI k)), (2, .int (nI f)), (3, .int (nI e - nI 1))] := hl
  refine lv_iload_n C.1 C.2.1 dX1_spell_3 rfl (lv_at hl 4 rfl) ?_
  refine lv_istore C.1 C.2.1 dX1_spell_4 hl (by decide) rfl (fun ls hl => ?_)
  replace hl : lv_has ls 6 [(5, .int (nI e - nI 1)), (4, .int (nI k)), (0, .ref (am 0)), (1, .int (nI k)), (2, .int (nI f)), (3, .int (nI e - nI 1))] := hl
  have lp6 : ∀ (mq0 : Nat) (q : Nat) (wv : Nat → Nat), q = mq0 → (q ≤ e) → (∀ j, q ≤ j → j < e → wv j = k / S ^ (e - 1 - j) % S) → (∀ j, ¬ (q ≤ j ∧ j < e) → wv j = wa j) → (f ≤ q ∨ q = e) → ∀ (ls : Array Slot) (H : Heap) (locs : List Loc), lv_has ls 6 [(5, .int (nI q - nI 1)), (4, .int (nI (k / S ^ (e - q)))), (0, .ref (am 0)), (2, .int (nI f))] → xt_W D A ss.heap (xM am cI cL S K n iz dz tp bt w ro wv ch al fr) H locs → W pg l ev (xt_R 0) ss mi args below meth cd H locs 0 0 Q (F0 mi 6 ls []) := by
    intro mq0
    induction mq0 using Nat.strongRecOn with
    | _ mq0 ih6 =>
      intro q wv hq6 hq h1 h2 hfq ls H locs hl hW
      refine lv_iload C.1 C.2.1 dX1_spell_6 (lv_at hl 0 rfl) ?_
      refine lv_iload_n C.1 C.2.1 dX1_spell_8 rfl (lv_at hl 3 rfl) ?_
      refine xt_icmp_lt_m C (by omega) (by omega) dX1_spell_9 (tgt := 41) (by decide) (fun h9 => ?_) (fun h9 => ?_)
      · exact xt_vret C hE wv hW (⟨fun j hj => h1 j (by omega) hj.2, fun j hj => h2 j (by omega)⟩) dX1_spell_41
      · rw [pk_sub (show 1 ≤ q by omega)] at hl
        replace hl : lv_has ls 6 [(5, .int (nI (q - 1))), (4, .int (nI (k / S ^ (e - q)))), (0, .ref (am 0)), (2, .int (nI f))] := hl
        refine lv_aload_n C.1 C.2.1 dX1_spell_12 rfl (lv_at hl 2 rfl) ?_
        refine xt_get xt_inX1 C hW 0 rfl rfl 5 (by decide) rfl flX1_way rfl dX1_spell_13 ?_
        refine lv_iload C.1 C.2.1 dX1_spell_16 (lv_at hl 0 rfl) ?_
        refine lv_iload C.1 C.2.1 dX1_spell_18 (lv_at hl 1 rfl) ?_
        refine lv_aload_n C.1 C.2.1 dX1_spell_20 rfl (lv_at hl 2 rfl) ?_
        refine xt_get xt_inX1 C hW 0 rfl rfl 0 (by decide) rfl flX1_states rfl dX1_spell_21 ?_
        refine xt_irem C dX1_spell_24 (hS0) (Nat.lt_of_le_of_lt (Nat.div_le_self _ _) (by omega)) (by omega) ?_
        refine xt_iast C hW 3 rfl (by decide) dX1_spell_25 (by omega) (fun H locs hW => ?_)
        replace hW : xt_W D A ss.heap (xM am cI cL S K n iz dz tp bt w ro (va_up wv (q - 1) ((k / S ^ (e - q)) % S)) ch al fr) H locs := hW
        refine lv_iload C.1 C.2.1 dX1_spell_26 (lv_at hl 1 rfl) ?_
        refine lv_aload_n C.1 C.2.1 dX1_spell_28 rfl (lv_at hl 2 rfl) ?_
        refine xt_get xt_inX1 C hW 0 rfl rfl 0 (by decide) rfl flX1_states rfl dX1_spell_29 ?_
        refine xt_idiv C dX1_spell_32 (hS0) (Nat.lt_of_le_of_lt (Nat.div_le_self _ _) (by omega)) (by omega) ?_
        refine W.eq (g2 := F0 mi 33 ls [.int (nI ((k / S ^ (e - q)) / S))]) rfl ?_
        refine lv_istore C.1 C.2.1 dX1_spell_33 hl (by decide) rfl (fun ls hl => ?_)
        replace hl : lv_has ls 6 [(4, .int (nI ((k / S ^ (e - q)) / S))), (5, .int (nI (q - 1))), (0, .ref (am 0)), (2, .int (nI f))] := hl
        refine lv_iinc (k := 1) C.1 C.2.1 dX1_spell_35 hl rfl xt_decm (by decide) rfl (fun ls hl => ?_)
        replace hl : lv_has ls 6 [(5, .int (nI (q - 1) - nI 1)), (4, .int (nI ((k / S ^ (e - q)) / S))), (0, .ref (am 0)), (2, .int (nI f))] := hl
        refine lv_goto C.1 C.2.1 dX1_spell_38 (tgt := 6) (by decide) ?_
        rw [mq_div (by omega) hq] at hl
        replace hl : lv_has ls 6 [(5, .int (nI (q - 1) - nI 1)), (4, .int (nI (k / S ^ (e - (q - 1))))), (0, .ref (am 0)), (2, .int (nI f))] := hl
        exact ih6 _ (by omega) (q - 1) (va_up wv (q - 1) ((k / S ^ (e - q)) % S)) rfl (by omega) ((mq_spell (by omega) h9 h1 h2 hq).1) ((mq_spell (by omega) h9 h1 h2 hq).2) (Or.inl (by omega)) ls _ _ (lv_sub hl [0, 1, 2, 3] rfl) hW
  exact lp6 _ e wa rfl (Nat.le_refl _) (fun j h3 h4 => absurd h3 (by omega)) (fun j _ => rfl) (Or.inr rfl) ls _ _ (lv_sub hl [0, 1, 2, 4] (by rw [show e - e = 0 by omega, Nat.pow_zero, Nat.div_one]; rfl)) hW
set_option maxHeartbeats 4000000 in
set_option maxRecDepth 100000 in
theorem cm_product (l : Launch) (D : va_G) (cI cL : ClassId) (am : Nat → Nat) (S K n iz dz tp bt : Nat) (w ro wa ch al fr : Nat → Nat) (f : Nat) (e : Nat) (hfe : f ≤ e) (he6 : e ≤ 6) (hw : ∀ i, i < 24 → w i ≤ 9) (hway : ∀ q, q < e → f ≤ q + 1 → wa q < 3) (hrow : ∀ q, q < e → ro q < 4) : xt_M l yX1_product cX1_product 7 (some .long) 0 D cI cL [.ref (am 0), .int (nI f), .int (nI e - nI 1)] (xM am cI cL S K n iz dz tp bt w ro wa ch al fr) (xt_Ql D cI cL (xM am cI cL S K n iz dz tp bt w ro wa ch al fr) (fun (r : Int64) (u : Unit) => r = lN (ms_pr (me w ro) wa f (e - f))) (fun u => xM am cI cL S K n iz dz tp bt w ro wa ch al fr)) := by
  refine xt_start (own := RX1) rfl (by decide) (Nat.le_of_ble_eq_true rfl) (fun pg ev ss mi args below meth cd A Q ls C hE hA hl hW => ?_)
  replace hl : lv_has ls 7 [(0, .ref (am 0)), (1, .int (nI f)), (2, .int (nI e - nI 1))] := hl
  have hwl : ∀ i, i < 24 → w i < 2 ^ 31 := fun i h => Nat.lt_of_le_of_lt (hw i h) (by decide)
  refine xt_lconst C 1 dX1_product_0 (by decide +kernel) ?_
  refine lv_lstore_n C.1 C.2.1 dX1_product_1 rfl hl (by decide) rfl (fun ls hl => ?_)
  replace hl : lv_has ls 7 [(3, .long (lN 1)), (0, .ref (am 0)), (1, .int (nI f)), (2, .int (nI e - nI 1))] := hl
  refine lv_iload_n C.1 C.2.1 dX1_product_2 rfl (lv_at hl 2 rfl) ?_
  refine lv_istore C.1 C.2.1 dX1_product_3 hl (by decide) rfl (fun ls hl => ?_)
  replace hl : lv_has ls 7 [(5, .int (nI f)), (3, .long (lN 1)), (0, .ref (am 0)), (1, .int (nI f)), (2, .int (nI e - nI 1))] := hl
  have lp5 : ∀ (mq0 : Nat) (c : Nat), e - (f + c) = mq0 → (f + c ≤ e) → ∀ (ls : Array Slot) (H : Heap) (locs : List Loc), lv_has ls 7 [(5, .int (nI (f + c))), (3, .long (lN (ms_pr (me w ro) wa f c))), (0, .ref (am 0)), (2, .int (nI e - nI 1))] → xt_W D A ss.heap (xM am cI cL S K n iz dz tp bt w ro wa ch al fr) H locs → W pg l ev (xt_R 0) ss mi args below meth cd H locs 0 0 Q (F0 mi 5 ls []) := by
    intro mq0
    induction mq0 using Nat.strongRecOn with
    | _ mq0 ih5 =>
      intro c hq5 hc ls H locs hl hW
      refine lv_iload C.1 C.2.1 dX1_product_5 (lv_at hl 0 rfl) ?_
      refine lv_iload_n C.1 C.2.1 dX1_product_7 rfl (lv_at hl 3 rfl) ?_
      refine xt_icmp_gt_m C (by omega) (by omega) dX1_product_8 (tgt := 92) (by decide) (fun h8 => ?_) (fun h8 => ?_)
      · refine lv_lload_n C.1 C.2.1 dX1_product_92 rfl (lv_at hl 1 rfl) ?_
        exact xt_lret C hE () hW (by show lN (ms_pr _ _ f c) = lN _; rw [show c = e - f by omega]) dX1_product_93
      · have hw1 := hway (f + c) (by omega) (by omega)
        have hw2 := hway (f + c - 1) (by omega) (by omega)
        have hr1 := hrow (f + c) (by omega)
        refine lv_iload C.1 C.2.1 dX1_product_11 (lv_at hl 0 rfl) ?_
        refine xt_if_ne C (by omega) dX1_product_13 (tgt := 25) (by decide) (fun h13 => ?_) (fun h13 => ?_)
        · refine xt_iconst C 3 dX1_product_25 (by decide +kernel) ?_
          refine xt_iconst C 3 dX1_product_26 (by decide +kernel) ?_
          refine lv_aload_n C.1 C.2.1 dX1_product_27 rfl (lv_at hl 2 rfl) ?_
          refine xt_get xt_inX1 C hW 0 rfl rfl 5 (by decide) rfl flX1_way rfl dX1_product_28 ?_
          refine lv_iload C.1 C.2.1 dX1_product_31 (lv_at hl 0 rfl) ?_
          refine xt_iconst C 1 dX1_product_33 (by decide +kernel) ?_
          refine xt_isub C dX1_product_34 (by omega) ?_
          refine xt_iald C hW 3 rfl (by decide) dX1_product_35 (by omega) ?_
          refine xt_imul C dX1_product_36 ?_
          refine xt_iadd C dX1_product_37 ?_
          refine lv_aload_n C.1 C.2.1 dX1_product_38 rfl (lv_at hl 2 rfl) ?_
          refine xt_get xt_inX1 C hW 0 rfl rfl 5 (by decide) rfl flX1_way rfl dX1_product_39 ?_
          refine W.eq (g2 := F0 mi 42 ls [.ref (am 3), .int (nI (3 + (3 * (wa ((f + c) - 1)))))]) rfl ?_
          refine lv_iload C.1 C.2.1 dX1_product_42 (lv_at hl 0 rfl) ?_
          refine xt_iald C hW 3 rfl (by decide) dX1_product_44 (by omega) ?_
          refine xt_iadd C dX1_product_45 ?_
          refine lv_istore C.1 C.2.1 dX1_product_46 hl (by decide) rfl (fun ls hl => ?_)
          replace hl : lv_has ls 7 [(6, .int (nI ((3 + (3 * (wa ((f + c) - 1)))) + (wa (f + c))))), (5, .int (nI (f + c))), (3, .long (lN (ms_pr (me w ro) wa f c))), (0, .ref (am 0)), (2, .int (nI e - nI 1))] := hl
          refine lv_lload_n C.1 C.2.1 dX1_product_48 rfl (lv_at hl 2 rfl) ?_
          refine lv_aload_n C.1 C.2.1 dX1_product_49 rfl (lv_at hl 3 rfl) ?_
          refine xt_get xt_inX1 C hW 0 rfl rfl 2 (by decide) rfl flX1_weights rfl dX1_product_50 ?_
          refine lv_iload C.1 C.2.1 dX1_product_53 (lv_at hl 0 rfl) ?_
          refine xt_iald C hW 1 rfl (by decide) dX1_product_55 (by omega) ?_
          refine xt_i2l C dX1_product_56 (hwl _ (by omega)) ?_
          refine xt_lmul C dX1_product_57 ?_
          refine lv_aload_n C.1 C.2.1 dX1_product_58 rfl (lv_at hl 3 rfl) ?_
          refine W.eq (g2 := F0 mi 59 ls [.ref (am 0), .long (lN ((ms_pr (me w ro) wa f c) * (w ((3 + (3 * (wa ((f + c) - 1)))) + (wa (f + c))))))]) rfl ?_
          refine xt_get xt_inX1 C hW 0 rfl rfl 2 (by decide) rfl flX1_weights rfl dX1_product_59 ?_
          refine xt_bipush C 12 dX1_product_62 (by decide +kernel) ?_
          refine xt_iconst C 4 dX1_product_64 (by decide +kernel) ?_
          refine lv_aload_n C.1 C.2.1 dX1_product_65 rfl (lv_at hl 3 rfl) ?_
          refine xt_get xt_inX1 C hW 0 rfl rfl 5 (by decide) rfl flX1_way rfl dX1_product_66 ?_
          refine lv_iload C.1 C.2.1 dX1_product_69 (lv_at hl 1 rfl) ?_
          refine xt_iald C hW 3 rfl (by decide) dX1_product_71 (by omega) ?_
          refine xt_imul C dX1_product_72 ?_
          refine xt_iadd C dX1_product_73 ?_
          refine lv_aload_n C.1 C.2.1 dX1_product_74 rfl (lv_at hl 3 rfl) ?_
          refine xt_get xt_inX1 C hW 0 rfl rfl 4 (by decide) rfl flX1_row rfl dX1_product_75 ?_
          refine lv_iload C.1 C.2.1 dX1_product_78 (lv_at hl 1 rfl) ?_
          refine W.eq (g2 := F0 mi 80 ls [.int (nI (f + c)), .ref (am 2), .int (nI (12 + (4 * (wa (f + c))))), .ref (am 1), .long (lN ((ms_pr (me w ro) wa f c) * (w ((3 + (3 * (wa ((f + c) - 1)))) + (wa (f + c))))))]) rfl ?_
          refine xt_iald C hW 2 rfl (by decide) dX1_product_80 (by omega) ?_
          refine xt_iadd C dX1_product_81 ?_
          refine xt_iald C hW 1 rfl (by decide) dX1_product_82 (by omega) ?_
          refine xt_i2l C dX1_product_83 (hwl _ (by omega)) ?_
          refine xt_lmul C dX1_product_84 ?_
          refine lv_lstore_n C.1 C.2.1 dX1_product_85 rfl hl (by decide) rfl (fun ls hl => ?_)
          replace hl : lv_has ls 7 [(3, .long (lN (((ms_pr (me w ro) wa f c) * (w ((3 + (3 * (wa ((f + c) - 1)))) + (wa (f + c))))) * (w ((12 + (4 * (wa (f + c)))) + (ro (f + c))))))), (6, .int (nI ((3 + (3 * (wa ((f + c) - 1)))) + (wa (f + c))))), (5, .int (nI (f + c))), (0, .ref (am 0)), (2, .int (nI e - nI 1))] := hl
          refine lv_iinc (k := 2) C.1 C.2.1 dX1_product_86 hl rfl xt_inc (by decide) rfl (fun ls hl => ?_)
          replace hl : lv_has ls 7 [(5, .int (nI (f + c + 1))), (3, .long (lN (((ms_pr (me w ro) wa f c) * (w ((3 + (3 * (wa ((f + c) - 1)))) + (wa (f + c))))) * (w ((12 + (4 * (wa (f + c)))) + (ro (f + c))))))), (6, .int (nI ((3 + (3 * (wa ((f + c) - 1)))) + (wa (f + c))))), (0, .ref (am 0)), (2, .int (nI e - nI 1))] := hl
          refine lv_goto C.1 C.2.1 dX1_product_89 (tgt := 5) (by decide) ?_
          rw [mq_prn h13] at hl
          replace hl : lv_has ls 7 [(5, .int (nI (f + c + 1))), (3, .long (lN (ms_pr (me w ro) wa f (c + 1)))), (6, .int (nI ((3 + (3 * (wa ((f + c) - 1)))) + (wa (f + c))))), (0, .ref (am 0)), (2, .int (nI e - nI 1))] := hl
          exact ih5 _ (by omega) (c + 1) rfl (by omega) ls _ _ (lv_sub hl [0, 1, 3, 4] rfl) hW
        · have hw3 := hway 0 (by omega) (by omega)
          refine lv_aload_n C.1 C.2.1 dX1_product_16 rfl (lv_at hl 2 rfl) ?_
          refine xt_get xt_inX1 C hW 0 rfl rfl 5 (by decide) rfl flX1_way rfl dX1_product_17 ?_
          refine xt_iconst C 0 dX1_product_20 (by decide +kernel) ?_
          refine xt_iald C hW 3 rfl (by decide) dX1_product_21 (by omega) ?_
          refine lv_goto C.1 C.2.1 dX1_product_22 (tgt := 46) (by decide) ?_
          refine lv_istore C.1 C.2.1 dX1_product_46 hl (by decide) rfl (fun ls hl => ?_)
          replace hl : lv_has ls 7 [(6, .int (nI (wa 0))), (5, .int (nI (f + c))), (3, .long (lN (ms_pr (me w ro) wa f c))), (0, .ref (am 0)), (2, .int (nI e - nI 1))] := hl
          refine lv_lload_n C.1 C.2.1 dX1_product_48 rfl (lv_at hl 2 rfl) ?_
          refine lv_aload_n C.1 C.2.1 dX1_product_49 rfl (lv_at hl 3 rfl) ?_
          refine xt_get xt_inX1 C hW 0 rfl rfl 2 (by decide) rfl flX1_weights rfl dX1_product_50 ?_
          refine lv_iload C.1 C.2.1 dX1_product_53 (lv_at hl 0 rfl) ?_
          refine xt_iald C hW 1 rfl (by decide) dX1_product_55 (by omega) ?_
          refine xt_i2l C dX1_product_56 (hwl _ (by omega)) ?_
          refine W.eq (g2 := F0 mi 57 ls [.long (lN (w (wa 0))), .long (lN (ms_pr (me w ro) wa f c))]) rfl ?_
          refine xt_lmul C dX1_product_57 ?_
          refine lv_aload_n C.1 C.2.1 dX1_product_58 rfl (lv_at hl 3 rfl) ?_
          refine xt_get xt_inX1 C hW 0 rfl rfl 2 (by decide) rfl flX1_weights rfl dX1_product_59 ?_
          refine xt_bipush C 12 dX1_product_62 (by decide +kernel) ?_
          refine xt_iconst C 4 dX1_product_64 (by decide +kernel) ?_
          refine lv_aload_n C.1 C.2.1 dX1_product_65 rfl (lv_at hl 3 rfl) ?_
          refine xt_get xt_inX1 C hW 0 rfl rfl 5 (by decide) rfl flX1_way rfl dX1_product_66 ?_
          refine lv_iload C.1 C.2.1 dX1_product_69 (lv_at hl 1 rfl) ?_
          refine xt_iald C hW 3 rfl (by decide) dX1_product_71 (by omega) ?_
          refine xt_imul C dX1_product_72 ?_
          refine xt_iadd C dX1_product_73 ?_
          refine lv_aload_n C.1 C.2.1 dX1_product_74 rfl (lv_at hl 3 rfl) ?_
          refine W.eq (g2 := F0 mi 75 ls [.ref (am 0), .int (nI (12 + (4 * (wa (f + c))))), .ref (am 1), .long (lN ((ms_pr (me w ro) wa f c) * (w (wa 0))))]) rfl ?_
          refine xt_get xt_inX1 C hW 0 rfl rfl 4 (by decide) rfl flX1_row rfl dX1_product_75 ?_
          refine lv_iload C.1 C.2.1 dX1_product_78 (lv_at hl 1 rfl) ?_
          refine xt_iald C hW 2 rfl (by decide) dX1_product_80 (by omega) ?_
          refine xt_iadd C dX1_product_81 ?_
          refine xt_iald C hW 1 rfl (by decide) dX1_product_82 (by omega) ?_
          refine xt_i2l C dX1_product_83 (hwl _ (by omega)) ?_
          refine xt_lmul C dX1_product_84 ?_
          refine lv_lstore_n C.1 C.2.1 dX1_product_85 rfl hl (by decide) rfl (fun ls hl => ?_)
          replace hl : lv_has ls 7 [(3, .long (lN (((ms_pr (me w ro) wa f c) * (w (wa 0))) * (w ((12 + (4 * (wa (f + c)))) + (ro (f + c))))))), (6, .int (nI (wa 0))), (5, .int (nI (f + c))), (0, .ref (am 0)), (2, .int (nI e - nI 1))] := hl
          refine lv_iinc (k := 2) C.1 C.2.1 dX1_product_86 hl rfl xt_inc (by decide) rfl (fun ls hl => ?_)
          replace hl : lv_has ls 7 [(5, .int (nI (f + c + 1))), (3, .long (lN (((ms_pr (me w ro) wa f c) * (w (wa 0))) * (w ((12 + (4 * (wa (f + c)))) + (ro (f + c))))))), (6, .int (nI (wa 0))), (0, .ref (am 0)), (2, .int (nI e - nI 1))] := hl
          refine lv_goto C.1 C.2.1 dX1_product_89 (tgt := 5) (by decide) ?_
          rw [mq_prs h13] at hl
          replace hl : lv_has ls 7 [(5, .int (nI (f + c + 1))), (3, .long (lN (ms_pr (me w ro) wa f (c + 1)))), (6, .int (nI (wa 0))), (0, .ref (am 0)), (2, .int (nI e - nI 1))] := hl
          exact ih5 _ (by omega) (c + 1) rfl (by omega) ls _ _ (lv_sub hl [0, 1, 3, 4] rfl) hW
  exact lp5 _ 0 rfl (by omega) ls _ _ (lv_sub hl [0, 1, 2, 4] rfl) hW
set_option maxHeartbeats 4000000 in
set_option maxRecDepth 100000 in
theorem cm_product_n (l : Launch) (D : va_G) (cI cL : ClassId) (am : Nat → Nat) (S K n iz dz tp bt : Nat) (w ro wa ch al fr : Nat → Nat) (f : Nat) (e : Nat) (hfe : f ≤ (e + 1)) (he6 : (e + 1) ≤ 6) (hw : ∀ i, i < 24 → w i ≤ 9) (hway : ∀ q, q < (e + 1) → f ≤ q + 1 → wa q < 3) (hrow : ∀ q, q < (e + 1) → ro q < 4) : xt_M l yX1_product cX1_product 7 (some .long) 0 D cI cL [.ref (am 0), .int (nI f), .int (nI e)] (xM am cI cL S K n iz dz tp bt w ro wa ch al fr) (xt_Ql D cI cL (xM am cI cL S K n iz dz tp bt w ro wa ch al fr) (fun (r : Int64) (u : Unit) => r = lN (ms_pr (me w ro) wa f ((e + 1) - f))) (fun u => xM am cI cL S K n iz dz tp bt w ro wa ch al fr)) := by
  refine xt_start (own := RX1) rfl (by decide) (Nat.le_of_ble_eq_true rfl) (fun pg ev ss mi args below meth cd A Q ls C hE hA hl hW => ?_)
  replace hl : lv_has ls 7 [(0, .ref (am 0)), (1, .int (nI f)), (2, .int (nI e))] := hl
  have hwl : ∀ i, i < 24 → w i < 2 ^ 31 := fun i h => Nat.lt_of_le_of_lt (hw i h) (by decide)
  refine xt_lconst C 1 dX1_product_0 (by decide +kernel) ?_
  refine lv_lstore_n C.1 C.2.1 dX1_product_1 rfl hl (by decide) rfl (fun ls hl => ?_)
  replace hl : lv_has ls 7 [(3, .long (lN 1)), (0, .ref (am 0)), (1, .int (nI f)), (2, .int (nI e))] := hl
  refine lv_iload_n C.1 C.2.1 dX1_product_2 rfl (lv_at hl 2 rfl) ?_
  refine lv_istore C.1 C.2.1 dX1_product_3 hl (by decide) rfl (fun ls hl => ?_)
  replace hl : lv_has ls 7 [(5, .int (nI f)), (3, .long (lN 1)), (0, .ref (am 0)), (1, .int (nI f)), (2, .int (nI e))] := hl
  have lp5 : ∀ (mq0 : Nat) (c : Nat), (e + 1) - (f + c) = mq0 → (f + c ≤ (e + 1)) → ∀ (ls : Array Slot) (H : Heap) (locs : List Loc), lv_has ls 7 [(5, .int (nI (f + c))), (3, .long (lN (ms_pr (me w ro) wa f c))), (0, .ref (am 0)), (2, .int (nI e))] → xt_W D A ss.heap (xM am cI cL S K n iz dz tp bt w ro wa ch al fr) H locs → W pg l ev (xt_R 0) ss mi args below meth cd H locs 0 0 Q (F0 mi 5 ls []) := by
    intro mq0
    induction mq0 using Nat.strongRecOn with
    | _ mq0 ih5 =>
      intro c hq5 hc ls H locs hl hW
      refine lv_iload C.1 C.2.1 dX1_product_5 (lv_at hl 0 rfl) ?_
      refine lv_iload_n C.1 C.2.1 dX1_product_7 rfl (lv_at hl 3 rfl) ?_
      refine xt_icmp_gt C (by omega) (by omega) dX1_product_8 (tgt := 92) (by decide) (fun h8 => ?_) (fun h8 => ?_)
      · refine lv_lload_n C.1 C.2.1 dX1_product_92 rfl (lv_at hl 1 rfl) ?_
        exact xt_lret C hE () hW (by show lN (ms_pr _ _ f c) = lN _; rw [show c = (e + 1) - f by omega]) dX1_product_93
      · have hw1 := hway (f + c) (by omega) (by omega)
        have hw2 := hway (f + c - 1) (by omega) (by omega)
        have hr1 := hrow (f + c) (by omega)
        refine lv_iload C.1 C.2.1 dX1_product_11 (lv_at hl 0 rfl) ?_
        refine xt_if_ne C (by omega) dX1_product_13 (tgt := 25) (by decide) (fun h13 => ?_) (fun h13 => ?_)
        · refine xt_iconst C 3 dX1_product_25 (by decide +kernel) ?_
          refine xt_iconst C 3 dX1_product_26 (by decide +kernel) ?_
          refine lv_aload_n C.1 C.2.1 dX1_product_27 rfl (lv_at hl 2 rfl) ?_
          refine xt_get xt_inX1 C hW 0 rfl rfl 5 (by decide) rfl flX1_way rfl dX1_product_28 ?_
          refine lv_iload C.1 C.2.1 dX1_product_31 (lv_at hl 0 rfl) ?_
          refine xt_iconst C 1 dX1_product_33 (by decide +kernel) ?_
          refine xt_isub C dX1_product_34 (by omega) ?_
          refine xt_iald C hW 3 rfl (by decide) dX1_product_35 (by omega) ?_
          refine xt_imul C dX1_product_36 ?_
          refine xt_iadd C dX1_product_37 ?_
          refine lv_aload_n C.1 C.2.1 dX1_product_38 rfl (lv_at hl 2 rfl) ?_
          refine xt_get xt_inX1 C hW 0 rfl rfl 5 (by decide) rfl flX1_way rfl dX1_product_39 ?_
          refine W.eq (g2 := F0 mi 42 ls [.ref (am 3), .int (nI (3 + (3 * (wa ((f + c) - 1)))))]) rfl ?_
          refine lv_iload C.1 C.2.1 dX1_product_42 (lv_at hl 0 rfl) ?_
          refine xt_iald C hW 3 rfl (by decide) dX1_product_44 (by omega) ?_
          refine xt_iadd C dX1_product_45 ?_
          refine lv_istore C.1 C.2.1 dX1_product_46 hl (by decide) rfl (fun ls hl => ?_)
          replace hl : lv_has ls 7 [(6, .int (nI ((3 + (3 * (wa ((f + c) - 1)))) + (wa (f + c))))), (5, .int (nI (f + c))), (3, .long (lN (ms_pr (me w ro) wa f c))), (0, .ref (am 0)), (2, .int (nI e))] := hl
          refine lv_lload_n C.1 C.2.1 dX1_product_48 rfl (lv_at hl 2 rfl) ?_
          refine lv_aload_n C.1 C.2.1 dX1_product_49 rfl (lv_at hl 3 rfl) ?_
          refine xt_get xt_inX1 C hW 0 rfl rfl 2 (by decide) rfl flX1_weights rfl dX1_product_50 ?_
          refine lv_iload C.1 C.2.1 dX1_product_53 (lv_at hl 0 rfl) ?_
          refine xt_iald C hW 1 rfl (by decide) dX1_product_55 (by omega) ?_
          refine xt_i2l C dX1_product_56 (hwl _ (by omega)) ?_
          refine xt_lmul C dX1_product_57 ?_
          refine lv_aload_n C.1 C.2.1 dX1_product_58 rfl (lv_at hl 3 rfl) ?_
          refine W.eq (g2 := F0 mi 59 ls [.ref (am 0), .long (lN ((ms_pr (me w ro) wa f c) * (w ((3 + (3 * (wa ((f + c) - 1)))) + (wa (f + c))))))]) rfl ?_
          refine xt_get xt_inX1 C hW 0 rfl rfl 2 (by decide) rfl flX1_weights rfl dX1_product_59 ?_
          refine xt_bipush C 12 dX1_product_62 (by decide +kernel) ?_
          refine xt_iconst C 4 dX1_product_64 (by decide +kernel) ?_
          refine lv_aload_n C.1 C.2.1 dX1_product_65 rfl (lv_at hl 3 rfl) ?_
          refine xt_get xt_inX1 C hW 0 rfl rfl 5 (by decide) rfl flX1_way rfl dX1_product_66 ?_
          refine lv_iload C.1 C.2.1 dX1_product_69 (lv_at hl 1 rfl) ?_
          refine xt_iald C hW 3 rfl (by decide) dX1_product_71 (by omega) ?_
          refine xt_imul C dX1_product_72 ?_
          refine xt_iadd C dX1_product_73 ?_
          refine lv_aload_n C.1 C.2.1 dX1_product_74 rfl (lv_at hl 3 rfl) ?_
          refine xt_get xt_inX1 C hW 0 rfl rfl 4 (by decide) rfl flX1_row rfl dX1_product_75 ?_
          refine lv_iload C.1 C.2.1 dX1_product_78 (lv_at hl 1 rfl) ?_
          refine W.eq (g2 := F0 mi 80 ls [.int (nI (f + c)), .ref (am 2), .int (nI (12 + (4 * (wa (f + c))))), .ref (am 1), .long (lN ((ms_pr (me w ro) wa f c) * (w ((3 + (3 * (wa ((f + c) - 1)))) + (wa (f + c))))))]) rfl ?_
          refine xt_iald C hW 2 rfl (by decide) dX1_product_80 (by omega) ?_
          refine xt_iadd C dX1_product_81 ?_
          refine xt_iald C hW 1 rfl (by decide) dX1_product_82 (by omega) ?_
          refine xt_i2l C dX1_product_83 (hwl _ (by omega)) ?_
          refine xt_lmul C dX1_product_84 ?_
          refine lv_lstore_n C.1 C.2.1 dX1_product_85 rfl hl (by decide) rfl (fun ls hl => ?_)
          replace hl : lv_has ls 7 [(3, .long (lN (((ms_pr (me w ro) wa f c) * (w ((3 + (3 * (wa ((f + c) - 1)))) + (wa (f + c))))) * (w ((12 + (4 * (wa (f + c)))) + (ro (f + c))))))), (6, .int (nI ((3 + (3 * (wa ((f + c) - 1)))) + (wa (f + c))))), (5, .int (nI (f + c))), (0, .ref (am 0)), (2, .int (nI e))] := hl
          refine lv_iinc (k := 2) C.1 C.2.1 dX1_product_86 hl rfl xt_inc (by decide) rfl (fun ls hl => ?_)
          replace hl : lv_has ls 7 [(5, .int (nI (f + c + 1))), (3, .long (lN (((ms_pr (me w ro) wa f c) * (w ((3 + (3 * (wa ((f + c) - 1)))) + (wa (f + c))))) * (w ((12 + (4 * (wa (f + c)))) + (ro (f + c))))))), (6, .int (nI ((3 + (3 * (wa ((f + c) - 1)))) + (wa (f + c))))), (0, .ref (am 0)), (2, .int (nI e))] := hl
          refine lv_goto C.1 C.2.1 dX1_product_89 (tgt := 5) (by decide) ?_
          rw [mq_prn h13] at hl
          replace hl : lv_has ls 7 [(5, .int (nI (f + c + 1))), (3, .long (lN (ms_pr (me w ro) wa f (c + 1)))), (6, .int (nI ((3 + (3 * (wa ((f + c) - 1)))) + (wa (f + c))))), (0, .ref (am 0)), (2, .int (nI e))] := hl
          exact ih5 _ (by omega) (c + 1) rfl (by omega) ls _ _ (lv_sub hl [0, 1, 3, 4] rfl) hW
        · have hw3 := hway 0 (by omega) (by omega)
          refine lv_aload_n C.1 C.2.1 dX1_product_16 rfl (lv_at hl 2 rfl) ?_
          refine xt_get xt_inX1 C hW 0 rfl rfl 5 (by decide) rfl flX1_way rfl dX1_product_17 ?_
          refine xt_iconst C 0 dX1_product_20 (by decide +kernel) ?_
          refine xt_iald C hW 3 rfl (by decide) dX1_product_21 (by omega) ?_
          refine lv_goto C.1 C.2.1 dX1_product_22 (tgt := 46) (by decide) ?_
          refine lv_istore C.1 C.2.1 dX1_product_46 hl (by decide) rfl (fun ls hl => ?_)
          replace hl : lv_has ls 7 [(6, .int (nI (wa 0))), (5, .int (nI (f + c))), (3, .long (lN (ms_pr (me w ro) wa f c))), (0, .ref (am 0)), (2, .int (nI e))] := hl
          refine lv_lload_n C.1 C.2.1 dX1_product_48 rfl (lv_at hl 2 rfl) ?_
          refine lv_aload_n C.1 C.2.1 dX1_product_49 rfl (lv_at hl 3 rfl) ?_
          refine xt_get xt_inX1 C hW 0 rfl rfl 2 (by decide) rfl flX1_weights rfl dX1_product_50 ?_
          refine lv_iload C.1 C.2.1 dX1_product_53 (lv_at hl 0 rfl) ?_
          refine xt_iald C hW 1 rfl (by decide) dX1_product_55 (by omega) ?_
          refine xt_i2l C dX1_product_56 (hwl _ (by omega)) ?_
          refine W.eq (g2 := F0 mi 57 ls [.long (lN (w (wa 0))), .long (lN (ms_pr (me w ro) wa f c))]) rfl ?_
          refine xt_lmul C dX1_product_57 ?_
          refine lv_aload_n C.1 C.2.1 dX1_product_58 rfl (lv_at hl 3 rfl) ?_
          refine xt_get xt_inX1 C hW 0 rfl rfl 2 (by decide) rfl flX1_weights rfl dX1_product_59 ?_
          refine xt_bipush C 12 dX1_product_62 (by decide +kernel) ?_
          refine xt_iconst C 4 dX1_product_64 (by decide +kernel) ?_
          refine lv_aload_n C.1 C.2.1 dX1_product_65 rfl (lv_at hl 3 rfl) ?_
          refine xt_get xt_inX1 C hW 0 rfl rfl 5 (by decide) rfl flX1_way rfl dX1_product_66 ?_
          refine lv_iload C.1 C.2.1 dX1_product_69 (lv_at hl 1 rfl) ?_
          refine xt_iald C hW 3 rfl (by decide) dX1_product_71 (by omega) ?_
          refine xt_imul C dX1_product_72 ?_
          refine xt_iadd C dX1_product_73 ?_
          refine lv_aload_n C.1 C.2.1 dX1_product_74 rfl (lv_at hl 3 rfl) ?_
          refine W.eq (g2 := F0 mi 75 ls [.ref (am 0), .int (nI (12 + (4 * (wa (f + c))))), .ref (am 1), .long (lN ((ms_pr (me w ro) wa f c) * (w (wa 0))))]) rfl ?_
          refine xt_get xt_inX1 C hW 0 rfl rfl 4 (by decide) rfl flX1_row rfl dX1_product_75 ?_
          refine lv_iload C.1 C.2.1 dX1_product_78 (lv_at hl 1 rfl) ?_
          refine xt_iald C hW 2 rfl (by decide) dX1_product_80 (by omega) ?_
          refine xt_iadd C dX1_product_81 ?_
          refine xt_iald C hW 1 rfl (by decide) dX1_product_82 (by omega) ?_
          refine xt_i2l C dX1_product_83 (hwl _ (by omega)) ?_
          refine xt_lmul C dX1_product_84 ?_
          refine lv_lstore_n C.1 C.2.1 dX1_product_85 rfl hl (by decide) rfl (fun ls hl => ?_)
          replace hl : lv_has ls 7 [(3, .long (lN (((ms_pr (me w ro) wa f c) * (w (wa 0))) * (w ((12 + (4 * (wa (f + c)))) + (ro (f + c))))))), (6, .int (nI (wa 0))), (5, .int (nI (f + c))), (0, .ref (am 0)), (2, .int (nI e))] := hl
          refine lv_iinc (k := 2) C.1 C.2.1 dX1_product_86 hl rfl xt_inc (by decide) rfl (fun ls hl => ?_)
          replace hl : lv_has ls 7 [(5, .int (nI (f + c + 1))), (3, .long (lN (((ms_pr (me w ro) wa f c) * (w (wa 0))) * (w ((12 + (4 * (wa (f + c)))) + (ro (f + c))))))), (6, .int (nI (wa 0))), (0, .ref (am 0)), (2, .int (nI e))] := hl
          refine lv_goto C.1 C.2.1 dX1_product_89 (tgt := 5) (by decide) ?_
          rw [mq_prs h13] at hl
          replace hl : lv_has ls 7 [(5, .int (nI (f + c + 1))), (3, .long (lN (ms_pr (me w ro) wa f (c + 1)))), (6, .int (nI (wa 0))), (0, .ref (am 0)), (2, .int (nI e))] := hl
          exact ih5 _ (by omega) (c + 1) rfl (by omega) ls _ _ (lv_sub hl [0, 1, 3, 4] rfl) hW
  exact lp5 _ 0 rfl (by omega) ls _ _ (lv_sub hl [0, 1, 2, 4] rfl) hW
set_option maxHeartbeats 4000000 in
set_option maxRecDepth 100000 in
theorem cm_weightOf (l : Launch) (D : va_G) (cI cL : ClassId) (am : Nat → Nat) (S K n iz dz tp bt : Nat) (w ro wa ch al fr : Nat → Nat) (k : Nat) (hV : mq_V S K n w ro) (hkS : k < S ^ n) : xt_M l yX1_weightOf cX1_weightOf 2 (some .long) 1 D cI cL [.ref (am 0), .int (nI k)] (xM am cI cL S K n iz dz tp bt w ro wa ch al fr) (xt_Ql D cI cL (xM am cI cL S K n iz dz tp bt w ro wa ch al fr) (fun (r : Int64) (u : (Nat → Nat)) => r = lN (ms_wt (me w ro) S n k) ∧ ∀ z1, z1 < n → u z1 = ms_dg S n k z1) (fun u => xM am cI cL S K n iz dz tp bt w ro u ch al fr)) := by
  obtain ⟨hS0, hS3, hK0, hK4, hn6, hw, hsK⟩ := hV
  have hsy : ∀ p, p < n → ro p < 4 := fun p h => Nat.lt_of_lt_of_le (hsK p h) hK4
  have hpb := ms_pow_le hS3 hn6
  refine xt_start (own := RX1) rfl (by decide) (Nat.le_of_ble_eq_true rfl) (fun pg ev ss mi args below meth cd A Q ls C hE hA hl hW => ?_)
  replace hl : lv_has ls 2 [(0, .ref (am 0)), (1, .int (nI k))] := hl
  refine lv_aload_n C.1 C.2.1 dX1_weightOf_0 rfl (lv_at hl 0 rfl) ?_
  refine lv_iload_n C.1 C.2.1 dX1_weightOf_1 rfl (lv_at hl 1 rfl) ?_
  refine xt_iconst C 0 dX1_weightOf_2 (by decide +kernel) ?_
  refine lv_aload_n C.1 C.2.1 dX1_weightOf_3 rfl (lv_at hl 0 rfl) ?_
  refine xt_get xt_inX1 C hW 0 rfl rfl 3 (by decide) rfl flX1_n rfl dX1_weightOf_4 ?_
  refine xt_iconst C 1 dX1_weightOf_7 (by decide +kernel) ?_
  refine lv_isub C.1 C.2.1 dX1_weightOf_8 ?_
  refine xt_cvd hA hW (xt_runV C hW.1 hW.2.1 cwX1_X1_spell (cm_spell l D cI cL am S K n iz dz tp bt w ro wa ch al fr k 0 n (by omega) (by omega) (by omega) (by omega) (by omega)) rfl rfl rfl hl.1 (rest := []) rfl (Nat.le_of_ble_eq_true rfl) ⟨(Nat.le_of_ble_eq_true rfl), (Nat.le_of_ble_eq_true rfl)⟩ ⟨Nat.zero_le _, Nat.zero_le _⟩ dX1_weightOf_9) (fun u H locs hp9 hW => ?_)
  obtain ⟨wa_9, rfl⟩ : ∃ z, z = u := ⟨_, rfl⟩
  replace hW : xt_W D A ss.heap (xM am cI cL S K n iz dz tp bt w ro wa_9 ch al fr) H locs := hW
  replace hp9 : (∀ z1, 0 ≤ z1 ∧ z1 < n → wa_9 z1 = k / S ^ (n - 1 - z1) % S) ∧ (∀ z1, ¬ (0 ≤ z1 ∧ z1 < n) → wa_9 z1 = wa z1) := hp9
  refine lv_aload_n C.1 C.2.1 dX1_weightOf_12 rfl (lv_at hl 0 rfl) ?_
  refine xt_iconst C 0 dX1_weightOf_13 (by decide +kernel) ?_
  refine lv_aload_n C.1 C.2.1 dX1_weightOf_14 rfl (lv_at hl 0 rfl) ?_
  refine xt_get xt_inX1 C hW 0 rfl rfl 3 (by decide) rfl flX1_n rfl dX1_weightOf_15 ?_
  refine W.eq (g2 := F0 mi 18 ls [.int (nI n), .int (nI 0), .ref (am 0)]) rfl ?_
  refine xt_iconst C 1 dX1_weightOf_18 (by decide +kernel) ?_
  refine lv_isub C.1 C.2.1 dX1_weightOf_19 ?_
  refine xt_cl hA hW (xt_runV C hW.1 hW.2.1 cwX1_X1_product (cm_product l D cI cL am S K n iz dz tp bt w ro wa_9 ch al fr 0 n (Nat.zero_le _) (hn6) (hw) (fun q hq _ => by rw [hp9.1 q ⟨Nat.zero_le _, hq⟩]; exact Nat.lt_of_lt_of_le (Nat.mod_lt _ hS0) hS3) (hsy)) rfl rfl rfl hl.1 (rest := []) rfl (Nat.le_of_ble_eq_true rfl) ⟨(Nat.le_of_ble_eq_true rfl), (Nat.le_of_ble_eq_true rfl)⟩ ⟨Nat.zero_le _, Nat.zero_le _⟩ dX1_weightOf_20) (fun r20 u H locs hp20 hW => ?_)
  replace hW : xt_W D A ss.heap (xM am cI cL S K n iz dz tp bt w ro wa_9 ch al fr) H locs := hW
  subst hp20
  exact xt_lret C hE wa_9 hW (⟨by show lN (ms_pr _ _ 0 (n - 0)) = lN _; rw [Nat.sub_zero]; exact congrArg lN (ms_pr_congr (fun q h1 _ => hp9.1 q ⟨Nat.zero_le _, by omega⟩)), fun q hq => hp9.1 q ⟨Nat.zero_le _, hq⟩⟩) dX1_weightOf_23
set_option maxHeartbeats 4000000 in
set_option maxRecDepth 100000 in
theorem cm_total (l : Launch) (D : va_G) (cI cL : ClassId) (am : Nat → Nat) (S K n iz dz tp bt : Nat) (w ro wa ch al fr : Nat → Nat) (hV : mq_V S K n w ro) : xt_M l yX1_total cX1_total 5 (some .long) 2 D cI cL [.ref (am 0)] (xM am cI cL S K n iz dz tp bt w ro wa ch al fr) (xt_Ql D cI cL (xM am cI cL S K n iz dz tp bt w ro wa ch al fr) (fun (r : Int64) (u : (Nat → Nat)) => r = lN (ms_sum (fun z1 => ms_wt (me w ro) S n z1) (S ^ n))) (fun u => xM am cI cL S K n iz dz tp bt w ro u ch al fr)) := by
  have hV2 := hV
  obtain ⟨hS0, hS3, hK0, hK4, hn6, hw, hsK⟩ := hV
  have hsy : ∀ p, p < n → ro p < 4 := fun p h => Nat.lt_of_lt_of_le (hsK p h) hK4
  have hpb := ms_pow_le hS3 hn6
  refine xt_start (own := RX1) rfl (by decide) (Nat.le_of_ble_eq_true rfl) (fun pg ev ss mi args below meth cd A Q ls C hE hA hl hW => ?_)
  replace hl : lv_has ls 5 [(0, .ref (am 0))] := hl
  refine xt_lconst C 0 dX1_total_0 (by decide +kernel) ?_
  refine lv_lstore_n C.1 C.2.1 dX1_total_1 rfl hl (by decide) rfl (fun ls hl => ?_)
  replace hl : lv_has ls 5 [(1, .long (lN 0)), (0, .ref (am 0))] := hl
  refine lv_aload_n C.1 C.2.1 dX1_total_2 rfl (lv_at hl 1 rfl) ?_
  refine lv_aload_n C.1 C.2.1 dX1_total_3 rfl (lv_at hl 1 rfl) ?_
  refine xt_get xt_inX1 C hW 0 rfl rfl 3 (by decide) rfl flX1_n rfl dX1_total_4 ?_
  refine xt_ci hA hW (xt_runV C hW.1 hW.2.1 cwX1_X1_power (cm_power l D cI cL am S K n iz dz tp bt w ro wa ch al fr n (by omega)) rfl rfl rfl hl.1 (rest := []) rfl (Nat.le_of_ble_eq_true rfl) ⟨(Nat.le_of_ble_eq_true rfl), (Nat.le_of_ble_eq_true rfl)⟩ ⟨Nat.zero_le _, Nat.zero_le _⟩ dX1_total_7) (fun r7 u H locs hp7 hW => ?_)
  replace hW : xt_W D A ss.heap (xM am cI cL S K n iz dz tp bt w ro wa ch al fr) H locs := hW
  subst hp7
  refine lv_istore_n C.1 C.2.1 dX1_total_10 rfl hl (by decide) rfl (fun ls hl => ?_)
  replace hl : lv_has ls 5 [(3, .int (nI (S ^ n))), (1, .long (lN 0)), (0, .ref (am 0))] := hl
  refine xt_iconst C 0 dX1_total_11 (by decide +kernel) ?_
  refine lv_istore C.1 C.2.1 dX1_total_12 hl (by decide) rfl (fun ls hl => ?_)
  replace hl : lv_has ls 5 [(4, .int (nI 0)), (3, .int (nI (S ^ n))), (1, .long (lN 0)), (0, .ref (am 0))] := hl
  have lp14 : ∀ (mq0 : Nat) (i : Nat) (wv : Nat → Nat), S ^ n - i = mq0 → (i ≤ S ^ n) → ∀ (ls : Array Slot) (H : Heap) (locs : List Loc), lv_has ls 5 [(4, .int (nI i)), (3, .int (nI (S ^ n))), (1, .long (lN (ms_sum (fun z1 => ms_wt (me w ro) S n z1) i))), (0, .ref (am 0))] → xt_W D A ss.heap (xM am cI cL S K n iz dz tp bt w ro wv ch al fr) H locs → W pg l ev (xt_R 2) ss mi args below meth cd H locs 0 0 Q (F0 mi 14 ls []) := by
    intro mq0
    induction mq0 using Nat.strongRecOn with
    | _ mq0 ih14 =>
      intro i wv hq14 hi ls H locs hl hW
      refine lv_iload C.1 C.2.1 dX1_total_14 (lv_at hl 0 rfl) ?_
      refine lv_iload_n C.1 C.2.1 dX1_total_16 rfl (lv_at hl 1 rfl) ?_
      refine xt_icmp_ge C (by omega) (by omega) dX1_total_17 (tgt := 35) (by decide) (fun h17 => ?_) (fun h17 => ?_)
      · refine lv_lload_n C.1 C.2.1 dX1_total_35 rfl (lv_at hl 2 rfl) ?_
        exact xt_lret C hE wv hW (by show lN (ms_sum _ i) = lN _; rw [show i = S ^ n by omega]) dX1_total_36
      · refine lv_lload_n C.1 C.2.1 dX1_total_20 rfl (lv_at hl 2 rfl) ?_
        refine lv_aload_n C.1 C.2.1 dX1_total_21 rfl (lv_at hl 3 rfl) ?_
        refine lv_iload C.1 C.2.1 dX1_total_22 (lv_at hl 0 rfl) ?_
        refine xt_cl hA hW (xt_runV C hW.1 hW.2.1 cwX1_X1_weightOf (cm_weightOf l D cI cL am S K n iz dz tp bt w ro wv ch al fr i (hV2) (by omega)) rfl rfl rfl hl.1 (rest := [.long (lN (ms_sum (fun z1 => ms_wt (me w ro) S n z1) i))]) rfl (Nat.le_of_ble_eq_true rfl) ⟨(Nat.le_of_ble_eq_true rfl), (Nat.le_of_ble_eq_true rfl)⟩ ⟨Nat.zero_le _, Nat.zero_le _⟩ dX1_total_24) (fun r24 u H locs hp24 hW => ?_)
        obtain ⟨wa_24, rfl⟩ : ∃ z, z = u := ⟨_, rfl⟩
        replace hW : xt_W D A ss.heap (xM am cI cL S K n iz dz tp bt w ro wa_24 ch al fr) H locs := hW
        replace hp24 : r24 = lN (ms_wt (me w ro) S n i) ∧ ∀ z1, z1 < n → wa_24 z1 = ms_dg S n i z1 := hp24
        obtain ⟨rfl, hp24⟩ := hp24
        refine xt_ladd C dX1_total_27 ?_
        refine lv_lstore_n C.1 C.2.1 dX1_total_28 rfl hl (by decide) rfl (fun ls hl => ?_)
        replace hl : lv_has ls 5 [(1, .long (lN ((ms_sum (fun z1 => ms_wt (me w ro) S n z1) i) + (ms_wt (me w ro) S n i)))), (4, .int (nI i)), (3, .int (nI (S ^ n))), (0, .ref (am 0))] := hl
        refine lv_iinc (k := 1) C.1 C.2.1 dX1_total_29 hl rfl xt_inc (by decide) rfl (fun ls hl => ?_)
        replace hl : lv_has ls 5 [(4, .int (nI (i + 1))), (1, .long (lN ((ms_sum (fun z1 => ms_wt (me w ro) S n z1) i) + (ms_wt (me w ro) S n i)))), (3, .int (nI (S ^ n))), (0, .ref (am 0))] := hl
        refine lv_goto C.1 C.2.1 dX1_total_32 (tgt := 14) (by decide) ?_
        exact ih14 _ (by omega) (i + 1) wa_24 rfl (by omega) ls _ _ (lv_sub hl [0, 2, 1, 3] rfl) hW
  exact lp14 _ 0 wa rfl (Nat.zero_le _) ls _ _ (lv_sub hl [0, 1, 2, 3] rfl) hW
set_option maxHeartbeats 4000000 in
set_option maxRecDepth 100000 in
theorem cm_before_y (l : Launch) (D : va_G) (cI cL : ClassId) (am : Nat → Nat) (S K n iz dz tp bt : Nat) (w ro wa ch al fr : Nat → Nat) (p : Nat) (q : Nat) (hV : mq_V S K n w ro) (hpn : p < n) (hqS : q < S) : xt_M l yX1_before cX1_before 7 (some .long) 1 D cI cL [.ref (am 0), .int (nI p), .int (nI q)] (xM am cI cL S K n iz dz tp bt w ro wa ch al fr) (xt_Ql D cI cL (xM am cI cL S K n iz dz tp bt w ro wa ch al fr) (fun (r : Int64) (u : (Nat → Nat)) => r = lN (ms_bf (me w ro) S p q)) (fun u => xM am cI cL S K n iz dz tp bt w ro u ch al fr)) := by
  obtain ⟨hS0, hS3, hK0, hK4, hn6, hw, hsK⟩ := hV
  have hsy : ∀ p, p < n → ro p < 4 := fun p h => Nat.lt_of_lt_of_le (hsK p h) hK4
  have hpb := ms_pow_le hS3 (show p ≤ 6 by omega)
  refine xt_start (own := RX1) rfl (by decide) (Nat.le_of_ble_eq_true rfl) (fun pg ev ss mi args below meth cd A Q ls C hE hA hl hW => ?_)
  replace hl : lv_has ls 7 [(0, .ref (am 0)), (1, .int (nI p)), (2, .int (nI q))] := hl
  refine lv_iload_n C.1 C.2.1 dX1_before_0 rfl (lv_at hl 1 rfl) ?_
  refine xt_if_lt C (by omega) dX1_before_1 (tgt := 20) (by decide) ?_
  refine lv_iload_n C.1 C.2.1 dX1_before_4 rfl (lv_at hl 1 rfl) ?_
  refine lv_aload_n C.1 C.2.1 dX1_before_5 rfl (lv_at hl 0 rfl) ?_
  refine xt_get xt_inX1 C hW 0 rfl rfl 3 (by decide) rfl flX1_n rfl dX1_before_6 ?_
  refine xt_icmp_ge C (by omega) (by omega) dX1_before_9 (tgt := 20) (by decide) (fun h9 => ?_) (fun h9 => ?_)
  · exfalso
    omega
  · refine lv_aload_n C.1 C.2.1 dX1_before_12 rfl (lv_at hl 0 rfl) ?_
    refine lv_iload_n C.1 C.2.1 dX1_before_13 rfl (lv_at hl 2 rfl) ?_
    refine xt_ci hA hW (xt_runV C hW.1 hW.2.1 cwX1_X1_state (cm_state l D cI cL am S K n iz dz tp bt w ro wa ch al fr (nI q) (by omega)) rfl rfl rfl hl.1 (rest := []) rfl (Nat.le_of_ble_eq_true rfl) ⟨(Nat.le_of_ble_eq_true rfl), (Nat.le_of_ble_eq_true rfl)⟩ ⟨Nat.zero_le _, Nat.zero_le _⟩ dX1_before_14) (fun r14 u H locs hp14 hW => ?_)
    replace hW : xt_W D A ss.heap (xM am cI cL S K n iz dz tp bt w ro wa ch al fr) H locs := hW
    replace hp14 : (r14 = nI 1 ∧ ∃ z1, z1 < S ∧ (nI q) = nI z1) ∨ (r14 = nI 0 ∧ ¬ ∃ z1, z1 < S ∧ (nI q) = nI z1) := hp14
    rcases hp14 with ⟨rfl, -⟩ | ⟨-, hno⟩
    · replace hl : lv_has ls 7 [(0, .ref (am 0)), (1, .int (nI p)), (2, .int (nI q))] := hl
      refine xt_if_ne C (by omega) dX1_before_17 (tgt := 22) (by decide) (fun h17 => ?_) (fun h17 => ?_)
      · refine xt_lconst C 0 dX1_before_22 (by decide +kernel) ?_
        refine lv_lstore_n C.1 C.2.1 dX1_before_23 rfl hl (by decide) rfl (fun ls hl => ?_)
        replace hl : lv_has ls 7 [(3, .long (lN 0)), (0, .ref (am 0)), (1, .int (nI p)), (2, .int (nI q))] := hl
        refine lv_aload_n C.1 C.2.1 dX1_before_24 rfl (lv_at hl 1 rfl) ?_
        refine lv_iload_n C.1 C.2.1 dX1_before_25 rfl (lv_at hl 2 rfl) ?_
        refine xt_ci hA hW (xt_runV C hW.1 hW.2.1 cwX1_X1_power (cm_power l D cI cL am S K n iz dz tp bt w ro wa ch al fr p (by omega)) rfl rfl rfl hl.1 (rest := []) rfl (Nat.le_of_ble_eq_true rfl) ⟨(Nat.le_of_ble_eq_true rfl), (Nat.le_of_ble_eq_true rfl)⟩ ⟨Nat.zero_le _, Nat.zero_le _⟩ dX1_before_26) (fun r26 u H locs hp26 hW => ?_)
        replace hW : xt_W D A ss.heap (xM am cI cL S K n iz dz tp bt w ro wa ch al fr) H locs := hW
        subst hp26
        refine lv_istore C.1 C.2.1 dX1_before_29 hl (by decide) rfl (fun ls hl => ?_)
        replace hl : lv_has ls 7 [(5, .int (nI (S ^ p))), (3, .long (lN 0)), (0, .ref (am 0)), (1, .int (nI p)), (2, .int (nI q))] := hl
        refine xt_iconst C 0 dX1_before_31 (by decide +kernel) ?_
        refine lv_istore C.1 C.2.1 dX1_before_32 hl (by decide) rfl (fun ls hl => ?_)
        replace hl : lv_has ls 7 [(6, .int (nI 0)), (5, .int (nI (S ^ p))), (3, .long (lN 0)), (0, .ref (am 0)), (1, .int (nI p)), (2, .int (nI q))] := hl
        have lp34 : ∀ (mq0 : Nat) (i : Nat) (wv : Nat → Nat), S ^ p - i = mq0 → (i ≤ S ^ p) → ∀ (ls : Array Slot) (H : Heap) (locs : List Loc), lv_has ls 7 [(6, .int (nI i)), (5, .int (nI (S ^ p))), (3, .long (lN (ms_sum (fun z1 => ms_af (me w ro) S p z1 q) i))), (0, .ref (am 0)), (1, .int (nI p)), (2, .int (nI q))] → xt_W D A ss.heap (xM am cI cL S K n iz dz tp bt w ro wv ch al fr) H locs → W pg l ev (xt_R 1) ss mi args below meth cd H locs 0 0 Q (F0 mi 34 ls []) := by
          intro mq0
          induction mq0 using Nat.strongRecOn with
          | _ mq0 ih34 =>
            intro i wv hq34 hi ls H locs hl hW
            refine lv_iload C.1 C.2.1 dX1_before_34 (lv_at hl 0 rfl) ?_
            refine lv_iload C.1 C.2.1 dX1_before_36 (lv_at hl 1 rfl) ?_
            refine xt_icmp_ge C (by omega) (by omega) dX1_before_38 (tgt := 73) (by decide) (fun h38 => ?_) (fun h38 => ?_)
            · refine lv_lload_n C.1 C.2.1 dX1_before_73 rfl (lv_at hl 2 rfl) ?_
              exact xt_lret C hE wv hW (by show lN (ms_sum _ i) = lN _; rw [show i = S ^ p by omega, ms_bf_sum (me_0 w ro)]) dX1_before_74
            · refine lv_aload_n C.1 C.2.1 dX1_before_41 rfl (lv_at hl 3 rfl) ?_
              refine lv_iload C.1 C.2.1 dX1_before_42 (lv_at hl 0 rfl) ?_
              refine xt_iconst C 0 dX1_before_44 (by decide +kernel) ?_
              refine lv_iload_n C.1 C.2.1 dX1_before_45 rfl (lv_at hl 4 rfl) ?_
              refine xt_iconst C 1 dX1_before_46 (by decide +kernel) ?_
              refine lv_isub C.1 C.2.1 dX1_before_47 ?_
              refine xt_cvd hA hW (xt_runV C hW.1 hW.2.1 cwX1_X1_spell (cm_spell l D cI cL am S K n iz dz tp bt w ro wv ch al fr i 0 p (by omega) (by omega) (by omega) (by omega) (by omega)) rfl rfl rfl hl.1 (rest := []) rfl (Nat.le_of_ble_eq_true rfl) ⟨(Nat.le_of_ble_eq_true rfl), (Nat.le_of_ble_eq_true rfl)⟩ ⟨Nat.zero_le _, Nat.zero_le _⟩ dX1_before_48) (fun u H locs hp48 hW => ?_)
              obtain ⟨wa_48, rfl⟩ : ∃ z, z = u := ⟨_, rfl⟩
              replace hW : xt_W D A ss.heap (xM am cI cL S K n iz dz tp bt w ro wa_48 ch al fr) H locs := hW
              replace hp48 : (∀ z1, 0 ≤ z1 ∧ z1 < p → wa_48 z1 = i / S ^ (p - 1 - z1) % S) ∧ (∀ z1, ¬ (0 ≤ z1 ∧ z1 < p) → wa_48 z1 = wv z1) := hp48
              refine lv_aload_n C.1 C.2.1 dX1_before_51 rfl (lv_at hl 3 rfl) ?_
              refine xt_get xt_inX1 C hW 0 rfl rfl 5 (by decide) rfl flX1_way rfl dX1_before_52 ?_
              refine lv_iload_n C.1 C.2.1 dX1_before_55 rfl (lv_at hl 4 rfl) ?_
              refine lv_iload_n C.1 C.2.1 dX1_before_56 rfl (lv_at hl 5 rfl) ?_
              refine xt_iast C hW 3 rfl (by decide) dX1_before_57 (by omega) (fun H locs hW => ?_)
              replace hW : xt_W D A ss.heap (xM am cI cL S K n iz dz tp bt w ro (va_up wa_48 p q) ch al fr) H locs := hW
              refine W.eq (g2 := F0 mi 58 ls []) rfl ?_
              refine lv_lload_n C.1 C.2.1 dX1_before_58 rfl (lv_at hl 2 rfl) ?_
              refine lv_aload_n C.1 C.2.1 dX1_before_59 rfl (lv_at hl 3 rfl) ?_
              refine xt_iconst C 0 dX1_before_60 (by decide +kernel) ?_
              refine lv_iload_n C.1 C.2.1 dX1_before_61 rfl (lv_at hl 4 rfl) ?_
              refine xt_cl hA hW (xt_runV C hW.1 hW.2.1 cwX1_X1_product (cm_product_n l D cI cL am S K n iz dz tp bt w ro (va_up wa_48 p q) ch al fr 0 p (Nat.zero_le _) (by omega) (hw) (fun j hj _ => by by_cases c : j = p; (rw [c, xq_up]; omega); (rw [xq_un c, hp48.1 j ⟨Nat.zero_le _, by omega⟩]; exact Nat.lt_of_lt_of_le (Nat.mod_lt _ hS0) hS3)) (fun j hj => hsy j (by omega))) rfl rfl rfl hl.1 (rest := [.long (lN (ms_sum (fun z1 => ms_af (me w ro) S p z1 q) i))]) rfl (Nat.le_of_ble_eq_true rfl) ⟨(Nat.le_of_ble_eq_true rfl), (Nat.le_of_ble_eq_true rfl)⟩ ⟨Nat.zero_le _, Nat.zero_le _⟩ dX1_before_62) (fun r62 u H locs hp62 hW => ?_)
              replace hW : xt_W D A ss.heap (xM am cI cL S K n iz dz tp bt w ro (va_up wa_48 p q) ch al fr) H locs := hW
              subst hp62
              rw [mq_af (wa := wv) hp48.1]
              refine xt_ladd C dX1_before_65 ?_
              refine lv_lstore_n C.1 C.2.1 dX1_before_66 rfl hl (by decide) rfl (fun ls hl => ?_)
              replace hl : lv_has ls 7 [(3, .long (lN ((ms_sum (fun z1 => ms_af (me w ro) S p z1 q) i) + (ms_af (me w ro) S p i q)))), (6, .int (nI i)), (5, .int (nI (S ^ p))), (0, .ref (am 0)), (1, .int (nI p)), (2, .int (nI q))] := hl
              refine lv_iinc (k := 1) C.1 C.2.1 dX1_before_67 hl rfl xt_inc (by decide) rfl (fun ls hl => ?_)
              replace hl : lv_has ls 7 [(6, .int (nI (i + 1))), (3, .long (lN ((ms_sum (fun z1 => ms_af (me w ro) S p z1 q) i) + (ms_af (me w ro) S p i q)))), (5, .int (nI (S ^ p))), (0, .ref (am 0)), (1, .int (nI p)), (2, .int (nI q))] := hl
              refine lv_goto C.1 C.2.1 dX1_before_70 (tgt := 34) (by decide) ?_
              exact ih34 _ (by omega) (i + 1) (va_up wa_48 p q) rfl (by omega) ls _ _ (lv_sub hl [0, 2, 1, 3, 4, 5] rfl) hW
        exact lp34 _ 0 wa rfl (Nat.zero_le _) ls _ _ (lv_sub hl [0, 1, 2, 3, 4, 5] rfl) hW
      · exfalso
        omega
    · exact absurd (⟨q, by omega, rfl⟩) hno
set_option maxHeartbeats 4000000 in
set_option maxRecDepth 100000 in
theorem cm_before_n (l : Launch) (D : va_G) (cI cL : ClassId) (am : Nat → Nat) (S K n iz dz tp bt : Nat) (w ro wa ch al fr : Nat → Nat) (p : Int32) (q : Int32) (hV : mq_V S K n w ro) (hno : ¬ ((∃ j, j < n ∧ p = nI j) ∧ ∃ j, j < S ∧ q = nI j)) : xt_M l yX1_before cX1_before 7 (some .long) 1 D cI cL [.ref (am 0), .int p, .int q] (xM am cI cL S K n iz dz tp bt w ro wa ch al fr) (xt_Ql D cI cL (xM am cI cL S K n iz dz tp bt w ro wa ch al fr) (fun (r : Int64) (u : Unit) => r = lN 0) (fun u => xM am cI cL S K n iz dz tp bt w ro wa ch al fr)) := by
  obtain ⟨hS0, hS3, hK0, hK4, hn6, hw, hsK⟩ := hV
  have hsy : ∀ p, p < n → ro p < 4 := fun p h => Nat.lt_of_lt_of_le (hsK p h) hK4
  refine xt_start (own := RX1) rfl (by decide) (Nat.le_of_ble_eq_true rfl) (fun pg ev ss mi args below meth cd A Q ls C hE hA hl hW => ?_)
  replace hl : lv_has ls 7 [(0, .ref (am 0)), (1, .int p), (2, .int q)] := hl
  refine lv_iload_n C.1 C.2.1 dX1_before_0 rfl (lv_at hl 1 rfl) ?_
  refine lv_if_lt C.1 C.2.1 dX1_before_1 (tgt := 20) (by decide) (fun h1 => ?_) (fun h1 => ?_)
  · refine xt_lconst C 0 dX1_before_20 (by decide +kernel) ?_
    exact xt_lret C hE () hW (rfl) dX1_before_21
  · refine lv_iload_n C.1 C.2.1 dX1_before_4 rfl (lv_at hl 1 rfl) ?_
    refine lv_aload_n C.1 C.2.1 dX1_before_5 rfl (lv_at hl 0 rfl) ?_
    refine xt_get xt_inX1 C hW 0 rfl rfl 3 (by decide) rfl flX1_n rfl dX1_before_6 ?_
    refine lv_icmp_ge C.1 C.2.1 dX1_before_9 (tgt := 20) (by decide) (fun h9 => ?_) (fun h9 => ?_)
    · refine xt_lconst C 0 dX1_before_20 (by decide +kernel) ?_
      exact xt_lret C hE () hW (rfl) dX1_before_21
    · refine lv_aload_n C.1 C.2.1 dX1_before_12 rfl (lv_at hl 0 rfl) ?_
      refine lv_iload_n C.1 C.2.1 dX1_before_13 rfl (lv_at hl 2 rfl) ?_
      refine xt_ci hA hW (xt_runV C hW.1 hW.2.1 cwX1_X1_state (cm_state l D cI cL am S K n iz dz tp bt w ro wa ch al fr q (by omega)) rfl rfl rfl hl.1 (rest := []) rfl (Nat.le_of_ble_eq_true rfl) ⟨(Nat.le_of_ble_eq_true rfl), (Nat.le_of_ble_eq_true rfl)⟩ ⟨Nat.zero_le _, Nat.zero_le _⟩ dX1_before_14) (fun r14 u H locs hp14 hW => ?_)
      replace hW : xt_W D A ss.heap (xM am cI cL S K n iz dz tp bt w ro wa ch al fr) H locs := hW
      replace hp14 : (r14 = nI 1 ∧ ∃ z1, z1 < S ∧ q = nI z1) ∨ (r14 = nI 0 ∧ ¬ ∃ z1, z1 < S ∧ q = nI z1) := hp14
      rcases hp14 with ⟨-, hz⟩ | ⟨rfl, -⟩
      · exact absurd (⟨xq_yes (by omega) h1 h9, hz⟩) hno
      · replace hl : lv_has ls 7 [(0, .ref (am 0)), (1, .int p), (2, .int q)] := hl
        refine xt_if_ne C (by omega) dX1_before_17 (tgt := 22) (by decide) (fun h17 => ?_) (fun h17 => ?_)
        · exfalso
          omega
        · refine xt_lconst C 0 dX1_before_20 (by decide +kernel) ?_
          exact xt_lret C hE () hW (rfl) dX1_before_21
set_option maxHeartbeats 4000000 in
set_option maxRecDepth 100000 in
theorem cm_behind_y (l : Launch) (D : va_G) (cI cL : ClassId) (am : Nat → Nat) (S K n iz dz tp bt : Nat) (w ro wa ch al fr : Nat → Nat) (p : Nat) (q : Nat) (hV : mq_V S K n w ro) (hpn : p < n) (hqS : q < S) : xt_M l yX1_behind cX1_behind 7 (some .long) 1 D cI cL [.ref (am 0), .int (nI p), .int (nI q)] (xM am cI cL S K n iz dz tp bt w ro wa ch al fr) (xt_Ql D cI cL (xM am cI cL S K n iz dz tp bt w ro wa ch al fr) (fun (r : Int64) (u : (Nat → Nat)) => r = lN (ms_bh (me w ro) S n (n - 1 - p) q)) (fun u => xM am cI cL S K n iz dz tp bt w ro u ch al fr)) := by
  obtain ⟨hS0, hS3, hK0, hK4, hn6, hw, hsK⟩ := hV
  have hsy : ∀ p, p < n → ro p < 4 := fun p h => Nat.lt_of_lt_of_le (hsK p h) hK4
  have hpb := ms_pow_le hS3 (show n - 1 - p ≤ 6 by omega)
  refine xt_start (own := RX1) rfl (by decide) (Nat.le_of_ble_eq_true rfl) (fun pg ev ss mi args below meth cd A Q ls C hE hA hl hW => ?_)
  replace hl : lv_has ls 7 [(0, .ref (am 0)), (1, .int (nI p)), (2, .int (nI q))] := hl
  refine lv_iload_n C.1 C.2.1 dX1_behind_0 rfl (lv_at hl 1 rfl) ?_
  refine xt_if_lt C (by omega) dX1_behind_1 (tgt := 20) (by decide) ?_
  refine lv_iload_n C.1 C.2.1 dX1_behind_4 rfl (lv_at hl 1 rfl) ?_
  refine lv_aload_n C.1 C.2.1 dX1_behind_5 rfl (lv_at hl 0 rfl) ?_
  refine xt_get xt_inX1 C hW 0 rfl rfl 3 (by decide) rfl flX1_n rfl dX1_behind_6 ?_
  refine xt_icmp_ge C (by omega) (by omega) dX1_behind_9 (tgt := 20) (by decide) (fun h9 => ?_) (fun h9 => ?_)
  · exfalso
    omega
  · refine lv_aload_n C.1 C.2.1 dX1_behind_12 rfl (lv_at hl 0 rfl) ?_
    refine lv_iload_n C.1 C.2.1 dX1_behind_13 rfl (lv_at hl 2 rfl) ?_
    refine xt_ci hA hW (xt_runV C hW.1 hW.2.1 cwX1_X1_state (cm_state l D cI cL am S K n iz dz tp bt w ro wa ch al fr (nI q) (by omega)) rfl rfl rfl hl.1 (rest := []) rfl (Nat.le_of_ble_eq_true rfl) ⟨(Nat.le_of_ble_eq_true rfl), (Nat.le_of_ble_eq_true rfl)⟩ ⟨Nat.zero_le _, Nat.zero_le _⟩ dX1_behind_14) (fun r14 u H locs hp14 hW => ?_)
    replace hW : xt_W D A ss.heap (xM am cI cL S K n iz dz tp bt w ro wa ch al fr) H locs := hW
    replace hp14 : (r14 = nI 1 ∧ ∃ z1, z1 < S ∧ (nI q) = nI z1) ∨ (r14 = nI 0 ∧ ¬ ∃ z1, z1 < S ∧ (nI q) = nI z1) := hp14
    rcases hp14 with ⟨rfl, -⟩ | ⟨-, hno⟩
    · replace hl : lv_has ls 7 [(0, .ref (am 0)), (1, .int (nI p)), (2, .int (nI q))] := hl
      refine xt_if_ne C (by omega) dX1_behind_17 (tgt := 22) (by decide) (fun h17 => ?_) (fun h17 => ?_)
      · refine xt_lconst C 0 dX1_behind_22 (by decide +kernel) ?_
        refine lv_lstore_n C.1 C.2.1 dX1_behind_23 rfl hl (by decide) rfl (fun ls hl => ?_)
        replace hl : lv_has ls 7 [(3, .long (lN 0)), (0, .ref (am 0)), (1, .int (nI p)), (2, .int (nI q))] := hl
        refine lv_aload_n C.1 C.2.1 dX1_behind_24 rfl (lv_at hl 1 rfl) ?_
        refine lv_aload_n C.1 C.2.1 dX1_behind_25 rfl (lv_at hl 1 rfl) ?_
        refine xt_get xt_inX1 C hW 0 rfl rfl 3 (by decide) rfl flX1_n rfl dX1_behind_26 ?_
        refine xt_iconst C 1 dX1_behind_29 (by decide +kernel) ?_
        refine xt_isub C dX1_behind_30 (by omega) ?_
        refine lv_iload_n C.1 C.2.1 dX1_behind_31 rfl (lv_at hl 2 rfl) ?_
        refine xt_isub C dX1_behind_32 (by omega) ?_
        refine xt_ci hA hW (xt_runV C hW.1 hW.2.1 cwX1_X1_power (cm_power l D cI cL am S K n iz dz tp bt w ro wa ch al fr ((n - 1) - p) (by omega)) rfl rfl rfl hl.1 (rest := []) rfl (Nat.le_of_ble_eq_true rfl) ⟨(Nat.le_of_ble_eq_true rfl), (Nat.le_of_ble_eq_true rfl)⟩ ⟨Nat.zero_le _, Nat.zero_le _⟩ dX1_behind_33) (fun r33 u H locs hp33 hW => ?_)
        replace hW : xt_W D A ss.heap (xM am cI cL S K n iz dz tp bt w ro wa ch al fr) H locs := hW
        subst hp33
        refine lv_istore C.1 C.2.1 dX1_behind_36 hl (by decide) rfl (fun ls hl => ?_)
        replace hl : lv_has ls 7 [(5, .int (nI (S ^ ((n - 1) - p)))), (3, .long (lN 0)), (0, .ref (am 0)), (1, .int (nI p)), (2, .int (nI q))] := hl
        refine xt_iconst C 0 dX1_behind_38 (by decide +kernel) ?_
        refine W.eq (g2 := F0 mi 39 ls [.int (nI 0)]) rfl ?_
        refine lv_istore C.1 C.2.1 dX1_behind_39 hl (by decide) rfl (fun ls hl => ?_)
        replace hl : lv_has ls 7 [(6, .int (nI 0)), (5, .int (nI (S ^ ((n - 1) - p)))), (3, .long (lN 0)), (0, .ref (am 0)), (1, .int (nI p)), (2, .int (nI q))] := hl
        have lp41 : ∀ (mq0 : Nat) (i : Nat) (wv : Nat → Nat), S ^ (n - 1 - p) - i = mq0 → (i ≤ S ^ (n - 1 - p)) → ∀ (ls : Array Slot) (H : Heap) (locs : List Loc), lv_has ls 7 [(6, .int (nI i)), (5, .int (nI (S ^ (n - 1 - p)))), (3, .long (lN (ms_sum (fun z1 => ms_bg (me w ro) S n p q z1) i))), (0, .ref (am 0)), (1, .int (nI p)), (2, .int (nI q))] → xt_W D A ss.heap (xM am cI cL S K n iz dz tp bt w ro wv ch al fr) H locs → W pg l ev (xt_R 1) ss mi args below meth cd H locs 0 0 Q (F0 mi 41 ls []) := by
          intro mq0
          induction mq0 using Nat.strongRecOn with
          | _ mq0 ih41 =>
            intro i wv hq41 hi ls H locs hl hW
            refine lv_iload C.1 C.2.1 dX1_behind_41 (lv_at hl 0 rfl) ?_
            refine lv_iload C.1 C.2.1 dX1_behind_43 (lv_at hl 1 rfl) ?_
            refine xt_icmp_ge C (by omega) (by omega) dX1_behind_45 (tgt := 92) (by decide) (fun h45 => ?_) (fun h45 => ?_)
            · refine lv_lload_n C.1 C.2.1 dX1_behind_92 rfl (lv_at hl 2 rfl) ?_
              exact xt_lret C hE wv hW (by show lN (ms_sum _ i) = lN _; rw [show i = S ^ (n - 1 - p) by omega, ms_bh_sum (n - 1 - p) p q rfl (Or.inr hpn)]) dX1_behind_93
            · refine lv_aload_n C.1 C.2.1 dX1_behind_48 rfl (lv_at hl 3 rfl) ?_
              refine lv_iload C.1 C.2.1 dX1_behind_49 (lv_at hl 0 rfl) ?_
              refine lv_iload_n C.1 C.2.1 dX1_behind_51 rfl (lv_at hl 4 rfl) ?_
              refine xt_iconst C 1 dX1_behind_52 (by decide +kernel) ?_
              refine xt_iadd C dX1_behind_53 ?_
              refine lv_aload_n C.1 C.2.1 dX1_behind_54 rfl (lv_at hl 3 rfl) ?_
              refine xt_get xt_inX1 C hW 0 rfl rfl 3 (by decide) rfl flX1_n rfl dX1_behind_55 ?_
              refine xt_iconst C 1 dX1_behind_58 (by decide +kernel) ?_
              refine lv_isub C.1 C.2.1 dX1_behind_59 ?_
              refine xt_cvd hA hW (xt_runV C hW.1 hW.2.1 cwX1_X1_spell (cm_spell l D cI cL am S K n iz dz tp bt w ro wv ch al fr i (p + 1) n (by omega) (by omega) (by omega) (by omega) (by omega)) rfl rfl rfl hl.1 (rest := []) rfl (Nat.le_of_ble_eq_true rfl) ⟨(Nat.le_of_ble_eq_true rfl), (Nat.le_of_ble_eq_true rfl)⟩ ⟨Nat.zero_le _, Nat.zero_le _⟩ dX1_behind_60) (fun u H locs hp60 hW => ?_)
              obtain ⟨wa_60, rfl⟩ : ∃ z, z = u := ⟨_, rfl⟩
              replace hW : xt_W D A ss.heap (xM am cI cL S K n iz dz tp bt w ro wa_60 ch al fr) H locs := hW
              replace hp60 : (∀ z1, (p + 1) ≤ z1 ∧ z1 < n → wa_60 z1 = i / S ^ (n - 1 - z1) % S) ∧ (∀ z1, ¬ ((p + 1) ≤ z1 ∧ z1 < n) → wa_60 z1 = wv z1) := hp60
              refine lv_aload_n C.1 C.2.1 dX1_behind_63 rfl (lv_at hl 3 rfl) ?_
              refine xt_get xt_inX1 C hW 0 rfl rfl 5 (by decide) rfl flX1_way rfl dX1_behind_64 ?_
              refine W.eq (g2 := F0 mi 67 ls [.ref (am 3)]) rfl ?_
              refine lv_iload_n C.1 C.2.1 dX1_behind_67 rfl (lv_at hl 4 rfl) ?_
              refine lv_iload_n C.1 C.2.1 dX1_behind_68 rfl (lv_at hl 5 rfl) ?_
              refine xt_iast C hW 3 rfl (by decide) dX1_behind_69 (by omega) (fun H locs hW => ?_)
              replace hW : xt_W D A ss.heap (xM am cI cL S K n iz dz tp bt w ro (va_up wa_60 p q) ch al fr) H locs := hW
              refine lv_lload_n C.1 C.2.1 dX1_behind_70 rfl (lv_at hl 2 rfl) ?_
              refine lv_aload_n C.1 C.2.1 dX1_behind_71 rfl (lv_at hl 3 rfl) ?_
              refine lv_iload_n C.1 C.2.1 dX1_behind_72 rfl (lv_at hl 4 rfl) ?_
              refine xt_iconst C 1 dX1_behind_73 (by decide +kernel) ?_
              refine xt_iadd C dX1_behind_74 ?_
              refine lv_aload_n C.1 C.2.1 dX1_behind_75 rfl (lv_at hl 3 rfl) ?_
              refine xt_get xt_inX1 C hW 0 rfl rfl 3 (by decide) rfl flX1_n rfl dX1_behind_76 ?_
              refine xt_iconst C 1 dX1_behind_79 (by decide +kernel) ?_
              refine lv_isub C.1 C.2.1 dX1_behind_80 ?_
              refine W.eq (g2 := F0 mi 81 ls [.int (nI n - nI 1), .int (nI (p + 1)), .ref (am 0), .long (lN (ms_sum (fun z1 => ms_bg (me w ro) S n p q z1) i))]) rfl ?_
              refine xt_cl hA hW (xt_runV C hW.1 hW.2.1 cwX1_X1_product (cm_product l D cI cL am S K n iz dz tp bt w ro (va_up wa_60 p q) ch al fr (p + 1) n (by omega) (by omega) (hw) (fun j hj hj2 => by by_cases c : j = p; (rw [c, xq_up]; omega); (rw [xq_un c, hp60.1 j ⟨by omega, hj⟩]; exact Nat.lt_of_lt_of_le (Nat.mod_lt _ hS0) hS3)) (hsy)) rfl rfl rfl hl.1 (rest := [.long (lN (ms_sum (fun z1 => ms_bg (me w ro) S n p q z1) i))]) rfl (Nat.le_of_ble_eq_true rfl) ⟨(Nat.le_of_ble_eq_true rfl), (Nat.le_of_ble_eq_true rfl)⟩ ⟨Nat.zero_le _, Nat.zero_le _⟩ dX1_behind_81) (fun r81 u H locs hp81 hW => ?_)
              replace hW : xt_W D A ss.heap (xM am cI cL S K n iz dz tp bt w ro (va_up wa_60 p q) ch al fr) H locs := hW
              subst hp81
              rw [mq_bg (wa := wv) hpn hp60.1]
              refine xt_ladd C dX1_behind_84 ?_
              refine lv_lstore_n C.1 C.2.1 dX1_behind_85 rfl hl (by decide) rfl (fun ls hl => ?_)
              replace hl : lv_has ls 7 [(3, .long (lN ((ms_sum (fun z1 => ms_bg (me w ro) S n p q z1) i) + (ms_bg (me w ro) S n p q i)))), (6, .int (nI i)), (5, .int (nI (S ^ (n - 1 - p)))), (0, .ref (am 0)), (1, .int (nI p)), (2, .int (nI q))] := hl
              refine lv_iinc (k := 1) C.1 C.2.1 dX1_behind_86 hl rfl xt_inc (by decide) rfl (fun ls hl => ?_)
              replace hl : lv_has ls 7 [(6, .int (nI (i + 1))), (3, .long (lN ((ms_sum (fun z1 => ms_bg (me w ro) S n p q z1) i) + (ms_bg (me w ro) S n p q i)))), (5, .int (nI (S ^ (n - 1 - p)))), (0, .ref (am 0)), (1, .int (nI p)), (2, .int (nI q))] := hl
              refine lv_goto C.1 C.2.1 dX1_behind_89 (tgt := 41) (by decide) ?_
              exact ih41 _ (by omega) (i + 1) (va_up wa_60 p q) rfl (by omega) ls _ _ (lv_sub hl [0, 2, 1, 3, 4, 5] rfl) hW
        exact lp41 _ 0 wa rfl (Nat.zero_le _) ls _ _ (lv_sub hl [0, 1, 2, 3, 4, 5] rfl) hW
      · exfalso
        omega
    · exact absurd (⟨q, by omega, rfl⟩) hno
set_option maxHeartbeats 4000000 in
set_option maxRecDepth 100000 in
theorem cm_behind_n (l : Launch) (D : va_G) (cI cL : ClassId) (am : Nat → Nat) (S K n iz dz tp bt : Nat) (w ro wa ch al fr : Nat → Nat) (p : Int32) (q : Int32) (hV : mq_V S K n w ro) (hno : ¬ ((∃ j, j < n ∧ p = nI j) ∧ ∃ j, j < S ∧ q = nI j)) : xt_M l yX1_behind cX1_behind 7 (some .long) 1 D cI cL [.ref (am 0), .int p, .int q] (xM am cI cL S K n iz dz tp bt w ro wa ch al fr) (xt_Ql D cI cL (xM am cI cL S K n iz dz tp bt w ro wa ch al fr) (fun (r : Int64) (u : Unit) => r = lN 0) (fun u => xM am cI cL S K n iz dz tp bt w ro wa ch al fr)) := by
  obtain ⟨hS0, hS3, hK0, hK4, hn6, hw, hsK⟩ := hV
  have hsy : ∀ p, p < n → ro p < 4 := fun p h => Nat.lt_of_lt_of_le (hsK p h) hK4
  refine xt_start (own := RX1) rfl (by decide) (Nat.le_of_ble_eq_true rfl) (fun pg ev ss mi args below meth cd A Q ls C hE hA hl hW => ?_)
  replace hl : lv_has ls 7 [(0, .ref (am 0)), (1, .int p), (2, .int q)] := hl
  refine lv_iload_n C.1 C.2.1 dX1_behind_0 rfl (lv_at hl 1 rfl) ?_
  refine lv_if_lt C.1 C.2.1 dX1_behind_1 (tgt := 20) (by decide) (fun h1 => ?_) (fun h1 => ?_)
  · refine xt_lconst C 0 dX1_behind_20 (by decide +kernel) ?_
    exact xt_lret C hE () hW (rfl) dX1_behind_21
  · refine lv_iload_n C.1 C.2.1 dX1_behind_4 rfl (lv_at hl 1 rfl) ?_
    refine lv_aload_n C.1 C.2.1 dX1_behind_5 rfl (lv_at hl 0 rfl) ?_
    refine xt_get xt_inX1 C hW 0 rfl rfl 3 (by decide) rfl flX1_n rfl dX1_behind_6 ?_
    refine lv_icmp_ge C.1 C.2.1 dX1_behind_9 (tgt := 20) (by decide) (fun h9 => ?_) (fun h9 => ?_)
    · refine xt_lconst C 0 dX1_behind_20 (by decide +kernel) ?_
      exact xt_lret C hE () hW (rfl) dX1_behind_21
    · refine lv_aload_n C.1 C.2.1 dX1_behind_12 rfl (lv_at hl 0 rfl) ?_
      refine lv_iload_n C.1 C.2.1 dX1_behind_13 rfl (lv_at hl 2 rfl) ?_
      refine xt_ci hA hW (xt_runV C hW.1 hW.2.1 cwX1_X1_state (cm_state l D cI cL am S K n iz dz tp bt w ro wa ch al fr q (by omega)) rfl rfl rfl hl.1 (rest := []) rfl (Nat.le_of_ble_eq_true rfl) ⟨(Nat.le_of_ble_eq_true rfl), (Nat.le_of_ble_eq_true rfl)⟩ ⟨Nat.zero_le _, Nat.zero_le _⟩ dX1_behind_14) (fun r14 u H locs hp14 hW => ?_)
      replace hW : xt_W D A ss.heap (xM am cI cL S K n iz dz tp bt w ro wa ch al fr) H locs := hW
      replace hp14 : (r14 = nI 1 ∧ ∃ z1, z1 < S ∧ q = nI z1) ∨ (r14 = nI 0 ∧ ¬ ∃ z1, z1 < S ∧ q = nI z1) := hp14
      rcases hp14 with ⟨-, hz⟩ | ⟨rfl, -⟩
      · exact absurd (⟨xq_yes (by omega) h1 h9, hz⟩) hno
      · replace hl : lv_has ls 7 [(0, .ref (am 0)), (1, .int p), (2, .int q)] := hl
        refine xt_if_ne C (by omega) dX1_behind_17 (tgt := 22) (by decide) (fun h17 => ?_) (fun h17 => ?_)
        · exfalso
          omega
        · refine xt_lconst C 0 dX1_behind_20 (by decide +kernel) ?_
          exact xt_lret C hE () hW (rfl) dX1_behind_21
set_option maxHeartbeats 4000000 in
set_option maxRecDepth 100000 in
theorem cm_ways (l : Launch) (D : va_G) (cI cL : ClassId) (am : Nat → Nat) (S K n iz dz tp bt : Nat) (w ro wa ch al fr : Nat → Nat) (hV : mq_V S K n w ro) : xt_M l yX1_ways cX1_ways 4 (some .int) 2 D cI cL [.ref (am 0)] (xM am cI cL S K n iz dz tp bt w ro wa ch al fr) (xt_Qi D cI cL (xM am cI cL S K n iz dz tp bt w ro wa ch al fr) (fun (r : Int32) (u : (Nat → Nat)) => r = nI (ms_cnt (ms_wt (me w ro) S n) (S ^ n))) (fun u => xM am cI cL S K n iz dz tp bt w ro u ch al fr)) := by
  have hV2 := hV
  obtain ⟨hS0, hS3, hK0, hK4, hn6, hw, hsK⟩ := hV
  have hsy : ∀ p, p < n → ro p < 4 := fun p h => Nat.lt_of_lt_of_le (hsK p h) hK4
  have hpb := ms_pow_le hS3 hn6
  refine xt_start (own := RX1) rfl (by decide) (Nat.le_of_ble_eq_true rfl) (fun pg ev ss mi args below meth cd A Q ls C hE hA hl hW => ?_)
  replace hl : lv_has ls 4 [(0, .ref (am 0))] := hl
  refine xt_iconst C 0 dX1_ways_0 (by decide +kernel) ?_
  refine lv_istore_n C.1 C.2.1 dX1_ways_1 rfl hl (by decide) rfl (fun ls hl => ?_)
  replace hl : lv_has ls 4 [(1, .int (nI 0)), (0, .ref (am 0))] := hl
  refine lv_aload_n C.1 C.2.1 dX1_ways_2 rfl (lv_at hl 1 rfl) ?_
  refine lv_aload_n C.1 C.2.1 dX1_ways_3 rfl (lv_at hl 1 rfl) ?_
  refine xt_get xt_inX1 C hW 0 rfl rfl 3 (by decide) rfl flX1_n rfl dX1_ways_4 ?_
  refine xt_ci hA hW (xt_runV C hW.1 hW.2.1 cwX1_X1_power (cm_power l D cI cL am S K n iz dz tp bt w ro wa ch al fr n (by omega)) rfl rfl rfl hl.1 (rest := []) rfl (Nat.le_of_ble_eq_true rfl) ⟨(Nat.le_of_ble_eq_true rfl), (Nat.le_of_ble_eq_true rfl)⟩ ⟨Nat.zero_le _, Nat.zero_le _⟩ dX1_ways_7) (fun r7 u H locs hp7 hW => ?_)
  replace hW : xt_W D A ss.heap (xM am cI cL S K n iz dz tp bt w ro wa ch al fr) H locs := hW
  subst hp7
  refine lv_istore_n C.1 C.2.1 dX1_ways_10 rfl hl (by decide) rfl (fun ls hl => ?_)
  replace hl : lv_has ls 4 [(2, .int (nI (S ^ n))), (1, .int (nI 0)), (0, .ref (am 0))] := hl
  refine xt_iconst C 0 dX1_ways_11 (by decide +kernel) ?_
  refine lv_istore_n C.1 C.2.1 dX1_ways_12 rfl hl (by decide) rfl (fun ls hl => ?_)
  replace hl : lv_has ls 4 [(3, .int (nI 0)), (2, .int (nI (S ^ n))), (1, .int (nI 0)), (0, .ref (am 0))] := hl
  have lp13 : ∀ (mq0 : Nat) (i : Nat) (wv : Nat → Nat), S ^ n - i = mq0 → (i ≤ S ^ n) → ∀ (ls : Array Slot) (H : Heap) (locs : List Loc), lv_has ls 4 [(3, .int (nI i)), (2, .int (nI (S ^ n))), (1, .int (nI (ms_cnt (ms_wt (me w ro) S n) i))), (0, .ref (am 0))] → xt_W D A ss.heap (xM am cI cL S K n iz dz tp bt w ro wv ch al fr) H locs → W pg l ev (xt_R 2) ss mi args below meth cd H locs 0 0 Q (F0 mi 13 ls []) := by
    intro mq0
    induction mq0 using Nat.strongRecOn with
    | _ mq0 ih13 =>
      intro i wv hq13 hi ls H locs hl hW
      refine lv_iload_n C.1 C.2.1 dX1_ways_13 rfl (lv_at hl 0 rfl) ?_
      refine lv_iload_n C.1 C.2.1 dX1_ways_14 rfl (lv_at hl 1 rfl) ?_
      refine xt_icmp_ge C (by omega) (by omega) dX1_ways_15 (tgt := 42) (by decide) (fun h15 => ?_) (fun h15 => ?_)
      · refine lv_iload_n C.1 C.2.1 dX1_ways_42 rfl (lv_at hl 2 rfl) ?_
        exact xt_iret C hE wv hW (by show nI (ms_cnt _ i) = nI _; rw [show i = S ^ n by omega]) dX1_ways_43
      · refine lv_aload_n C.1 C.2.1 dX1_ways_18 rfl (lv_at hl 3 rfl) ?_
        refine lv_iload_n C.1 C.2.1 dX1_ways_19 rfl (lv_at hl 0 rfl) ?_
        refine xt_cl hA hW (xt_runV C hW.1 hW.2.1 cwX1_X1_weightOf (cm_weightOf l D cI cL am S K n iz dz tp bt w ro wv ch al fr i (hV2) (by omega)) rfl rfl rfl hl.1 (rest := []) rfl (Nat.le_of_ble_eq_true rfl) ⟨(Nat.le_of_ble_eq_true rfl), (Nat.le_of_ble_eq_true rfl)⟩ ⟨Nat.zero_le _, Nat.zero_le _⟩ dX1_ways_20) (fun r20 u H locs hp20 hW => ?_)
        obtain ⟨wa_20, rfl⟩ : ∃ z, z = u := ⟨_, rfl⟩
        replace hW : xt_W D A ss.heap (xM am cI cL S K n iz dz tp bt w ro wa_20 ch al fr) H locs := hW
        replace hp20 : r20 = lN (ms_wt (me w ro) S n i) ∧ ∀ z1, z1 < n → wa_20 z1 = ms_dg S n i z1 := hp20
        obtain ⟨rfl, hp20⟩ := hp20
        refine xt_lconst C 0 dX1_ways_23 (by decide +kernel) ?_
        refine xt_l_le C (mq_wtb hw hS3 hS0 hn6 hsy) (by decide) dX1_ways_24 dX1_ways_25 (tgt := 34) (by decide) (fun h24 => ?_) (fun h24 => ?_)
        · refine lv_iload_n C.1 C.2.1 dX1_ways_34 rfl (lv_at hl 2 rfl) ?_
          refine lv_istore_n C.1 C.2.1 dX1_ways_35 rfl hl (by decide) rfl (fun ls hl => ?_)
          replace hl : lv_has ls 4 [(1, .int (nI (ms_cnt (ms_wt (me w ro) S n) i))), (3, .int (nI i)), (2, .int (nI (S ^ n))), (0, .ref (am 0))] := hl
          refine lv_iinc (k := 1) C.1 C.2.1 dX1_ways_36 hl rfl xt_inc (by decide) rfl (fun ls hl => ?_)
          replace hl : lv_has ls 4 [(3, .int (nI (i + 1))), (1, .int (nI (ms_cnt (ms_wt (me w ro) S n) i))), (2, .int (nI (S ^ n))), (0, .ref (am 0))] := hl
          refine lv_goto C.1 C.2.1 dX1_ways_39 (tgt := 13) (by decide) ?_
          rw [← ms_cnt_z (show ms_wt (me w ro) S n i = 0 by omega)] at hl
          replace hl : lv_has ls 4 [(3, .int (nI (i + 1))), (1, .int (nI (ms_cnt (ms_wt (me w ro) S n) (i + 1)))), (2, .int (nI (S ^ n))), (0, .ref (am 0))] := hl
          exact ih13 _ (by omega) (i + 1) wa_20 rfl (by omega) ls _ _ (lv_sub hl [0, 2, 1, 3] rfl) hW
        · refine lv_iload_n C.1 C.2.1 dX1_ways_28 rfl (lv_at hl 2 rfl) ?_
          refine xt_iconst C 1 dX1_ways_29 (by decide +kernel) ?_
          refine xt_iadd C dX1_ways_30 ?_
          refine lv_goto C.1 C.2.1 dX1_ways_31 (tgt := 35) (by decide) ?_
          refine lv_istore_n C.1 C.2.1 dX1_ways_35 rfl hl (by decide) rfl (fun ls hl => ?_)
          replace hl : lv_has ls 4 [(1, .int (nI ((ms_cnt (ms_wt (me w ro) S n) i) + 1))), (3, .int (nI i)), (2, .int (nI (S ^ n))), (0, .ref (am 0))] := hl
          refine lv_iinc (k := 1) C.1 C.2.1 dX1_ways_36 hl rfl xt_inc (by decide) rfl (fun ls hl => ?_)
          replace hl : lv_has ls 4 [(3, .int (nI (i + 1))), (1, .int (nI ((ms_cnt (ms_wt (me w ro) S n) i) + 1))), (2, .int (nI (S ^ n))), (0, .ref (am 0))] := hl
          refine lv_goto C.1 C.2.1 dX1_ways_39 (tgt := 13) (by decide) ?_
          rw [← ms_cnt_s (show ms_wt (me w ro) S n i ≠ 0 by omega)] at hl
          replace hl : lv_has ls 4 [(3, .int (nI (i + 1))), (1, .int (nI (ms_cnt (ms_wt (me w ro) S n) (i + 1)))), (2, .int (nI (S ^ n))), (0, .ref (am 0))] := hl
          exact ih13 _ (by omega) (i + 1) wa_20 rfl (by omega) ls _ _ (lv_sub hl [0, 2, 1, 3] rfl) hW
  exact lp13 _ 0 wa rfl (Nat.zero_le _) ls _ _ (lv_sub hl [0, 1, 2, 3] rfl) hW
end
section
/-- the first of the greatest so far -/
def mq_best (a : Nat → Nat) (k : Nat) (bs : Int32) : Prop := (bs = -1 ∧ ∀ j, j < k → a j = 0) ∨ ∃ b, b < k ∧ bs = nI b ∧ a b ≠ 0 ∧ (∀ j, j < k → a j ≤ a b) ∧ (∀ j, j < b → a j < a b)
theorem mq_b0 {a : Nat → Nat} {k : Nat} {bs : Int32} (h : mq_best a k bs) (hz : a k = 0) : mq_best a (k + 1) bs := by
  rcases h with ⟨h1, h2⟩ | ⟨b, h1, h2, h3, h4, h5⟩
  · refine Or.inl ⟨h1, fun j hj => ?_⟩
    by_cases e : j = k
    · rw [e]; exact hz
    · exact h2 j (by omega)
  · refine Or.inr ⟨b, by omega, h2, h3, fun j hj => ?_, h5⟩
    by_cases e : j = k
    · rw [e, hz]; exact Nat.zero_le _
    · exact h4 j (by omega)
theorem mq_b1 {a : Nat → Nat} {k : Nat} (h2 : ∀ j, j < k → a j = 0) (hz : 0 < a k) : mq_best a (k + 1) (nI k) := by
  refine Or.inr ⟨k, by omega, rfl, by omega, fun j hj => ?_, fun j hj => by rw [h2 j hj]; exact hz⟩
  by_cases e : j = k
  · rw [e]; exact Nat.le_refl _
  · rw [h2 j (by omega)]; exact Nat.zero_le _
theorem mq_b2 {a : Nat → Nat} {k b : Nat} (h1 : b < k) (h3 : a b ≠ 0) (h4 : ∀ j, j < k → a j ≤ a b) (h5 : ∀ j, j < b → a j < a b) (hz : a k ≤ a b) : mq_best a (k + 1) (nI b) := by
  refine Or.inr ⟨b, by omega, rfl, h3, fun j hj => ?_, h5⟩
  by_cases e : j = k
  · rw [e]; exact hz
  · exact h4 j (by omega)
theorem mq_b3 {a : Nat → Nat} {k b : Nat} (h1 : b < k) (h4 : ∀ j, j < k → a j ≤ a b) (hz : a b < a k) : mq_best a (k + 1) (nI k) := by
  refine Or.inr ⟨k, by omega, rfl, by omega, fun j hj => ?_, fun j hj => by have := h4 j hj; omega⟩
  by_cases e : j = k
  · rw [e]; exact Nat.le_refl _
  · have := h4 j (by omega)
    omega
theorem mq_ini {W av g : Nat → Nat} {K wc r : Nat} (hr : r = 0) (h : ∀ z, z < K → av z = W z) : ∀ z, z < K → av z = if ∃ j, j < r ∧ j < wc ∧ g j = z then 0 else W z := by
  intro z hz
  rw [if_neg (by rintro ⟨j, h1, -⟩; omega)]
  exact h z hz
theorem mq_avl {W av g : Nat → Nat} {K wc r : Nat} (h : ∀ z, z < K → av z = if ∃ j, j < r ∧ j < wc ∧ g j = z then 0 else W z) {z : Nat} (hz : z < K) (hW : W z < 2 ^ 63) : av z < 2 ^ 63 := by
  rw [h z hz]
  split
  · decide
  · exact hW
theorem mq_nxt {W av g : Nat → Nat} {K wc r b : Nat} (h : ∀ z, z < K → av z = if ∃ j, j < r ∧ j < wc ∧ g j = z then 0 else W z) (hr : r < wc) (hb : g r = b) : ∀ z, z < K → va_up av b 0 z = if ∃ j, j < r + 1 ∧ j < wc ∧ g j = z then 0 else W z := by
  intro z hz
  by_cases e : z = b
  · rw [e, xq_up, if_pos ⟨r, by omega, hr, hb⟩]
  · rw [xq_un e, h z hz]
    by_cases c : ∃ j, j < r ∧ j < wc ∧ g j = z
    · rw [if_pos c]
      obtain ⟨j, c1, c2, c3⟩ := c
      rw [if_pos ⟨j, by omega, c2, c3⟩]
    · rw [if_neg c, if_neg]
      rintro ⟨j, c1, c2, c3⟩
      by_cases ej : j = r
      · rw [ej, hb] at c3
        exact e c3.symm
      · exact c ⟨j, by omega, c2, c3⟩
set_option maxHeartbeats 4000000 in
set_option maxRecDepth 100000 in
theorem cm_rank (l : Launch) (D : va_G) (cI cL : ClassId) (am : Nat → Nat) (S K n iz dz tp bt : Nat) (w ro wa ch al fr : Nat → Nat) (i : Nat) (wc : Nat) (rw rk g pk : Nat → Nat) (hV : mq_V S K n w ro) (hi12 : i < 12) (hrr : ms_rr (ms_wt (me w ro) S n) pk (S ^ n) wc rw rk g) : xt_M l yX1_rank cX1_rank 7 (some .int) 2 D cI cL [.ref (am 0), .int (nI i)] (xM am cI cL S K n iz dz tp bt w ro wa ch al fr) (xt_Qi D cI cL (xM am cI cL S K n iz dz tp bt w ro wa ch al fr) (fun (r : Int32) (u : (Nat → Nat) × (Nat → Nat)) => (i < wc ∧ r = nI (g i)) ∨ (¬ i < wc ∧ r = -1)) (fun u => xM am cI cL S K n iz dz tp bt w ro u.1 ch u.2 fr)) := by
  have hV2 := hV
  obtain ⟨hS0, hS3, hK0, hK4, hn6, hw, hsK⟩ := hV
  have hsy : ∀ p, p < n → ro p < 4 := fun p h => Nat.lt_of_lt_of_le (hsK p h) hK4
  have hpb := ms_pow_le hS3 hn6
  refine xt_start (own := RX1) rfl (by decide) (Nat.le_of_ble_eq_true rfl) (fun pg ev ss mi args below meth cd A Q ls C hE hA hl hW => ?_)
  replace hl : lv_has ls 7 [(0, .ref (am 0)), (1, .int (nI i))] := hl
  refine lv_aload_n C.1 C.2.1 dX1_rank_0 rfl (lv_at hl 0 rfl) ?_
  refine lv_aload_n C.1 C.2.1 dX1_rank_1 rfl (lv_at hl 0 rfl) ?_
  refine xt_get xt_inX1 C hW 0 rfl rfl 3 (by decide) rfl flX1_n rfl dX1_rank_2 ?_
  refine xt_ci hA hW (xt_runV C hW.1 hW.2.1 cwX1_X1_power (cm_power l D cI cL am S K n iz dz tp bt w ro wa ch al fr n (by omega)) rfl rfl rfl hl.1 (rest := []) rfl (Nat.le_of_ble_eq_true rfl) ⟨(Nat.le_of_ble_eq_true rfl), (Nat.le_of_ble_eq_true rfl)⟩ ⟨Nat.zero_le _, Nat.zero_le _⟩ dX1_rank_5) (fun r5 u H locs hp5 hW => ?_)
  replace hW : xt_W D A ss.heap (xM am cI cL S K n iz dz tp bt w ro wa ch al fr) H locs := hW
  subst hp5
  refine lv_istore_n C.1 C.2.1 dX1_rank_8 rfl hl (by decide) rfl (fun ls hl => ?_)
  replace hl : lv_has ls 7 [(2, .int (nI (S ^ n))), (0, .ref (am 0)), (1, .int (nI i))] := hl
  refine lv_iload_n C.1 C.2.1 dX1_rank_9 rfl (lv_at hl 2 rfl) ?_
  refine xt_if_lt C (by omega) dX1_rank_10 (tgt := 19) (by decide) ?_
  refine lv_iload_n C.1 C.2.1 dX1_rank_13 rfl (lv_at hl 2 rfl) ?_
  refine xt_bipush C 11 dX1_rank_14 (by decide +kernel) ?_
  refine xt_icmp_le C (by omega) (by omega) dX1_rank_16 (tgt := 21) (by decide) (fun h16 => ?_) (fun h16 => ?_)
  · refine xt_iconst C 0 dX1_rank_21 (by decide +kernel) ?_
    refine lv_istore_n C.1 C.2.1 dX1_rank_22 rfl hl (by decide) rfl (fun ls hl => ?_)
    replace hl : lv_has ls 7 [(3, .int (nI 0)), (2, .int (nI (S ^ n))), (0, .ref (am 0)), (1, .int (nI i))] := hl
    have lp23 : ∀ (mq0 : Nat) (j : Nat) (wv : Nat → Nat) (av : Nat → Nat), S ^ n - j = mq0 → (j ≤ S ^ n) → (∀ z, z < j → av z = ms_wt (me w ro) S n z) → ∀ (ls : Array Slot) (H : Heap) (locs : List Loc), lv_has ls 7 [(3, .int (nI j)), (2, .int (nI (S ^ n))), (0, .ref (am 0)), (1, .int (nI i))] → xt_W D A ss.heap (xM am cI cL S K n iz dz tp bt w ro wv ch av fr) H locs → W pg l ev (xt_R 2) ss mi args below meth cd H locs 0 0 Q (F0 mi 23 ls []) := by
      intro mq0
      induction mq0 using Nat.strongRecOn with
      | _ mq0 ih23 =>
        intro j wv av hq23 hj h1 ls H locs hl hW
        refine lv_iload_n C.1 C.2.1 dX1_rank_23 rfl (lv_at hl 0 rfl) ?_
        refine lv_iload_n C.1 C.2.1 dX1_rank_24 rfl (lv_at hl 1 rfl) ?_
        refine xt_icmp_ge C (by omega) (by omega) dX1_rank_25 (tgt := 45) (by decide) (fun h25 => ?_) (fun h25 => ?_)
        · refine lv_iconst (v := -1) C.1 C.2.1 dX1_rank_45 (by decide +kernel) ?_
          refine lv_istore_n C.1 C.2.1 dX1_rank_46 rfl hl (by decide) rfl (fun ls hl => ?_)
          replace hl : lv_has ls 7 [(3, .int (-1)), (2, .int (nI (S ^ n))), (0, .ref (am 0)), (1, .int (nI i))] := hl
          refine xt_iconst C 0 dX1_rank_47 (by decide +kernel) ?_
          refine lv_istore C.1 C.2.1 dX1_rank_48 hl (by decide) rfl (fun ls hl => ?_)
          replace hl : lv_has ls 7 [(4, .int (nI 0)), (3, .int (-1)), (2, .int (nI (S ^ n))), (0, .ref (am 0)), (1, .int (nI i))] := hl
          have lp50 : ∀ (mq0 : Nat) (r : Nat) (av2 : Nat → Nat) (fd : Int32), i + 1 - r = mq0 → (r ≤ i + 1) → (r ≤ wc) → (∀ z, z < S ^ n → av2 z = if ∃ j, j < r ∧ j < wc ∧ g j = z then 0 else ms_wt (me w ro) S n z) → (r = 0 ∨ fd = nI (g (r - 1))) → ∀ (ls : Array Slot) (H : Heap) (locs : List Loc), lv_has ls 7 [(4, .int (nI r)), (3, .int fd), (2, .int (nI (S ^ n))), (0, .ref (am 0)), (1, .int (nI i))] → xt_W D A ss.heap (xM am cI cL S K n iz dz tp bt w ro wv ch av2 fr) H locs → W pg l ev (xt_R 2) ss mi args below meth cd H locs 0 0 Q (F0 mi 50 ls []) := by
            intro mq0
            induction mq0 using Nat.strongRecOn with
            | _ mq0 ih50 =>
              intro r av2 fd hq50 hr hrw ha hf ls H locs hl hW
              refine lv_iload C.1 C.2.1 dX1_rank_50 (lv_at hl 0 rfl) ?_
              refine lv_iload_n C.1 C.2.1 dX1_rank_52 rfl (lv_at hl 4 rfl) ?_
              refine xt_icmp_gt C (by omega) (by omega) dX1_rank_53 (tgt := 137) (by decide) (fun h53 => ?_) (fun h53 => ?_)
              · refine lv_iload_n C.1 C.2.1 dX1_rank_137 rfl (lv_at hl 1 rfl) ?_
                exact xt_iret C hE (wv, av2) hW (Or.inl ⟨by omega, by rcases hf with q | q; (exfalso; omega); (rw [q, show r - 1 = i by omega])⟩) dX1_rank_138
              · refine lv_iconst (v := -1) C.1 C.2.1 dX1_rank_56 (by decide +kernel) ?_
                refine lv_istore C.1 C.2.1 dX1_rank_57 hl (by decide) rfl (fun ls hl => ?_)
                replace hl : lv_has ls 7 [(5, .int (-1)), (4, .int (nI r)), (3, .int fd), (2, .int (nI (S ^ n))), (0, .ref (am 0)), (1, .int (nI i))] := hl
                refine xt_iconst C 0 dX1_rank_59 (by decide +kernel) ?_
                refine lv_istore C.1 C.2.1 dX1_rank_60 hl (by decide) rfl (fun ls hl => ?_)
                replace hl : lv_has ls 7 [(6, .int (nI 0)), (5, .int (-1)), (4, .int (nI r)), (3, .int fd), (2, .int (nI (S ^ n))), (0, .ref (am 0)), (1, .int (nI i))] := hl
                have lp62 : ∀ (mq0 : Nat) (k : Nat) (bs : Int32), S ^ n - k = mq0 → (k ≤ S ^ n) → (mq_best av2 k bs) → ∀ (ls : Array Slot) (H : Heap) (locs : List Loc), lv_has ls 7 [(6, .int (nI k)), (5, .int bs), (4, .int (nI r)), (3, .int fd), (2, .int (nI (S ^ n))), (0, .ref (am 0)), (1, .int (nI i))] → xt_W D A ss.heap (xM am cI cL S K n iz dz tp bt w ro wv ch av2 fr) H locs → W pg l ev (xt_R 2) ss mi args below meth cd H locs 0 0 Q (F0 mi 62 ls []) := by
                  intro mq0
                  induction mq0 using Nat.strongRecOn with
                  | _ mq0 ih62 =>
                    intro k bs hq62 hk hb ls H locs hl hW
                    refine lv_iload C.1 C.2.1 dX1_rank_62 (lv_at hl 0 rfl) ?_
                    refine lv_iload_n C.1 C.2.1 dX1_rank_64 rfl (lv_at hl 4 rfl) ?_
                    refine xt_icmp_ge C (by omega) (by omega) dX1_rank_65 (tgt := 113) (by decide) (fun h65 => ?_) (fun h65 => ?_)
                    · rcases hb with ⟨rfl, hz⟩ | ⟨b, hb1, rfl, hb2, hb3, hb4⟩
                      · replace hl : lv_has ls 7 [(6, .int (nI k)), (5, .int (-1)), (4, .int (nI r)), (3, .int fd), (2, .int (nI (S ^ n))), (0, .ref (am 0)), (1, .int (nI i))] := hl
                        refine lv_iload C.1 C.2.1 dX1_rank_113 (lv_at hl 1 rfl) ?_
                        refine lv_if_ge C.1 C.2.1 dX1_rank_115 (tgt := 120) (by decide) (fun h115 => ?_) (fun h115 => ?_)
                        · exfalso
                          exact absurd h115 (by decide)
                        · refine lv_iconst (v := -1) C.1 C.2.1 dX1_rank_118 (by decide +kernel) ?_
                          exact xt_iret C hE (wv, av2) hW (Or.inr ⟨fun q => ms_rr_none hrr (show r < 12 by omega) ha (fun z hzz => hz z (by omega)) (by omega), rfl⟩) dX1_rank_119
                      · replace hl : lv_has ls 7 [(6, .int (nI k)), (5, .int (nI b)), (4, .int (nI r)), (3, .int fd), (2, .int (nI (S ^ n))), (0, .ref (am 0)), (1, .int (nI i))] := hl
                        refine lv_iload C.1 C.2.1 dX1_rank_113 (lv_at hl 1 rfl) ?_
                        refine xt_if_ge C (by omega) dX1_rank_115 (tgt := 120) (by decide) ?_
                        refine lv_aload_n C.1 C.2.1 dX1_rank_120 rfl (lv_at hl 5 rfl) ?_
                        refine xt_get xt_inX1 C hW 0 rfl rfl 9 (by decide) rfl flX1_all rfl dX1_rank_121 ?_
                        refine lv_iload C.1 C.2.1 dX1_rank_124 (lv_at hl 1 rfl) ?_
                        refine xt_lconst C 0 dX1_rank_126 (by decide +kernel) ?_
                        refine xt_last C hW 5 rfl (by decide) dX1_rank_127 (by omega) (fun H locs hW => ?_)
                        replace hW : xt_W D A ss.heap (xM am cI cL S K n iz dz tp bt w ro wv ch (va_up av2 b 0) fr) H locs := hW
                        refine lv_iload C.1 C.2.1 dX1_rank_128 (lv_at hl 1 rfl) ?_
                        refine lv_istore_n C.1 C.2.1 dX1_rank_130 rfl hl (by decide) rfl (fun ls hl => ?_)
                        replace hl : lv_has ls 7 [(3, .int (nI b)), (6, .int (nI k)), (5, .int (nI b)), (4, .int (nI r)), (2, .int (nI (S ^ n))), (0, .ref (am 0)), (1, .int (nI i))] := hl
                        refine lv_iinc (k := 3) C.1 C.2.1 dX1_rank_131 hl rfl xt_inc (by decide) rfl (fun ls hl => ?_)
                        replace hl : lv_has ls 7 [(4, .int (nI (r + 1))), (3, .int (nI b)), (6, .int (nI k)), (5, .int (nI b)), (2, .int (nI (S ^ n))), (0, .ref (am 0)), (1, .int (nI i))] := hl
                        refine lv_goto C.1 C.2.1 dX1_rank_134 (tgt := 50) (by decide) ?_
                        exact ih50 _ (by omega) (r + 1) (va_up av2 b 0) (nI b) rfl (by omega) ((ms_rr_best hrr (by omega) ha (by omega) hb2 (fun z hz => hb3 z (by omega)) hb4).1) (mq_nxt ha (ms_rr_best hrr (by omega) ha (by omega) hb2 (fun z hz => hb3 z (by omega)) hb4).1 (ms_rr_best hrr (by omega) ha (by omega) hb2 (fun z hz => hb3 z (by omega)) hb4).2) (Or.inr (by rw [Nat.add_sub_cancel, (ms_rr_best hrr (by omega) ha (by omega) hb2 (fun z hz => hb3 z (by omega)) hb4).2])) ls _ _ (lv_sub hl [0, 1, 4, 5, 6] rfl) hW
                    · refine lv_aload_n C.1 C.2.1 dX1_rank_68 rfl (lv_at hl 5 rfl) ?_
                      refine xt_get xt_inX1 C hW 0 rfl rfl 9 (by decide) rfl flX1_all rfl dX1_rank_69 ?_
                      refine lv_iload C.1 C.2.1 dX1_rank_72 (lv_at hl 0 rfl) ?_
                      refine xt_lald C hW 5 rfl (by decide) dX1_rank_74 (by omega) ?_
                      refine xt_lconst C 0 dX1_rank_75 (by decide +kernel) ?_
                      refine xt_l_le C (mq_avl ha (by omega) (mq_wtb hw hS3 hS0 hn6 hsy)) (by decide) dX1_rank_76 dX1_rank_77 (tgt := 107) (by decide) (fun h76 => ?_) (fun h76 => ?_)
                      · refine lv_iinc (k := 0) C.1 C.2.1 dX1_rank_107 hl rfl xt_inc (by decide) rfl (fun ls hl => ?_)
                        replace hl : lv_has ls 7 [(6, .int (nI (k + 1))), (5, .int bs), (4, .int (nI r)), (3, .int fd), (2, .int (nI (S ^ n))), (0, .ref (am 0)), (1, .int (nI i))] := hl
                        refine lv_goto C.1 C.2.1 dX1_rank_110 (tgt := 62) (by decide) ?_
                        exact ih62 _ (by omega) (k + 1) bs rfl (by omega) (mq_b0 hb (by omega)) ls _ _ (lv_sub hl [0, 1, 2, 3, 4, 5, 6] rfl) hW
                      · rcases hb with ⟨rfl, hz⟩ | ⟨b, hb1, rfl, hb2, hb3, hb4⟩
                        · replace hl : lv_has ls 7 [(6, .int (nI k)), (5, .int (-1)), (4, .int (nI r)), (3, .int fd), (2, .int (nI (S ^ n))), (0, .ref (am 0)), (1, .int (nI i))] := hl
                          refine lv_iload C.1 C.2.1 dX1_rank_80 (lv_at hl 1 rfl) ?_
                          refine lv_if_lt C.1 C.2.1 dX1_rank_82 (tgt := 103) (by decide) (fun h82 => ?_) (fun h82 => ?_)
                          · refine lv_iload C.1 C.2.1 dX1_rank_103 (lv_at hl 0 rfl) ?_
                            refine lv_istore C.1 C.2.1 dX1_rank_105 hl (by decide) rfl (fun ls hl => ?_)
                            replace hl : lv_has ls 7 [(5, .int (nI k)), (6, .int (nI k)), (4, .int (nI r)), (3, .int fd), (2, .int (nI (S ^ n))), (0, .ref (am 0)), (1, .int (nI i))] := hl
                            refine lv_iinc (k := 1) C.1 C.2.1 dX1_rank_107 hl rfl xt_inc (by decide) rfl (fun ls hl => ?_)
                            replace hl : lv_has ls 7 [(6, .int (nI (k + 1))), (5, .int (nI k)), (4, .int (nI r)), (3, .int fd), (2, .int (nI (S ^ n))), (0, .ref (am 0)), (1, .int (nI i))] := hl
                            refine lv_goto C.1 C.2.1 dX1_rank_110 (tgt := 62) (by decide) ?_
                            exact ih62 _ (by omega) (k + 1) (nI k) rfl (by omega) (mq_b1 hz h76) ls _ _ (lv_sub hl [0, 1, 2, 3, 4, 5, 6] rfl) hW
                          · exfalso
                            exact h82 (by decide)
                        · replace hl : lv_has ls 7 [(6, .int (nI k)), (5, .int (nI b)), (4, .int (nI r)), (3, .int fd), (2, .int (nI (S ^ n))), (0, .ref (am 0)), (1, .int (nI i))] := hl
                          refine lv_iload C.1 C.2.1 dX1_rank_80 (lv_at hl 1 rfl) ?_
                          refine xt_if_lt C (by omega) dX1_rank_82 (tgt := 103) (by decide) ?_
                          refine lv_aload_n C.1 C.2.1 dX1_rank_85 rfl (lv_at hl 5 rfl) ?_
                          refine xt_get xt_inX1 C hW 0 rfl rfl 9 (by decide) rfl flX1_all rfl dX1_rank_86 ?_
                          refine lv_iload C.1 C.2.1 dX1_rank_89 (lv_at hl 0 rfl) ?_
                          refine xt_lald C hW 5 rfl (by decide) dX1_rank_91 (by omega) ?_
                          refine lv_aload_n C.1 C.2.1 dX1_rank_92 rfl (lv_at hl 5 rfl) ?_
                          refine xt_get xt_inX1 C hW 0 rfl rfl 9 (by decide) rfl flX1_all rfl dX1_rank_93 ?_
                          refine lv_iload C.1 C.2.1 dX1_rank_96 (lv_at hl 1 rfl) ?_
                          refine xt_lald C hW 5 rfl (by decide) dX1_rank_98 (by omega) ?_
                          refine xt_l_le C (mq_avl ha (by omega) (mq_wtb hw hS3 hS0 hn6 hsy)) (mq_avl ha (by omega) (mq_wtb hw hS3 hS0 hn6 hsy)) dX1_rank_99 dX1_rank_100 (tgt := 107) (by decide) (fun h99 => ?_) (fun h99 => ?_)
                          · refine lv_iinc (k := 0) C.1 C.2.1 dX1_rank_107 hl rfl xt_inc (by decide) rfl (fun ls hl => ?_)
                            replace hl : lv_has ls 7 [(6, .int (nI (k + 1))), (5, .int (nI b)), (4, .int (nI r)), (3, .int fd), (2, .int (nI (S ^ n))), (0, .ref (am 0)), (1, .int (nI i))] := hl
                            refine lv_goto C.1 C.2.1 dX1_rank_110 (tgt := 62) (by decide) ?_
                            exact ih62 _ (by omega) (k + 1) (nI b) rfl (by omega) (mq_b2 hb1 hb2 hb3 hb4 h99) ls _ _ (lv_sub hl [0, 1, 2, 3, 4, 5, 6] rfl) hW
                          · refine lv_iload C.1 C.2.1 dX1_rank_103 (lv_at hl 0 rfl) ?_
                            refine lv_istore C.1 C.2.1 dX1_rank_105 hl (by decide) rfl (fun ls hl => ?_)
                            replace hl : lv_has ls 7 [(5, .int (nI k)), (6, .int (nI k)), (4, .int (nI r)), (3, .int fd), (2, .int (nI (S ^ n))), (0, .ref (am 0)), (1, .int (nI i))] := hl
                            refine lv_iinc (k := 1) C.1 C.2.1 dX1_rank_107 hl rfl xt_inc (by decide) rfl (fun ls hl => ?_)
                            replace hl : lv_has ls 7 [(6, .int (nI (k + 1))), (5, .int (nI k)), (4, .int (nI r)), (3, .int fd), (2, .int (nI (S ^ n))), (0, .ref (am 0)), (1, .int (nI i))] := hl
                            refine lv_goto C.1 C.2.1 dX1_rank_110 (tgt := 62) (by decide) ?_
                            exact ih62 _ (by omega) (k + 1) (nI k) rfl (by omega) (mq_b3 hb1 hb3 h99) ls _ _ (lv_sub hl [0, 1, 2, 3, 4, 5, 6] rfl) hW
                exact lp62 _ 0 (-1) rfl (Nat.zero_le _) (Or.inl ⟨rfl, fun j h => absurd h (Nat.not_lt_zero j)⟩) ls _ _ (lv_sub hl [0, 1, 2, 3, 4, 5, 6] rfl) hW
          exact lp50 _ 0 av (-1) rfl (Nat.zero_le _) (Nat.zero_le _) (mq_ini rfl (fun z hz => h1 z (by omega))) (Or.inl rfl) ls _ _ (lv_sub hl [0, 1, 2, 3, 4] rfl) hW
        · refine lv_aload_n C.1 C.2.1 dX1_rank_28 rfl (lv_at hl 2 rfl) ?_
          refine xt_get xt_inX1 C hW 0 rfl rfl 9 (by decide) rfl flX1_all rfl dX1_rank_29 ?_
          refine lv_iload_n C.1 C.2.1 dX1_rank_32 rfl (lv_at hl 0 rfl) ?_
          refine lv_aload_n C.1 C.2.1 dX1_rank_33 rfl (lv_at hl 2 rfl) ?_
          refine lv_iload_n C.1 C.2.1 dX1_rank_34 rfl (lv_at hl 0 rfl) ?_
          refine xt_cl hA hW (xt_runV C hW.1 hW.2.1 cwX1_X1_weightOf (cm_weightOf l D cI cL am S K n iz dz tp bt w ro wv ch av fr j (hV2) (by omega)) rfl rfl rfl hl.1 (rest := [.int (nI j), .ref (am 5)]) rfl (Nat.le_of_ble_eq_true rfl) ⟨(Nat.le_of_ble_eq_true rfl), (Nat.le_of_ble_eq_true rfl)⟩ ⟨Nat.zero_le _, Nat.zero_le _⟩ dX1_rank_35) (fun r35 u H locs hp35 hW => ?_)
          obtain ⟨wa_35, rfl⟩ : ∃ z, z = u := ⟨_, rfl⟩
          replace hW : xt_W D A ss.heap (xM am cI cL S K n iz dz tp bt w ro wa_35 ch av fr) H locs := hW
          replace hp35 : r35 = lN (ms_wt (me w ro) S n j) ∧ ∀ z1, z1 < n → wa_35 z1 = ms_dg S n j z1 := hp35
          obtain ⟨rfl, hp35⟩ := hp35
          refine xt_last C hW 5 rfl (by decide) dX1_rank_38 (by omega) (fun H locs hW => ?_)
          replace hW : xt_W D A ss.heap (xM am cI cL S K n iz dz tp bt w ro wa_35 ch (va_up av j (ms_wt (me w ro) S n j)) fr) H locs := hW
          refine lv_iinc (k := 0) C.1 C.2.1 dX1_rank_39 hl rfl xt_inc (by decide) rfl (fun ls hl => ?_)
          replace hl : lv_has ls 7 [(3, .int (nI (j + 1))), (2, .int (nI (S ^ n))), (0, .ref (am 0)), (1, .int (nI i))] := hl
          refine lv_goto C.1 C.2.1 dX1_rank_42 (tgt := 23) (by decide) ?_
          exact ih23 _ (by omega) (j + 1) wa_35 (va_up av j (ms_wt (me w ro) S n j)) rfl (by omega) (fun z hz => if e : z = j then (by rw [e, xq_up]) else (by rw [xq_un e]; exact h1 z (by omega))) ls _ _ (lv_sub hl [0, 1, 2, 3] rfl) hW
    exact lp23 _ 0 wa al rfl (Nat.zero_le _) (fun z h => absurd h (Nat.not_lt_zero z)) ls _ _ (lv_sub hl [0, 1, 2, 3] rfl) hW
  · exfalso
    omega
set_option maxHeartbeats 4000000 in
set_option maxRecDepth 100000 in
theorem cm_rank_x (l : Launch) (D : va_G) (cI cL : ClassId) (am : Nat → Nat) (S K n iz dz tp bt : Nat) (w ro wa ch al fr : Nat → Nat) (q : Int32) (hV : mq_V S K n w ro) (hno : ¬ ∃ j, j < 12 ∧ q = nI j) : xt_M l yX1_rank cX1_rank 7 (some .int) 2 D cI cL [.ref (am 0), .int q] (xM am cI cL S K n iz dz tp bt w ro wa ch al fr) (xt_Qi D cI cL (xM am cI cL S K n iz dz tp bt w ro wa ch al fr) (fun (r : Int32) (u : Unit) => r =  (-1)) (fun u => xM am cI cL S K n iz dz tp bt w ro wa ch al fr)) := by
  obtain ⟨hS0, hS3, hK0, hK4, hn6, hw, hsK⟩ := hV
  have hsy : ∀ p, p < n → ro p < 4 := fun p h => Nat.lt_of_lt_of_le (hsK p h) hK4
  refine xt_start (own := RX1) rfl (by decide) (Nat.le_of_ble_eq_true rfl) (fun pg ev ss mi args below meth cd A Q ls C hE hA hl hW => ?_)
  replace hl : lv_has ls 7 [(0, .ref (am 0)), (1, .int q)] := hl
  refine lv_aload_n C.1 C.2.1 dX1_rank_0 rfl (lv_at hl 0 rfl) ?_
  refine lv_aload_n C.1 C.2.1 dX1_rank_1 rfl (lv_at hl 0 rfl) ?_
  refine xt_get xt_inX1 C hW 0 rfl rfl 3 (by decide) rfl flX1_n rfl dX1_rank_2 ?_
  refine xt_ci hA hW (xt_runV C hW.1 hW.2.1 cwX1_X1_power (cm_power l D cI cL am S K n iz dz tp bt w ro wa ch al fr n (by omega)) rfl rfl rfl hl.1 (rest := []) rfl (Nat.le_of_ble_eq_true rfl) ⟨(Nat.le_of_ble_eq_true rfl), (Nat.le_of_ble_eq_true rfl)⟩ ⟨Nat.zero_le _, Nat.zero_le _⟩ dX1_rank_5) (fun r5 u H locs hp5 hW => ?_)
  replace hW : xt_W D A ss.heap (xM am cI cL S K n iz dz tp bt w ro wa ch al fr) H locs := hW
  subst hp5
  refine lv_istore_n C.1 C.2.1 dX1_rank_8 rfl hl (by decide) rfl (fun ls hl => ?_)
  replace hl : lv_has ls 7 [(2, .int (nI (S ^ n))), (0, .ref (am 0)), (1, .int q)] := hl
  refine lv_iload_n C.1 C.2.1 dX1_rank_9 rfl (lv_at hl 2 rfl) ?_
  refine lv_if_lt C.1 C.2.1 dX1_rank_10 (tgt := 19) (by decide) (fun h10 => ?_) (fun h10 => ?_)
  · refine lv_iconst (v := -1) C.1 C.2.1 dX1_rank_19 (by decide +kernel) ?_
    exact xt_iret C hE () hW (rfl) dX1_rank_20
  · refine lv_iload_n C.1 C.2.1 dX1_rank_13 rfl (lv_at hl 2 rfl) ?_
    refine xt_bipush C 11 dX1_rank_14 (by decide +kernel) ?_
    refine lv_icmp_le C.1 C.2.1 dX1_rank_16 (tgt := 21) (by decide) (fun h16 => ?_) (fun h16 => ?_)
    · exfalso
      exact hno (by obtain ⟨v, h1, h2⟩ := xq_le (m := 11) (by omega) h10 h16; exact ⟨v, by omega, h2⟩)
    · refine lv_iconst (v := -1) C.1 C.2.1 dX1_rank_19 (by decide +kernel) ?_
      exact xt_iret C hE () hW (rfl) dX1_rank_20
set_option maxHeartbeats 4000000 in
set_option maxRecDepth 100000 in
theorem cm_ranked_y (l : Launch) (D : va_G) (cI cL : ClassId) (am : Nat → Nat) (S K n iz dz tp bt : Nat) (w ro wa ch al fr : Nat → Nat) (i : Nat) (wc : Nat) (rw rk g pk : Nat → Nat) (hV : mq_V S K n w ro) (hi : i < min wc 12) (hrr : ms_rr (ms_wt (me w ro) S n) pk (S ^ n) wc rw rk g) : xt_M l yX1_ranked cX1_ranked 3 (some .long) 3 D cI cL [.ref (am 0), .int (nI i)] (xM am cI cL S K n iz dz tp bt w ro wa ch al fr) (xt_Ql D cI cL (xM am cI cL S K n iz dz tp bt w ro wa ch al fr) (fun (r : Int64) (u : (Nat → Nat) × (Nat → Nat)) => r = lN (ms_wt (me w ro) S n (g i))) (fun u => xM am cI cL S K n iz dz tp bt w ro u.1 ch u.2 fr)) := by
  have hV2 := hV
  obtain ⟨hS0, hS3, hK0, hK4, hn6, hw, hsK⟩ := hV
  have hsy : ∀ p, p < n → ro p < 4 := fun p h => Nat.lt_of_lt_of_le (hsK p h) hK4
  have hpb := ms_pow_le hS3 hn6
  have hgb := (hrr.2.1 i (by omega) (by omega)).1
  refine xt_start (own := RX1) rfl (by decide) (Nat.le_of_ble_eq_true rfl) (fun pg ev ss mi args below meth cd A Q ls C hE hA hl hW => ?_)
  replace hl : lv_has ls 3 [(0, .ref (am 0)), (1, .int (nI i))] := hl
  refine lv_aload_n C.1 C.2.1 dX1_ranked_0 rfl (lv_at hl 0 rfl) ?_
  refine lv_iload_n C.1 C.2.1 dX1_ranked_1 rfl (lv_at hl 1 rfl) ?_
  refine xt_ci hA hW (xt_runV C hW.1 hW.2.1 cwX1_X1_rank (cm_rank l D cI cL am S K n iz dz tp bt w ro wa ch al fr i wc rw rk g pk (hV2) (by omega) (hrr)) rfl rfl rfl hl.1 (rest := []) rfl (Nat.le_of_ble_eq_true rfl) ⟨(Nat.le_of_ble_eq_true rfl), (Nat.le_of_ble_eq_true rfl)⟩ ⟨Nat.zero_le _, Nat.zero_le _⟩ dX1_ranked_2) (fun r2 u H locs hp2 hW => ?_)
  obtain ⟨wa_2, al_2⟩ := u
  replace hW : xt_W D A ss.heap (xM am cI cL S K n iz dz tp bt w ro wa_2 ch al_2 fr) H locs := hW
  replace hp2 : (i < wc ∧ r2 = nI (g i)) ∨ (¬ i < wc ∧ r2 = -1) := hp2
  rcases hp2 with ⟨hri, rfl⟩ | ⟨hri, -⟩
  · replace hl : lv_has ls 3 [(0, .ref (am 0)), (1, .int (nI i))] := hl
    refine lv_istore_n C.1 C.2.1 dX1_ranked_5 rfl hl (by decide) rfl (fun ls hl => ?_)
    replace hl : lv_has ls 3 [(2, .int (nI (g i))), (0, .ref (am 0)), (1, .int (nI i))] := hl
    refine lv_iload_n C.1 C.2.1 dX1_ranked_6 rfl (lv_at hl 0 rfl) ?_
    refine xt_if_ge C (by omega) dX1_ranked_7 (tgt := 14) (by decide) ?_
    refine lv_aload_n C.1 C.2.1 dX1_ranked_14 rfl (lv_at hl 1 rfl) ?_
    refine lv_iload_n C.1 C.2.1 dX1_ranked_15 rfl (lv_at hl 0 rfl) ?_
    refine xt_cl hA hW (xt_runV C hW.1 hW.2.1 cwX1_X1_weightOf (cm_weightOf l D cI cL am S K n iz dz tp bt w ro wa_2 ch al_2 fr (g i) (hV2) (hgb)) rfl rfl rfl hl.1 (rest := []) rfl (Nat.le_of_ble_eq_true rfl) ⟨(Nat.le_of_ble_eq_true rfl), (Nat.le_of_ble_eq_true rfl)⟩ ⟨Nat.zero_le _, Nat.zero_le _⟩ dX1_ranked_16) (fun r16 u H locs hp16 hW => ?_)
    obtain ⟨wa_16, rfl⟩ : ∃ z, z = u := ⟨_, rfl⟩
    replace hW : xt_W D A ss.heap (xM am cI cL S K n iz dz tp bt w ro wa_16 ch al_2 fr) H locs := hW
    replace hp16 : r16 = lN (ms_wt (me w ro) S n (g i)) ∧ ∀ z1, z1 < n → wa_16 z1 = ms_dg S n (g i) z1 := hp16
    obtain ⟨rfl, hp16⟩ := hp16
    exact xt_lret C hE (wa_16, al_2) hW (rfl) dX1_ranked_19
  · exact absurd (show i < wc by omega) hri
set_option maxHeartbeats 4000000 in
set_option maxRecDepth 100000 in
theorem cm_ranked_n (l : Launch) (D : va_G) (cI cL : ClassId) (am : Nat → Nat) (S K n iz dz tp bt : Nat) (w ro wa ch al fr : Nat → Nat) (q : Int32) (wc : Nat) (rw rk g pk : Nat → Nat) (hV : mq_V S K n w ro) (hno : ¬ ∃ j, j < min wc 12 ∧ q = nI j) (hrr : ms_rr (ms_wt (me w ro) S n) pk (S ^ n) wc rw rk g) : xt_M l yX1_ranked cX1_ranked 3 (some .long) 3 D cI cL [.ref (am 0), .int q] (xM am cI cL S K n iz dz tp bt w ro wa ch al fr) (xt_Ql D cI cL (xM am cI cL S K n iz dz tp bt w ro wa ch al fr) (fun (r : Int64) (u : (Nat → Nat) × (Nat → Nat)) => r = lN 0) (fun u => xM am cI cL S K n iz dz tp bt w ro u.1 ch u.2 fr)) := by
  have hV2 := hV
  obtain ⟨hS0, hS3, hK0, hK4, hn6, hw, hsK⟩ := hV
  have hsy : ∀ p, p < n → ro p < 4 := fun p h => Nat.lt_of_lt_of_le (hsK p h) hK4
  refine xt_start (own := RX1) rfl (by decide) (Nat.le_of_ble_eq_true rfl) (fun pg ev ss mi args below meth cd A Q ls C hE hA hl hW => ?_)
  replace hl : lv_has ls 3 [(0, .ref (am 0)), (1, .int q)] := hl
  by_cases hin : ∃ j, j < 12 ∧ q = nI j
  · obtain ⟨i, hi12, rfl⟩ := hin
    replace hl : lv_has ls 3 [(0, .ref (am 0)), (1, .int (nI i))] := hl
    refine lv_aload_n C.1 C.2.1 dX1_ranked_0 rfl (lv_at hl 0 rfl) ?_
    refine lv_iload_n C.1 C.2.1 dX1_ranked_1 rfl (lv_at hl 1 rfl) ?_
    refine xt_ci hA hW (xt_runV C hW.1 hW.2.1 cwX1_X1_rank (cm_rank l D cI cL am S K n iz dz tp bt w ro wa ch al fr i wc rw rk g pk (hV2) (hi12) (hrr)) rfl rfl rfl hl.1 (rest := []) rfl (Nat.le_of_ble_eq_true rfl) ⟨(Nat.le_of_ble_eq_true rfl), (Nat.le_of_ble_eq_true rfl)⟩ ⟨Nat.zero_le _, Nat.zero_le _⟩ dX1_ranked_2) (fun r2 u H locs hp2 hW => ?_)
    obtain ⟨wa_2, al_2⟩ := u
    replace hW : xt_W D A ss.heap (xM am cI cL S K n iz dz tp bt w ro wa_2 ch al_2 fr) H locs := hW
    replace hp2 : (i < wc ∧ r2 = nI (g i)) ∨ (¬ i < wc ∧ r2 = -1) := hp2
    rcases hp2 with ⟨hri, -⟩ | ⟨hri, rfl⟩
    · exact absurd (⟨i, by omega, rfl⟩) hno
    · replace hl : lv_has ls 3 [(0, .ref (am 0)), (1, .int (nI i))] := hl
      refine lv_istore_n C.1 C.2.1 dX1_ranked_5 rfl hl (by decide) rfl (fun ls hl => ?_)
      replace hl : lv_has ls 3 [(2, .int (-1)), (0, .ref (am 0)), (1, .int (nI i))] := hl
      refine lv_iload_n C.1 C.2.1 dX1_ranked_6 rfl (lv_at hl 0 rfl) ?_
      refine lv_if_ge C.1 C.2.1 dX1_ranked_7 (tgt := 14) (by decide) (fun h7 => ?_) (fun h7 => ?_)
      · exfalso
        exact absurd h7 (by decide)
      · refine xt_lconst C 0 dX1_ranked_10 (by decide +kernel) ?_
        refine lv_goto C.1 C.2.1 dX1_ranked_11 (tgt := 19) (by decide) ?_
        exact xt_lret C hE (wa_2, al_2) hW (rfl) dX1_ranked_19
  · refine lv_aload_n C.1 C.2.1 dX1_ranked_0 rfl (lv_at hl 0 rfl) ?_
    refine lv_iload_n C.1 C.2.1 dX1_ranked_1 rfl (lv_at hl 1 rfl) ?_
    refine xt_ci hA hW (xt_runV C hW.1 hW.2.1 cwX1_X1_rank (cm_rank_x l D cI cL am S K n iz dz tp bt w ro wa ch al fr q (hV2) (hin)) rfl rfl rfl hl.1 (rest := []) rfl (Nat.le_of_ble_eq_true rfl) ⟨(Nat.le_of_ble_eq_true rfl), (Nat.le_of_ble_eq_true rfl)⟩ ⟨Nat.zero_le _, Nat.zero_le _⟩ dX1_ranked_2) (fun r2 u H locs hp2 hW => ?_)
    replace hW : xt_W D A ss.heap (xM am cI cL S K n iz dz tp bt w ro wa ch al fr) H locs := hW
    subst hp2
    refine lv_istore_n C.1 C.2.1 dX1_ranked_5 rfl hl (by decide) rfl (fun ls hl => ?_)
    replace hl : lv_has ls 3 [(2, .int (-1)), (0, .ref (am 0)), (1, .int q)] := hl
    refine lv_iload_n C.1 C.2.1 dX1_ranked_6 rfl (lv_at hl 0 rfl) ?_
    refine lv_if_ge C.1 C.2.1 dX1_ranked_7 (tgt := 14) (by decide) (fun h7 => ?_) (fun h7 => ?_)
    · exfalso
      exact absurd h7 (by decide)
    · refine xt_lconst C 0 dX1_ranked_10 (by decide +kernel) ?_
      refine lv_goto C.1 C.2.1 dX1_ranked_11 (tgt := 19) (by decide) ?_
      exact xt_lret C hE (wa, al) hW (rfl) dX1_ranked_19
set_option maxHeartbeats 4000000 in
set_option maxRecDepth 100000 in
theorem cm_stateOf_y (l : Launch) (D : va_G) (cI cL : ClassId) (am : Nat → Nat) (S K n iz dz tp bt : Nat) (w ro wa ch al fr : Nat → Nat) (i : Nat) (p : Nat) (wc : Nat) (rw rk g pk : Nat → Nat) (hV : mq_V S K n w ro) (hi : i < min wc 12) (hpn : p < n) (hrr : ms_rr (ms_wt (me w ro) S n) pk (S ^ n) wc rw rk g) : xt_M l yX1_stateOf cX1_stateOf 4 (some .int) 3 D cI cL [.ref (am 0), .int (nI i), .int (nI p)] (xM am cI cL S K n iz dz tp bt w ro wa ch al fr) (xt_Qi D cI cL (xM am cI cL S K n iz dz tp bt w ro wa ch al fr) (fun (r : Int32) (u : (Nat → Nat) × (Nat → Nat)) => r = nI (ms_dg S n (g i) p)) (fun u => xM am cI cL S K n iz dz tp bt w ro u.1 ch u.2 fr)) := by
  have hV2 := hV
  obtain ⟨hS0, hS3, hK0, hK4, hn6, hw, hsK⟩ := hV
  have hsy : ∀ p, p < n → ro p < 4 := fun p h => Nat.lt_of_lt_of_le (hsK p h) hK4
  have hpb := ms_pow_le hS3 hn6
  have hgb := (hrr.2.1 i (by omega) (by omega)).1
  refine xt_start (own := RX1) rfl (by decide) (Nat.le_of_ble_eq_true rfl) (fun pg ev ss mi args below meth cd A Q ls C hE hA hl hW => ?_)
  replace hl : lv_has ls 4 [(0, .ref (am 0)), (1, .int (nI i)), (2, .int (nI p))] := hl
  refine lv_aload_n C.1 C.2.1 dX1_stateOf_0 rfl (lv_at hl 0 rfl) ?_
  refine lv_iload_n C.1 C.2.1 dX1_stateOf_1 rfl (lv_at hl 1 rfl) ?_
  refine xt_ci hA hW (xt_runV C hW.1 hW.2.1 cwX1_X1_rank (cm_rank l D cI cL am S K n iz dz tp bt w ro wa ch al fr i wc rw rk g pk (hV2) (by omega) (hrr)) rfl rfl rfl hl.1 (rest := []) rfl (Nat.le_of_ble_eq_true rfl) ⟨(Nat.le_of_ble_eq_true rfl), (Nat.le_of_ble_eq_true rfl)⟩ ⟨Nat.zero_le _, Nat.zero_le _⟩ dX1_stateOf_2) (fun r2 u H locs hp2 hW => ?_)
  obtain ⟨wa_2, al_2⟩ := u
  replace hW : xt_W D A ss.heap (xM am cI cL S K n iz dz tp bt w ro wa_2 ch al_2 fr) H locs := hW
  replace hp2 : (i < wc ∧ r2 = nI (g i)) ∨ (¬ i < wc ∧ r2 = -1) := hp2
  rcases hp2 with ⟨hri, rfl⟩ | ⟨hri, -⟩
  · replace hl : lv_has ls 4 [(0, .ref (am 0)), (1, .int (nI i)), (2, .int (nI p))] := hl
    refine lv_istore_n C.1 C.2.1 dX1_stateOf_5 rfl hl (by decide) rfl (fun ls hl => ?_)
    replace hl : lv_has ls 4 [(3, .int (nI (g i))), (0, .ref (am 0)), (1, .int (nI i)), (2, .int (nI p))] := hl
    refine lv_iload_n C.1 C.2.1 dX1_stateOf_6 rfl (lv_at hl 0 rfl) ?_
    refine xt_if_lt C (by omega) dX1_stateOf_7 (tgt := 22) (by decide) ?_
    refine lv_iload_n C.1 C.2.1 dX1_stateOf_10 rfl (lv_at hl 3 rfl) ?_
    refine xt_if_lt C (by omega) dX1_stateOf_11 (tgt := 22) (by decide) ?_
    refine lv_iload_n C.1 C.2.1 dX1_stateOf_14 rfl (lv_at hl 3 rfl) ?_
    refine lv_aload_n C.1 C.2.1 dX1_stateOf_15 rfl (lv_at hl 1 rfl) ?_
    refine xt_get xt_inX1 C hW 0 rfl rfl 3 (by decide) rfl flX1_n rfl dX1_stateOf_16 ?_
    refine xt_icmp_lt C (by omega) (by omega) dX1_stateOf_19 (tgt := 24) (by decide) (fun h19 => ?_) (fun h19 => ?_)
    · refine lv_aload_n C.1 C.2.1 dX1_stateOf_24 rfl (lv_at hl 1 rfl) ?_
      refine lv_iload_n C.1 C.2.1 dX1_stateOf_25 rfl (lv_at hl 0 rfl) ?_
      refine xt_iconst C 0 dX1_stateOf_26 (by decide +kernel) ?_
      refine lv_aload_n C.1 C.2.1 dX1_stateOf_27 rfl (lv_at hl 1 rfl) ?_
      refine xt_get xt_inX1 C hW 0 rfl rfl 3 (by decide) rfl flX1_n rfl dX1_stateOf_28 ?_
      refine xt_iconst C 1 dX1_stateOf_31 (by decide +kernel) ?_
      refine lv_isub C.1 C.2.1 dX1_stateOf_32 ?_
      refine xt_cvd hA hW (xt_runV C hW.1 hW.2.1 cwX1_X1_spell (cm_spell l D cI cL am S K n iz dz tp bt w ro wa_2 ch al_2 fr (g i) 0 n (by omega) (by omega) (by omega) (by omega) (by omega)) rfl rfl rfl hl.1 (rest := []) rfl (Nat.le_of_ble_eq_true rfl) ⟨(Nat.le_of_ble_eq_true rfl), (Nat.le_of_ble_eq_true rfl)⟩ ⟨Nat.zero_le _, Nat.zero_le _⟩ dX1_stateOf_33) (fun u H locs hp33 hW => ?_)
      obtain ⟨wa_33, rfl⟩ : ∃ z, z = u := ⟨_, rfl⟩
      replace hW : xt_W D A ss.heap (xM am cI cL S K n iz dz tp bt w ro wa_33 ch al_2 fr) H locs := hW
      replace hp33 : (∀ z1, 0 ≤ z1 ∧ z1 < n → wa_33 z1 = (g i) / S ^ (n - 1 - z1) % S) ∧ (∀ z1, ¬ (0 ≤ z1 ∧ z1 < n) → wa_33 z1 = wa_2 z1) := hp33
      refine lv_aload_n C.1 C.2.1 dX1_stateOf_36 rfl (lv_at hl 1 rfl) ?_
      refine xt_get xt_inX1 C hW 0 rfl rfl 5 (by decide) rfl flX1_way rfl dX1_stateOf_37 ?_
      refine lv_iload_n C.1 C.2.1 dX1_stateOf_40 rfl (lv_at hl 3 rfl) ?_
      refine xt_iald C hW 3 rfl (by decide) dX1_stateOf_41 (by omega) ?_
      refine W.eq (g2 := F0 mi 42 ls [.int (nI (wa_33 p))]) rfl ?_
      exact xt_iret C hE (wa_33, al_2) hW (by show nI (wa_33 p) = nI _; rw [hp33.1 p ⟨Nat.zero_le _, hpn⟩]; rfl) dX1_stateOf_42
    · exfalso
      omega
  · exact absurd (show i < wc by omega) hri
set_option maxHeartbeats 4000000 in
set_option maxRecDepth 100000 in
theorem cm_stateOf_n (l : Launch) (D : va_G) (cI cL : ClassId) (am : Nat → Nat) (S K n iz dz tp bt : Nat) (w ro wa ch al fr : Nat → Nat) (p : Int32) (q : Int32) (wc : Nat) (rw rk g pk : Nat → Nat) (hV : mq_V S K n w ro) (hno : ¬ ((∃ j, j < min wc 12 ∧ p = nI j) ∧ ∃ j, j < n ∧ q = nI j)) (hrr : ms_rr (ms_wt (me w ro) S n) pk (S ^ n) wc rw rk g) : xt_M l yX1_stateOf cX1_stateOf 4 (some .int) 3 D cI cL [.ref (am 0), .int p, .int q] (xM am cI cL S K n iz dz tp bt w ro wa ch al fr) (xt_Qi D cI cL (xM am cI cL S K n iz dz tp bt w ro wa ch al fr) (fun (r : Int32) (u : (Nat → Nat) × (Nat → Nat)) => r =  (-1)) (fun u => xM am cI cL S K n iz dz tp bt w ro u.1 ch u.2 fr)) := by
  have hV2 := hV
  obtain ⟨hS0, hS3, hK0, hK4, hn6, hw, hsK⟩ := hV
  have hsy : ∀ p, p < n → ro p < 4 := fun p h => Nat.lt_of_lt_of_le (hsK p h) hK4
  refine xt_start (own := RX1) rfl (by decide) (Nat.le_of_ble_eq_true rfl) (fun pg ev ss mi args below meth cd A Q ls C hE hA hl hW => ?_)
  replace hl : lv_has ls 4 [(0, .ref (am 0)), (1, .int p), (2, .int q)] := hl
  by_cases hin : ∃ j, j < 12 ∧ p = nI j
  · obtain ⟨i, hi12, rfl⟩ := hin
    replace hl : lv_has ls 4 [(0, .ref (am 0)), (1, .int (nI i)), (2, .int q)] := hl
    refine lv_aload_n C.1 C.2.1 dX1_stateOf_0 rfl (lv_at hl 0 rfl) ?_
    refine lv_iload_n C.1 C.2.1 dX1_stateOf_1 rfl (lv_at hl 1 rfl) ?_
    refine xt_ci hA hW (xt_runV C hW.1 hW.2.1 cwX1_X1_rank (cm_rank l D cI cL am S K n iz dz tp bt w ro wa ch al fr i wc rw rk g pk (hV2) (hi12) (hrr)) rfl rfl rfl hl.1 (rest := []) rfl (Nat.le_of_ble_eq_true rfl) ⟨(Nat.le_of_ble_eq_true rfl), (Nat.le_of_ble_eq_true rfl)⟩ ⟨Nat.zero_le _, Nat.zero_le _⟩ dX1_stateOf_2) (fun r2 u H locs hp2 hW => ?_)
    obtain ⟨wa_2, al_2⟩ := u
    replace hW : xt_W D A ss.heap (xM am cI cL S K n iz dz tp bt w ro wa_2 ch al_2 fr) H locs := hW
    replace hp2 : (i < wc ∧ r2 = nI (g i)) ∨ (¬ i < wc ∧ r2 = -1) := hp2
    rcases hp2 with ⟨hri, rfl⟩ | ⟨hri, rfl⟩
    · have hgb := (hrr.2.1 i hri hi12).1
      have hpb := ms_pow_le hS3 hn6
      replace hl : lv_has ls 4 [(0, .ref (am 0)), (1, .int (nI i)), (2, .int q)] := hl
      refine lv_istore_n C.1 C.2.1 dX1_stateOf_5 rfl hl (by decide) rfl (fun ls hl => ?_)
      replace hl : lv_has ls 4 [(3, .int (nI (g i))), (0, .ref (am 0)), (1, .int (nI i)), (2, .int q)] := hl
      refine lv_iload_n C.1 C.2.1 dX1_stateOf_6 rfl (lv_at hl 0 rfl) ?_
      refine xt_if_lt C (by omega) dX1_stateOf_7 (tgt := 22) (by decide) ?_
      refine lv_iload_n C.1 C.2.1 dX1_stateOf_10 rfl (lv_at hl 3 rfl) ?_
      refine lv_if_lt C.1 C.2.1 dX1_stateOf_11 (tgt := 22) (by decide) (fun h11 => ?_) (fun h11 => ?_)
      · refine lv_iconst (v := -1) C.1 C.2.1 dX1_stateOf_22 (by decide +kernel) ?_
        exact xt_iret C hE (wa_2, al_2) hW (rfl) dX1_stateOf_23
      · refine lv_iload_n C.1 C.2.1 dX1_stateOf_14 rfl (lv_at hl 3 rfl) ?_
        refine lv_aload_n C.1 C.2.1 dX1_stateOf_15 rfl (lv_at hl 1 rfl) ?_
        refine xt_get xt_inX1 C hW 0 rfl rfl 3 (by decide) rfl flX1_n rfl dX1_stateOf_16 ?_
        refine lv_icmp_lt C.1 C.2.1 dX1_stateOf_19 (tgt := 24) (by decide) (fun h19 => ?_) (fun h19 => ?_)
        · exfalso
          exact hno ⟨⟨i, by omega, rfl⟩, xq_yes (by omega) h11 (fun q => absurd h19 (Int32.not_lt.mpr q))⟩
        · refine lv_iconst (v := -1) C.1 C.2.1 dX1_stateOf_22 (by decide +kernel) ?_
          exact xt_iret C hE (wa_2, al_2) hW (rfl) dX1_stateOf_23
    · replace hl : lv_has ls 4 [(0, .ref (am 0)), (1, .int (nI i)), (2, .int q)] := hl
      refine lv_istore_n C.1 C.2.1 dX1_stateOf_5 rfl hl (by decide) rfl (fun ls hl => ?_)
      replace hl : lv_has ls 4 [(3, .int (-1)), (0, .ref (am 0)), (1, .int (nI i)), (2, .int q)] := hl
      refine lv_iload_n C.1 C.2.1 dX1_stateOf_6 rfl (lv_at hl 0 rfl) ?_
      refine lv_if_lt C.1 C.2.1 dX1_stateOf_7 (tgt := 22) (by decide) (fun h7 => ?_) (fun h7 => ?_)
      · refine lv_iconst (v := -1) C.1 C.2.1 dX1_stateOf_22 (by decide +kernel) ?_
        exact xt_iret C hE (wa_2, al_2) hW (rfl) dX1_stateOf_23
      · exfalso
        exact h7 (by decide)
  · refine lv_aload_n C.1 C.2.1 dX1_stateOf_0 rfl (lv_at hl 0 rfl) ?_
    refine lv_iload_n C.1 C.2.1 dX1_stateOf_1 rfl (lv_at hl 1 rfl) ?_
    refine xt_ci hA hW (xt_runV C hW.1 hW.2.1 cwX1_X1_rank (cm_rank_x l D cI cL am S K n iz dz tp bt w ro wa ch al fr p (hV2) (hin)) rfl rfl rfl hl.1 (rest := []) rfl (Nat.le_of_ble_eq_true rfl) ⟨(Nat.le_of_ble_eq_true rfl), (Nat.le_of_ble_eq_true rfl)⟩ ⟨Nat.zero_le _, Nat.zero_le _⟩ dX1_stateOf_2) (fun r2 u H locs hp2 hW => ?_)
    replace hW : xt_W D A ss.heap (xM am cI cL S K n iz dz tp bt w ro wa ch al fr) H locs := hW
    subst hp2
    refine lv_istore_n C.1 C.2.1 dX1_stateOf_5 rfl hl (by decide) rfl (fun ls hl => ?_)
    replace hl : lv_has ls 4 [(3, .int (-1)), (0, .ref (am 0)), (1, .int p), (2, .int q)] := hl
    refine lv_iload_n C.1 C.2.1 dX1_stateOf_6 rfl (lv_at hl 0 rfl) ?_
    refine lv_if_lt C.1 C.2.1 dX1_stateOf_7 (tgt := 22) (by decide) (fun h7 => ?_) (fun h7 => ?_)
    · refine lv_iconst (v := -1) C.1 C.2.1 dX1_stateOf_22 (by decide +kernel) ?_
      exact xt_iret C hE (wa, al) hW (rfl) dX1_stateOf_23
    · exfalso
      exact h7 (by decide)
end
