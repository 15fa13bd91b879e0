section
-- ===== PART A: goes FIRST, ahead of the names: the tables' words, and 'selects' of the private methods out of them =====
/-- a private method of a class that the tables say can be made, by its rows of tables_1 -/
def lw_okq (q : MethodName × Nat) : Prop := (q.1.cls ≠ "java/lang/invoke/MethodHandle" ∧ q.1.cls ≠ "java/lang/invoke/VarHandle") ∧ Cond.instantiable q.1.cls q.2 ∈ tables_1 ∧ Cond.privateMethod q.1 ∈ tables_1 ∧ Cond.instanceMethod q.1 ∈ tables_1
theorem lw_p0 : lw_okq (⟨"WeightedTrellis", "startAnew", "(II)V"⟩, 13) := ⟨⟨by decide +kernel, by decide +kernel⟩, List.mem_of_getElem? (i := 7) (by decide +kernel), List.mem_of_getElem? (i := 15) (by decide +kernel), List.mem_of_getElem? (i := 16) (by decide +kernel)⟩
theorem lw_p1 : lw_okq (⟨"WeightedTrellis", "reckon", "()V"⟩, 13) := ⟨⟨by decide +kernel, by decide +kernel⟩, List.mem_of_getElem? (i := 7) (by decide +kernel), List.mem_of_getElem? (i := 22) (by decide +kernel), List.mem_of_getElem? (i := 23) (by decide +kernel)⟩
theorem lw_p2 : lw_okq (⟨"WeightedTrellis", "sumBefore", "()V"⟩, 13) := ⟨⟨by decide +kernel, by decide +kernel⟩, List.mem_of_getElem? (i := 7) (by decide +kernel), List.mem_of_getElem? (i := 26) (by decide +kernel), List.mem_of_getElem? (i := 27) (by decide +kernel)⟩
theorem lw_p3 : lw_okq (⟨"WeightedTrellis", "entry", "(III)J"⟩, 13) := ⟨⟨by decide +kernel, by decide +kernel⟩, List.mem_of_getElem? (i := 7) (by decide +kernel), List.mem_of_getElem? (i := 33) (by decide +kernel), List.mem_of_getElem? (i := 34) (by decide +kernel)⟩
theorem lw_p4 : lw_okq (⟨"WeightedTrellis", "sumInto", "(II)J"⟩, 13) := ⟨⟨by decide +kernel, by decide +kernel⟩, List.mem_of_getElem? (i := 7) (by decide +kernel), List.mem_of_getElem? (i := 40) (by decide +kernel), List.mem_of_getElem? (i := 41) (by decide +kernel)⟩
theorem lw_p5 : lw_okq (⟨"WeightedTrellis", "sumBehind", "()V"⟩, 13) := ⟨⟨by decide +kernel, by decide +kernel⟩, List.mem_of_getElem? (i := 7) (by decide +kernel), List.mem_of_getElem? (i := 44) (by decide +kernel), List.mem_of_getElem? (i := 45) (by decide +kernel)⟩
theorem lw_p6 : lw_okq (⟨"WeightedTrellis", "sumOutOf", "(II)J"⟩, 13) := ⟨⟨by decide +kernel, by decide +kernel⟩, List.mem_of_getElem? (i := 7) (by decide +kernel), List.mem_of_getElem? (i := 48) (by decide +kernel), List.mem_of_getElem? (i := 49) (by decide +kernel)⟩
theorem lw_p7 : lw_okq (⟨"WeightedTrellis", "rankFrom", "(IIJ)V"⟩, 13) := ⟨⟨by decide +kernel, by decide +kernel⟩, List.mem_of_getElem? (i := 7) (by decide +kernel), List.mem_of_getElem? (i := 52) (by decide +kernel), List.mem_of_getElem? (i := 53) (by decide +kernel)⟩
theorem lw_p8 : lw_okq (⟨"WeightedTrellis", "rankWay", "(IJ)V"⟩, 13) := ⟨⟨by decide +kernel, by decide +kernel⟩, List.mem_of_getElem? (i := 7) (by decide +kernel), List.mem_of_getElem? (i := 56) (by decide +kernel), List.mem_of_getElem? (i := 57) (by decide +kernel)⟩
theorem lw_p9 : lw_okq (⟨"WeightedTrellis", "hasWeight", "(III)Z"⟩, 13) := ⟨⟨by decide +kernel, by decide +kernel⟩, List.mem_of_getElem? (i := 7) (by decide +kernel), List.mem_of_getElem? (i := 113) (by decide +kernel), List.mem_of_getElem? (i := 114) (by decide +kernel)⟩
theorem lw_p10 : lw_okq (⟨"WeightedTrellis", "rowsOf", "(I)I"⟩, 13) := ⟨⟨by decide +kernel, by decide +kernel⟩, List.mem_of_getElem? (i := 7) (by decide +kernel), List.mem_of_getElem? (i := 117) (by decide +kernel), List.mem_of_getElem? (i := 118) (by decide +kernel)⟩
theorem lw_p11 : lw_okq (⟨"WeightedTrellis", "columnsOf", "(I)I"⟩, 13) := ⟨⟨by decide +kernel, by decide +kernel⟩, List.mem_of_getElem? (i := 7) (by decide +kernel), List.mem_of_getElem? (i := 121) (by decide +kernel), List.mem_of_getElem? (i := 122) (by decide +kernel)⟩
theorem lw_p12 : lw_okq (⟨"WeightedTrellis", "hasPlace", "(I)Z"⟩, 13) := ⟨⟨by decide +kernel, by decide +kernel⟩, List.mem_of_getElem? (i := 7) (by decide +kernel), List.mem_of_getElem? (i := 145) (by decide +kernel), List.mem_of_getElem? (i := 146) (by decide +kernel)⟩
theorem lw_p13 : lw_okq (⟨"WeightedTrellis", "hasState", "(I)Z"⟩, 13) := ⟨⟨by decide +kernel, by decide +kernel⟩, List.mem_of_getElem? (i := 7) (by decide +kernel), List.mem_of_getElem? (i := 157) (by decide +kernel), List.mem_of_getElem? (i := 158) (by decide +kernel)⟩
theorem lw_p14 : lw_okq (⟨"WeightedTrellis", "hasRank", "(I)Z"⟩, 13) := ⟨⟨by decide +kernel, by decide +kernel⟩, List.mem_of_getElem? (i := 7) (by decide +kernel), List.mem_of_getElem? (i := 173) (by decide +kernel), List.mem_of_getElem? (i := 174) (by decide +kernel)⟩
theorem lw_p15 : lw_okq (⟨"WeightedTrellis", "unitsOf", "(III)J"⟩, 13) := ⟨⟨by decide +kernel, by decide +kernel⟩, List.mem_of_getElem? (i := 7) (by decide +kernel), List.mem_of_getElem? (i := 185) (by decide +kernel), List.mem_of_getElem? (i := 186) (by decide +kernel)⟩
def lw_privs_1 : List (MethodName × Nat) := [(⟨"WeightedTrellis", "startAnew", "(II)V"⟩, 13), (⟨"WeightedTrellis", "reckon", "()V"⟩, 13), (⟨"WeightedTrellis", "sumBefore", "()V"⟩, 13), (⟨"WeightedTrellis", "entry", "(III)J"⟩, 13), (⟨"WeightedTrellis", "sumInto", "(II)J"⟩, 13), (⟨"WeightedTrellis", "sumBehind", "()V"⟩, 13), (⟨"WeightedTrellis", "sumOutOf", "(II)J"⟩, 13), (⟨"WeightedTrellis", "rankFrom", "(IIJ)V"⟩, 13), (⟨"WeightedTrellis", "rankWay", "(IJ)V"⟩, 13), (⟨"WeightedTrellis", "hasWeight", "(III)Z"⟩, 13), (⟨"WeightedTrellis", "rowsOf", "(I)I"⟩, 13), (⟨"WeightedTrellis", "columnsOf", "(I)I"⟩, 13), (⟨"WeightedTrellis", "hasPlace", "(I)Z"⟩, 13), (⟨"WeightedTrellis", "hasState", "(I)Z"⟩, 13), (⟨"WeightedTrellis", "hasRank", "(I)Z"⟩, 13), (⟨"WeightedTrellis", "unitsOf", "(III)J"⟩, 13)]
theorem lw_r1 : ∀ q ∈ lw_privs_1, lw_okq q := List.forall_mem_cons.mpr ⟨lw_p0, List.forall_mem_cons.mpr ⟨lw_p1, List.forall_mem_cons.mpr ⟨lw_p2, List.forall_mem_cons.mpr ⟨lw_p3, List.forall_mem_cons.mpr ⟨lw_p4, List.forall_mem_cons.mpr ⟨lw_p5, List.forall_mem_cons.mpr ⟨lw_p6, List.forall_mem_cons.mpr ⟨lw_p7, List.forall_mem_cons.mpr ⟨lw_p8, List.forall_mem_cons.mpr ⟨lw_p9, List.forall_mem_cons.mpr ⟨lw_p10, List.forall_mem_cons.mpr ⟨lw_p11, List.forall_mem_cons.mpr ⟨lw_p12, List.forall_mem_cons.mpr ⟨lw_p13, List.forall_mem_cons.mpr ⟨lw_p14, List.forall_mem_cons.mpr ⟨lw_p15, fun _ h => absurd h List.not_mem_nil⟩⟩⟩⟩⟩⟩⟩⟩⟩⟩⟩⟩⟩⟩⟩⟩
theorem lw_p16 : lw_okq (⟨"WeightedTrellis", "unitsThrough", "(II)J"⟩, 13) := ⟨⟨by decide +kernel, by decide +kernel⟩, List.mem_of_getElem? (i := 7) (by decide +kernel), List.mem_of_getElem? (i := 189) (by decide +kernel), List.mem_of_getElem? (i := 190) (by decide +kernel)⟩
theorem lw_p17 : lw_okq (⟨"WeightedTrellis", "unitsOfStep", "(II)J"⟩, 13) := ⟨⟨by decide +kernel, by decide +kernel⟩, List.mem_of_getElem? (i := 7) (by decide +kernel), List.mem_of_getElem? (i := 193) (by decide +kernel), List.mem_of_getElem? (i := 194) (by decide +kernel)⟩
theorem lw_p18 : lw_okq (⟨"WeightedTrellis", "unitsOfSymbol", "(II)J"⟩, 13) := ⟨⟨by decide +kernel, by decide +kernel⟩, List.mem_of_getElem? (i := 7) (by decide +kernel), List.mem_of_getElem? (i := 197) (by decide +kernel), List.mem_of_getElem? (i := 198) (by decide +kernel)⟩
theorem lw_p19 : lw_okq (⟨"WeightedTrellis", "unitsOfRow", "(II)J"⟩, 13) := ⟨⟨by decide +kernel, by decide +kernel⟩, List.mem_of_getElem? (i := 7) (by decide +kernel), List.mem_of_getElem? (i := 212) (by decide +kernel), List.mem_of_getElem? (i := 213) (by decide +kernel)⟩
theorem lw_p20 : lw_okq (⟨"WeightedTrellis", "learnedPortion", "(IIIJ)J"⟩, 13) := ⟨⟨by decide +kernel, by decide +kernel⟩, List.mem_of_getElem? (i := 7) (by decide +kernel), List.mem_of_getElem? (i := 216) (by decide +kernel), List.mem_of_getElem? (i := 217) (by decide +kernel)⟩
theorem lw_p21 : lw_okq (⟨"WeightedTrellis", "learnedWhole", "(IIJ)J"⟩, 13) := ⟨⟨by decide +kernel, by decide +kernel⟩, List.mem_of_getElem? (i := 7) (by decide +kernel), List.mem_of_getElem? (i := 220) (by decide +kernel), List.mem_of_getElem? (i := 221) (by decide +kernel)⟩
theorem lw_p22 : lw_okq (⟨"WeightedTrellis", "weightOfRow", "(II)J"⟩, 13) := ⟨⟨by decide +kernel, by decide +kernel⟩, List.mem_of_getElem? (i := 7) (by decide +kernel), List.mem_of_getElem? (i := 224) (by decide +kernel), List.mem_of_getElem? (i := 225) (by decide +kernel)⟩
theorem lw_p23 : lw_okq (⟨"WeightedTrellis", "learnRow", "(II)I"⟩, 13) := ⟨⟨by decide +kernel, by decide +kernel⟩, List.mem_of_getElem? (i := 7) (by decide +kernel), List.mem_of_getElem? (i := 232) (by decide +kernel), List.mem_of_getElem? (i := 233) (by decide +kernel)⟩
theorem lw_p24 : lw_okq (⟨"WeightedTrellisModel", "clear", "()V"⟩, 13) := ⟨⟨by decide +kernel, by decide +kernel⟩, List.mem_of_getElem? (i := 252) (by decide +kernel), List.mem_of_getElem? (i := 258) (by decide +kernel), List.mem_of_getElem? (i := 259) (by decide +kernel)⟩
theorem lw_p25 : lw_okq (⟨"WeightedTrellisModel", "slot", "(III)I"⟩, 13) := ⟨⟨by decide +kernel, by decide +kernel⟩, List.mem_of_getElem? (i := 252) (by decide +kernel), List.mem_of_getElem? (i := 310) (by decide +kernel), List.mem_of_getElem? (i := 311) (by decide +kernel)⟩
theorem lw_p26 : lw_okq (⟨"WeightedTrellisModel", "state", "(I)Z"⟩, 13) := ⟨⟨by decide +kernel, by decide +kernel⟩, List.mem_of_getElem? (i := 252) (by decide +kernel), List.mem_of_getElem? (i := 314) (by decide +kernel), List.mem_of_getElem? (i := 315) (by decide +kernel)⟩
theorem lw_p27 : lw_okq (⟨"WeightedTrellisModel", "isSymbol", "(I)Z"⟩, 13) := ⟨⟨by decide +kernel, by decide +kernel⟩, List.mem_of_getElem? (i := 252) (by decide +kernel), List.mem_of_getElem? (i := 318) (by decide +kernel), List.mem_of_getElem? (i := 319) (by decide +kernel)⟩
theorem lw_p28 : lw_okq (⟨"WeightedTrellisModel", "power", "(I)I"⟩, 13) := ⟨⟨by decide +kernel, by decide +kernel⟩, List.mem_of_getElem? (i := 252) (by decide +kernel), List.mem_of_getElem? (i := 346) (by decide +kernel), List.mem_of_getElem? (i := 347) (by decide +kernel)⟩
theorem lw_p29 : lw_okq (⟨"WeightedTrellisModel", "weightOf", "(I)J"⟩, 13) := ⟨⟨by decide +kernel, by decide +kernel⟩, List.mem_of_getElem? (i := 252) (by decide +kernel), List.mem_of_getElem? (i := 350) (by decide +kernel), List.mem_of_getElem? (i := 351) (by decide +kernel)⟩
theorem lw_p30 : lw_okq (⟨"WeightedTrellisModel", "spell", "(III)V"⟩, 13) := ⟨⟨by decide +kernel, by decide +kernel⟩, List.mem_of_getElem? (i := 252) (by decide +kernel), List.mem_of_getElem? (i := 354) (by decide +kernel), List.mem_of_getElem? (i := 355) (by decide +kernel)⟩
theorem lw_p31 : lw_okq (⟨"WeightedTrellisModel", "product", "(II)J"⟩, 13) := ⟨⟨by decide +kernel, by decide +kernel⟩, List.mem_of_getElem? (i := 252) (by decide +kernel), List.mem_of_getElem? (i := 358) (by decide +kernel), List.mem_of_getElem? (i := 359) (by decide +kernel)⟩
def lw_privs_2 : List (MethodName × Nat) := [(⟨"WeightedTrellis", "unitsThrough", "(II)J"⟩, 13), (⟨"WeightedTrellis", "unitsOfStep", "(II)J"⟩, 13), (⟨"WeightedTrellis", "unitsOfSymbol", "(II)J"⟩, 13), (⟨"WeightedTrellis", "unitsOfRow", "(II)J"⟩, 13), (⟨"WeightedTrellis", "learnedPortion", "(IIIJ)J"⟩, 13), (⟨"WeightedTrellis", "learnedWhole", "(IIJ)J"⟩, 13), (⟨"WeightedTrellis", "weightOfRow", "(II)J"⟩, 13), (⟨"WeightedTrellis", "learnRow", "(II)I"⟩, 13), (⟨"WeightedTrellisModel", "clear", "()V"⟩, 13), (⟨"WeightedTrellisModel", "slot", "(III)I"⟩, 13), (⟨"WeightedTrellisModel", "state", "(I)Z"⟩, 13), (⟨"WeightedTrellisModel", "isSymbol", "(I)Z"⟩, 13), (⟨"WeightedTrellisModel", "power", "(I)I"⟩, 13), (⟨"WeightedTrellisModel", "weightOf", "(I)J"⟩, 13), (⟨"WeightedTrellisModel", "spell", "(III)V"⟩, 13), (⟨"WeightedTrellisModel", "product", "(II)J"⟩, 13)]
theorem lw_r2 : ∀ q ∈ lw_privs_2, lw_okq q := List.forall_mem_cons.mpr ⟨lw_p16, List.forall_mem_cons.mpr ⟨lw_p17, List.forall_mem_cons.mpr ⟨lw_p18, List.forall_mem_cons.mpr ⟨lw_p19, List.forall_mem_cons.mpr ⟨lw_p20, List.forall_mem_cons.mpr ⟨lw_p21, List.forall_mem_cons.mpr ⟨lw_p22, List.forall_mem_cons.mpr ⟨lw_p23, List.forall_mem_cons.mpr ⟨lw_p24, List.forall_mem_cons.mpr ⟨lw_p25, List.forall_mem_cons.mpr ⟨lw_p26, List.forall_mem_cons.mpr ⟨lw_p27, List.forall_mem_cons.mpr ⟨lw_p28, List.forall_mem_cons.mpr ⟨lw_p29, List.forall_mem_cons.mpr ⟨lw_p30, List.forall_mem_cons.mpr ⟨lw_p31, fun _ h => absurd h List.not_mem_nil⟩⟩⟩⟩⟩⟩⟩⟩⟩⟩⟩⟩⟩⟩⟩⟩
theorem lw_p32 : lw_okq (⟨"WeightedTrellisModel", "rank", "(I)I"⟩, 13) := ⟨⟨by decide +kernel, by decide +kernel⟩, List.mem_of_getElem? (i := 252) (by decide +kernel), List.mem_of_getElem? (i := 378) (by decide +kernel), List.mem_of_getElem? (i := 379) (by decide +kernel)⟩
theorem lw_p33 : lw_okq (⟨"WeightedTrellisModel", "sum", "(III)J"⟩, 13) := ⟨⟨by decide +kernel, by decide +kernel⟩, List.mem_of_getElem? (i := 252) (by decide +kernel), List.mem_of_getElem? (i := 391) (by decide +kernel), List.mem_of_getElem? (i := 392) (by decide +kernel)⟩
theorem lw_p34 : lw_okq (⟨"WeightedTrellisModel", "times", "(III)I"⟩, 13) := ⟨⟨by decide +kernel, by decide +kernel⟩, List.mem_of_getElem? (i := 252) (by decide +kernel), List.mem_of_getElem? (i := 395) (by decide +kernel), List.mem_of_getElem? (i := 396) (by decide +kernel)⟩
theorem lw_p35 : lw_okq (⟨"WeightedTrellisModel", "fraction", "(JJ)V"⟩, 13) := ⟨⟨by decide +kernel, by decide +kernel⟩, List.mem_of_getElem? (i := 252) (by decide +kernel), List.mem_of_getElem? (i := 399) (by decide +kernel), List.mem_of_getElem? (i := 400) (by decide +kernel)⟩
theorem lw_p36 : lw_okq (⟨"WeightedTrellisModel", "part", "(I)J"⟩, 13) := ⟨⟨by decide +kernel, by decide +kernel⟩, List.mem_of_getElem? (i := 252) (by decide +kernel), List.mem_of_getElem? (i := 403) (by decide +kernel), List.mem_of_getElem? (i := 404) (by decide +kernel)⟩
theorem lw_p37 : lw_okq (⟨"WeightedTrellisModel", "learnOne", "(III)V"⟩, 13) := ⟨⟨by decide +kernel, by decide +kernel⟩, List.mem_of_getElem? (i := 252) (by decide +kernel), List.mem_of_getElem? (i := 411) (by decide +kernel), List.mem_of_getElem? (i := 412) (by decide +kernel)⟩
theorem lw_p38 : lw_okq (⟨"WeightedTrellisModel", "columns", "(I)I"⟩, 13) := ⟨⟨by decide +kernel, by decide +kernel⟩, List.mem_of_getElem? (i := 252) (by decide +kernel), List.mem_of_getElem? (i := 415) (by decide +kernel), List.mem_of_getElem? (i := 416) (by decide +kernel)⟩
def lw_privs_3 : List (MethodName × Nat) := [(⟨"WeightedTrellisModel", "rank", "(I)I"⟩, 13), (⟨"WeightedTrellisModel", "sum", "(III)J"⟩, 13), (⟨"WeightedTrellisModel", "times", "(III)I"⟩, 13), (⟨"WeightedTrellisModel", "fraction", "(JJ)V"⟩, 13), (⟨"WeightedTrellisModel", "part", "(I)J"⟩, 13), (⟨"WeightedTrellisModel", "learnOne", "(III)V"⟩, 13), (⟨"WeightedTrellisModel", "columns", "(I)I"⟩, 13)]
theorem lw_r3 : ∀ q ∈ lw_privs_3, lw_okq q := List.forall_mem_cons.mpr ⟨lw_p32, List.forall_mem_cons.mpr ⟨lw_p33, List.forall_mem_cons.mpr ⟨lw_p34, List.forall_mem_cons.mpr ⟨lw_p35, List.forall_mem_cons.mpr ⟨lw_p36, List.forall_mem_cons.mpr ⟨lw_p37, List.forall_mem_cons.mpr ⟨lw_p38, fun _ h => absurd h List.not_mem_nil⟩⟩⟩⟩⟩⟩⟩
def lw_privs : List (MethodName × Nat) := lw_privs_1 ++ (lw_privs_2 ++ (lw_privs_3))
def lw_tbl : List Cond := k2_sels lw_privs ++ tables_1
theorem lw_privs_ok : ∀ q ∈ lw_privs, lw_okq q := by
  show ∀ q ∈ lw_privs_1 ++ (lw_privs_2 ++ (lw_privs_3)), lw_okq q
  exact List.forall_mem_append.mpr ⟨lw_r1, List.forall_mem_append.mpr ⟨lw_r2, lw_r3⟩⟩

def RX0 : String := "WeightedTrellis"
def TX0 : u_T := fun k => match k with
  | 0 => ("WeightedTrellis", "stateCount", "I", false)
  | 1 => ("WeightedTrellis", "symbolCount", "I", false)
  | 2 => ("WeightedTrellis", "weights", "[I", true)
  | 3 => ("WeightedTrellis", "learnedWeights", "[I", true)
  | 4 => ("WeightedTrellis", "seenCount", "I", false)
  | 5 => ("WeightedTrellis", "seenSymbols", "[I", true)
  | 6 => ("WeightedTrellis", "sumsBefore", "[J", true)
  | 7 => ("WeightedTrellis", "sumsBehind", "[J", true)
  | 8 => ("WeightedTrellis", "wayCount", "I", false)
  | 9 => ("WeightedTrellis", "rankedWeights", "[J", true)
  | 10 => ("WeightedTrellis", "rankedWays", "[I", true)
  | 11 => ("WeightedTrellis", "drawnCount", "I", false)
  | _ => ("WeightedTrellis", "drawnStates", "[I", true)
def tyX0 : Nat → FieldType := fun k => match k with
  | 0 => .int
  | 1 => .int
  | 2 => .array .int
  | 3 => .array .int
  | 4 => .int
  | 5 => .array .int
  | 6 => .array .long
  | 7 => .array .long
  | 8 => .int
  | 9 => .array .long
  | 10 => .array .int
  | 11 => .int
  | _ => .array .int

theorem nmX0 : ∀ a, a < 13 → ∀ b, b < 13 → a ≠ b → (TX0 a).2.1 ≠ (TX0 b).2.1 := by decide +kernel
theorem tyX0_ok : ∀ k, k < 13 → parseFieldDescriptor (TX0 k).2.2.1 = some (tyX0 k) := by decide +kernel
def RX1 : String := "WeightedTrellisModel"
def TX1 : u_T := fun k => match k with
  | 0 => ("WeightedTrellisModel", "states", "I", false)
  | 1 => ("WeightedTrellisModel", "symbols", "I", false)
  | 2 => ("WeightedTrellisModel", "weights", "[I", false)
  | 3 => ("WeightedTrellisModel", "n", "I", false)
  | 4 => ("WeightedTrellisModel", "row", "[I", false)
  | 5 => ("WeightedTrellisModel", "way", "[I", false)
  | 6 => ("WeightedTrellisModel", "isDrawn", "Z", false)
  | 7 => ("WeightedTrellisModel", "drawnSize", "I", false)
  | 8 => ("WeightedTrellisModel", "chosen", "[I", false)
  | 9 => ("WeightedTrellisModel", "all", "[J", false)
  | 10 => ("WeightedTrellisModel", "fresh", "[I", false)
  | 11 => ("WeightedTrellisModel", "top", "J", false)
  | _ => ("WeightedTrellisModel", "bottom", "J", false)
def tyX1 : Nat → FieldType := fun k => match k with
  | 0 => .int
  | 1 => .int
  | 2 => .array .int
  | 3 => .int
  | 4 => .array .int
  | 5 => .array .int
  | 6 => .boolean
  | 7 => .int
  | 8 => .array .int
  | 9 => .array .long
  | 10 => .array .int
  | 11 => .long
  | _ => .long
theorem nmX1 : ∀ a, a < 13 → ∀ b, b < 13 → a ≠ b → (TX1 a).2.1 ≠ (TX1 b).2.1 := by decide +kernel
theorem tyX1_ok : ∀ k, k < 13 → parseFieldDescriptor (TX1 k).2.2.1 = some (tyX1 k) := by decide +kernel
def RJ7 : String := "java/util/Arrays"
def RL : String := "WeightedTrellisLaw"
abbrev vwCl : List vw_C := [(RX0, TX0, 13), (RX1, TX1, 13)]
abbrev cL_law : ByteArray := code
abbrev cX0_init : ByteArray := prog_1_method_1_code
def yX0_init : MethodName := ⟨RX0, "<init>", "()V"⟩
abbrev cX0_startAnew : ByteArray := prog_1_method_20_code
def yX0_startAnew : MethodName := ⟨RX0, "startAnew", "(II)V"⟩
abbrev cJ7_fill : ByteArray := prog_6_method_103_code
def yJ7_fill : MethodName := ⟨RJ7, "fill", "([II)V"⟩
abbrev cX0_reckon : ByteArray := prog_1_method_30_code
def yX0_reckon : MethodName := ⟨RX0, "reckon", "()V"⟩
abbrev cX0_sumBefore : ByteArray := prog_1_method_31_code
def yX0_sumBefore : MethodName := ⟨RX0, "sumBefore", "()V"⟩
abbrev cX0_cell : ByteArray := prog_1_method_28_code
def yX0_cell : MethodName := ⟨RX0, "cell", "(II)I"⟩
abbrev cX0_entry : ByteArray := prog_1_method_29_code
def yX0_entry : MethodName := ⟨RX0, "entry", "(III)J"⟩
abbrev cX0_slot : ByteArray := prog_1_method_27_code
def yX0_slot : MethodName := ⟨RX0, "slot", "(III)I"⟩
abbrev cX0_sumInto : ByteArray := prog_1_method_32_code
def yX0_sumInto : MethodName := ⟨RX0, "sumInto", "(II)J"⟩
abbrev cX0_sumBehind : ByteArray := prog_1_method_33_code
def yX0_sumBehind : MethodName := ⟨RX0, "sumBehind", "()V"⟩
abbrev cX0_sumOutOf : ByteArray := prog_1_method_34_code
def yX0_sumOutOf : MethodName := ⟨RX0, "sumOutOf", "(II)J"⟩
abbrev cX0_rankFrom : ByteArray := prog_1_method_35_code
def yX0_rankFrom : MethodName := ⟨RX0, "rankFrom", "(IIJ)V"⟩
abbrev cX0_rankWay : ByteArray := prog_1_method_36_code
def yX0_rankWay : MethodName := ⟨RX0, "rankWay", "(IJ)V"⟩
abbrev cX0_size : ByteArray := prog_1_method_2_code
def yX0_size : MethodName := ⟨RX0, "size", "(II)Z"⟩
abbrev cX0_weigh : ByteArray := prog_1_method_3_code
def yX0_weigh : MethodName := ⟨RX0, "weigh", "(IIII)Z"⟩
abbrev cX0_hasWeight : ByteArray := prog_1_method_23_code
def yX0_hasWeight : MethodName := ⟨RX0, "hasWeight", "(III)Z"⟩
abbrev cX0_rowsOf : ByteArray := prog_1_method_21_code
def yX0_rowsOf : MethodName := ⟨RX0, "rowsOf", "(I)I"⟩
abbrev cX0_columnsOf : ByteArray := prog_1_method_22_code
def yX0_columnsOf : MethodName := ⟨RX0, "columnsOf", "(I)I"⟩
abbrev cX0_weight : ByteArray := prog_1_method_4_code
def yX0_weight : MethodName := ⟨RX0, "weight", "(III)I"⟩
abbrev cX0_see : ByteArray := prog_1_method_5_code
def yX0_see : MethodName := ⟨RX0, "see", "(I)I"⟩
abbrev cX0_forget : ByteArray := prog_1_method_6_code
def yX0_forget : MethodName := ⟨RX0, "forget", "(I)I"⟩
abbrev cX0_seen : ByteArray := prog_1_method_7_code
def yX0_seen : MethodName := ⟨RX0, "seen", "()I"⟩
abbrev cX0_symbol : ByteArray := prog_1_method_8_code
def yX0_symbol : MethodName := ⟨RX0, "symbol", "(I)I"⟩
abbrev cX0_hasPlace : ByteArray := prog_1_method_24_code
def yX0_hasPlace : MethodName := ⟨RX0, "hasPlace", "(I)Z"⟩
abbrev cX0_total : ByteArray := prog_1_method_9_code
def yX0_total : MethodName := ⟨RX0, "total", "()J"⟩
abbrev cX0_before : ByteArray := prog_1_method_10_code
def yX0_before : MethodName := ⟨RX0, "before", "(II)J"⟩
abbrev cX0_hasState : ByteArray := prog_1_method_25_code
def yX0_hasState : MethodName := ⟨RX0, "hasState", "(I)Z"⟩
abbrev cX0_behind : ByteArray := prog_1_method_11_code
def yX0_behind : MethodName := ⟨RX0, "behind", "(II)J"⟩
abbrev cX0_ways : ByteArray := prog_1_method_12_code
def yX0_ways : MethodName := ⟨RX0, "ways", "()I"⟩
abbrev cX0_ranked : ByteArray := prog_1_method_13_code
def yX0_ranked : MethodName := ⟨RX0, "ranked", "(I)J"⟩
abbrev cX0_hasRank : ByteArray := prog_1_method_26_code
def yX0_hasRank : MethodName := ⟨RX0, "hasRank", "(I)Z"⟩
abbrev cX0_stateOf : ByteArray := prog_1_method_14_code
def yX0_stateOf : MethodName := ⟨RX0, "stateOf", "(II)I"⟩
abbrev cX0_share : ByteArray := prog_1_method_15_code
def yX0_share : MethodName := ⟨RX0, "share", "(IIII)J"⟩
abbrev cX0_unitsOf : ByteArray := prog_1_method_37_code
def yX0_unitsOf : MethodName := ⟨RX0, "unitsOf", "(III)J"⟩
abbrev cX0_unitsThrough : ByteArray := prog_1_method_38_code
def yX0_unitsThrough : MethodName := ⟨RX0, "unitsThrough", "(II)J"⟩
abbrev cX0_unitsOfStep : ByteArray := prog_1_method_39_code
def yX0_unitsOfStep : MethodName := ⟨RX0, "unitsOfStep", "(II)J"⟩
abbrev cX0_unitsOfSymbol : ByteArray := prog_1_method_40_code
def yX0_unitsOfSymbol : MethodName := ⟨RX0, "unitsOfSymbol", "(II)J"⟩
abbrev cX0_partOf : ByteArray := prog_1_method_47_code
def yX0_partOf : MethodName := ⟨RX0, "partOf", "(JJI)J"⟩
abbrev cX0_commonDivisor : ByteArray := prog_1_method_48_code
def yX0_commonDivisor : MethodName := ⟨RX0, "commonDivisor", "(JJ)J"⟩
abbrev cX0_learned : ByteArray := prog_1_method_16_code
def yX0_learned : MethodName := ⟨RX0, "learned", "(IIII)J"⟩
abbrev cX0_unitsOfRow : ByteArray := prog_1_method_41_code
def yX0_unitsOfRow : MethodName := ⟨RX0, "unitsOfRow", "(II)J"⟩
abbrev cX0_learnedPortion : ByteArray := prog_1_method_43_code
def yX0_learnedPortion : MethodName := ⟨RX0, "learnedPortion", "(IIIJ)J"⟩
abbrev cX0_learnedWhole : ByteArray := prog_1_method_44_code
def yX0_learnedWhole : MethodName := ⟨RX0, "learnedWhole", "(IIJ)J"⟩
abbrev cX0_weightOfRow : ByteArray := prog_1_method_42_code
def yX0_weightOfRow : MethodName := ⟨RX0, "weightOfRow", "(II)J"⟩
abbrev cX0_learn : ByteArray := prog_1_method_17_code
def yX0_learn : MethodName := ⟨RX0, "learn", "()I"⟩
abbrev cX0_learnRow : ByteArray := prog_1_method_45_code
def yX0_learnRow : MethodName := ⟨RX0, "learnRow", "(II)I"⟩
abbrev cX0_nearest : ByteArray := prog_1_method_46_code
def yX0_nearest : MethodName := ⟨RX0, "nearest", "(JJ)I"⟩
abbrev cX0_draw : ByteArray := prog_1_method_18_code
def yX0_draw : MethodName := ⟨RX0, "draw", "(J)Z"⟩
abbrev cX0_drawn : ByteArray := prog_1_method_19_code
def yX0_drawn : MethodName := ⟨RX0, "drawn", "(I)I"⟩
abbrev cX1_init : ByteArray := prog_3_method_1_code
def yX1_init : MethodName := ⟨RX1, "<init>", "()V"⟩
abbrev cX1_clear : ByteArray := prog_3_method_2_code
def yX1_clear : MethodName := ⟨RX1, "clear", "()V"⟩
abbrev cX1_size : ByteArray := prog_3_method_3_code
def yX1_size : MethodName := ⟨RX1, "size", "(II)Z"⟩
abbrev cX1_weigh : ByteArray := prog_3_method_7_code
def yX1_weigh : MethodName := ⟨RX1, "weigh", "(IIII)Z"⟩
abbrev cX1_slot : ByteArray := prog_3_method_6_code
def yX1_slot : MethodName := ⟨RX1, "slot", "(III)I"⟩
abbrev cX1_state : ByteArray := prog_3_method_4_code
def yX1_state : MethodName := ⟨RX1, "state", "(I)Z"⟩
abbrev cX1_isSymbol : ByteArray := prog_3_method_5_code
def yX1_isSymbol : MethodName := ⟨RX1, "isSymbol", "(I)Z"⟩
abbrev cX1_weight : ByteArray := prog_3_method_8_code
def yX1_weight : MethodName := ⟨RX1, "weight", "(III)I"⟩
abbrev cX1_see : ByteArray := prog_3_method_9_code
def yX1_see : MethodName := ⟨RX1, "see", "(I)I"⟩
abbrev cX1_forget : ByteArray := prog_3_method_10_code
def yX1_forget : MethodName := ⟨RX1, "forget", "(I)I"⟩
abbrev cX1_seen : ByteArray := prog_3_method_11_code
def yX1_seen : MethodName := ⟨RX1, "seen", "()I"⟩
abbrev cX1_symbol : ByteArray := prog_3_method_12_code
def yX1_symbol : MethodName := ⟨RX1, "symbol", "(I)I"⟩
abbrev cX1_total : ByteArray := prog_3_method_17_code
def yX1_total : MethodName := ⟨RX1, "total", "()J"⟩
abbrev cX1_power : ByteArray := prog_3_method_13_code
def yX1_power : MethodName := ⟨RX1, "power", "(I)I"⟩
abbrev cX1_weightOf : ByteArray := prog_3_method_16_code
def yX1_weightOf : MethodName := ⟨RX1, "weightOf", "(I)J"⟩
abbrev cX1_spell : ByteArray := prog_3_method_14_code
def yX1_spell : MethodName := ⟨RX1, "spell", "(III)V"⟩
abbrev cX1_product : ByteArray := prog_3_method_15_code
def yX1_product : MethodName := ⟨RX1, "product", "(II)J"⟩
abbrev cX1_before : ByteArray := prog_3_method_18_code
def yX1_before : MethodName := ⟨RX1, "before", "(II)J"⟩
abbrev cX1_behind : ByteArray := prog_3_method_19_code
def yX1_behind : MethodName := ⟨RX1, "behind", "(II)J"⟩
abbrev cX1_ways : ByteArray := prog_3_method_20_code
def yX1_ways : MethodName := ⟨RX1, "ways", "()I"⟩
abbrev cX1_ranked : ByteArray := prog_3_method_22_code
def yX1_ranked : MethodName := ⟨RX1, "ranked", "(I)J"⟩
abbrev cX1_rank : ByteArray := prog_3_method_21_code
def yX1_rank : MethodName := ⟨RX1, "rank", "(I)I"⟩
abbrev cX1_stateOf : ByteArray := prog_3_method_23_code
def yX1_stateOf : MethodName := ⟨RX1, "stateOf", "(II)I"⟩
abbrev cX1_share : ByteArray := prog_3_method_28_code
def yX1_share : MethodName := ⟨RX1, "share", "(IIII)J"⟩
abbrev cX1_sum : ByteArray := prog_3_method_27_code
def yX1_sum : MethodName := ⟨RX1, "sum", "(III)J"⟩
abbrev cX1_times : ByteArray := prog_3_method_26_code
def yX1_times : MethodName := ⟨RX1, "times", "(III)I"⟩
abbrev cX1_fraction : ByteArray := prog_3_method_24_code
def yX1_fraction : MethodName := ⟨RX1, "fraction", "(JJ)V"⟩
abbrev cX1_part : ByteArray := prog_3_method_25_code
def yX1_part : MethodName := ⟨RX1, "part", "(I)J"⟩
abbrev cX1_learned : ByteArray := prog_3_method_31_code
def yX1_learned : MethodName := ⟨RX1, "learned", "(IIII)J"⟩
abbrev cX1_learnOne : ByteArray := prog_3_method_30_code
def yX1_learnOne : MethodName := ⟨RX1, "learnOne", "(III)V"⟩
abbrev cX1_columns : ByteArray := prog_3_method_29_code
def yX1_columns : MethodName := ⟨RX1, "columns", "(I)I"⟩
abbrev cX1_learn : ByteArray := prog_3_method_32_code
def yX1_learn : MethodName := ⟨RX1, "learn", "()I"⟩
abbrev cX1_draw : ByteArray := prog_3_method_33_code
def yX1_draw : MethodName := ⟨RX1, "draw", "(J)Z"⟩
abbrev cX1_drawn : ByteArray := prog_3_method_34_code
def yX1_drawn : MethodName := ⟨RX1, "drawn", "(I)I"⟩
end
section
/-! sums of naturals below a bound -/
def ms_sum (f : Nat → Nat) : Nat → Nat
  | 0 => 0
  | n + 1 => ms_sum f n + f n
theorem ms_sum_succ (f : Nat → Nat) (n : Nat) : ms_sum f (n + 1) = ms_sum f n + f n := rfl
theorem ms_sum_congr {f g : Nat → Nat} : ∀ {n : Nat}, (∀ k, k < n → f k = g k) → ms_sum f n = ms_sum g n
  | 0, _ => rfl
  | n + 1, h => by
    rw [ms_sum_succ, ms_sum_succ, ms_sum_congr (fun k hk => h k (Nat.lt_succ_of_lt hk)), h n (Nat.lt_succ_self n)]
theorem ms_sum_zero : ∀ n : Nat, ms_sum (fun _ => 0) n = 0
  | 0 => rfl
  | n + 1 => by rw [ms_sum_succ, ms_sum_zero n]
theorem ms_sum_add (f g : Nat → Nat) : ∀ n : Nat, ms_sum (fun k => f k + g k) n = ms_sum f n + ms_sum g n
  | 0 => rfl
  | n + 1 => by rw [ms_sum_succ, ms_sum_succ, ms_sum_succ, ms_sum_add f g n]; omega
theorem ms_sum_mull (c : Nat) (f : Nat → Nat) : ∀ n : Nat, ms_sum (fun k => c * f k) n = c * ms_sum f n
  | 0 => rfl
  | n + 1 => by rw [ms_sum_succ, ms_sum_succ, ms_sum_mull c f n, Nat.mul_add]
theorem ms_sum_mulr (c : Nat) (f : Nat → Nat) : ∀ n : Nat, ms_sum (fun k => f k * c) n = ms_sum f n * c
  | 0 => (Nat.zero_mul c).symm
  | n + 1 => by rw [ms_sum_succ, ms_sum_succ, ms_sum_mulr c f n, Nat.add_mul]
theorem ms_sum_split (f : Nat → Nat) (a : Nat) : ∀ b : Nat, ms_sum f (a + b) = ms_sum f a + ms_sum (fun k => f (a + k)) b
  | 0 => rfl
  | b + 1 => by
    rw [← Nat.add_assoc, ms_sum_succ, ms_sum_succ, ms_sum_split f a b]; omega
theorem ms_sum_block (f : Nat → Nat) (b : Nat) : ∀ a : Nat, ms_sum f (a * b) = ms_sum (fun i => ms_sum (fun j => f (i * b + j)) b) a
  | 0 => by rw [Nat.zero_mul]; rfl
  | a + 1 => by rw [Nat.succ_mul, ms_sum_split, ms_sum_block f b a, ms_sum_succ]
theorem ms_sum_swap (f : Nat → Nat → Nat) (m : Nat) : ∀ n : Nat, ms_sum (fun i => ms_sum (f i) m) n = ms_sum (fun j => ms_sum (fun i => f i j) n) m
  | 0 => (ms_sum_zero m).symm
  | n + 1 => by
    rw [ms_sum_succ, ms_sum_swap f m n, ← ms_sum_add]
    exact ms_sum_congr (fun k _ => rfl)
theorem ms_sum_eq0 {f : Nat → Nat} : ∀ {n : Nat}, (∀ k, k < n → f k = 0) → ms_sum f n = 0
  | 0, _ => rfl
  | n + 1, h => by rw [ms_sum_succ, ms_sum_eq0 (fun k hk => h k (Nat.lt_succ_of_lt hk)), h n (Nat.lt_succ_self n)]
theorem ms_sum_one {f : Nat → Nat} {a : Nat} : ∀ {n : Nat}, a < n → (∀ k, k < n → k ≠ a → f k = 0) → ms_sum f n = f a
  | 0, h, _ => absurd h (Nat.not_lt_zero a)
  | n + 1, h, hz => by
    rw [ms_sum_succ]
    by_cases e : a = n
    · subst e
      rw [ms_sum_eq0 (fun k hk => hz k (Nat.lt_succ_of_lt hk) (Nat.ne_of_lt hk)), Nat.zero_add]
    · have hl : a < n := by omega
      rw [ms_sum_one hl (fun k hk => hz k (Nat.lt_succ_of_lt hk)), hz n (Nat.lt_succ_self n) (fun q => e q.symm), Nat.add_zero]
theorem ms_sum_le {f : Nat → Nat} {c : Nat} : ∀ {n : Nat}, (∀ k, k < n → f k ≤ c) → ms_sum f n ≤ n * c
  | 0, _ => Nat.zero_le _
  | n + 1, h => by
    rw [ms_sum_succ, Nat.succ_mul]
    exact Nat.add_le_add (ms_sum_le (fun k hk => h k (Nat.lt_succ_of_lt hk))) (h n (Nat.lt_succ_self n))
theorem ms_sum_mono {f g : Nat → Nat} : ∀ {n : Nat}, (∀ k, k < n → f k ≤ g k) → ms_sum f n ≤ ms_sum g n
  | 0, _ => Nat.zero_le _
  | n + 1, h => by
    rw [ms_sum_succ, ms_sum_succ]
    exact Nat.add_le_add (ms_sum_mono (fun k hk => h k (Nat.lt_succ_of_lt hk))) (h n (Nat.lt_succ_self n))
theorem ms_sum_len {f : Nat → Nat} {a b : Nat} (h : a ≤ b) : ms_sum f a ≤ ms_sum f b := by
  have e : b = a + (b - a) := by omega
  rw [e, ms_sum_split]
  exact Nat.le_add_right _ _
theorem ms_le_sum {f : Nat → Nat} {k n : Nat} (h : k < n) : f k ≤ ms_sum f n := by
  have h1 : ms_sum f (k + 1) ≤ ms_sum f n := ms_sum_len h
  rw [ms_sum_succ] at h1
  omega
theorem ms_of_sum0 {f : Nat → Nat} {n : Nat} (h : ms_sum f n = 0) {k : Nat} (hk : k < n) : f k = 0 := by
  have h1 := ms_le_sum (f := f) hk
  omega
/-! the product of a way's entries, from place a on, c of them -/
def ms_pr (e : Nat → Nat → Nat → Nat) (w : Nat → Nat) (a : Nat) : Nat → Nat
  | 0 => 1
  | c + 1 => ms_pr e w a c * e (a + c) (w (a + c - 1)) (w (a + c))
theorem ms_pr_succ (e : Nat → Nat → Nat → Nat) (w : Nat → Nat) (a c : Nat) : ms_pr e w a (c + 1) = ms_pr e w a c * e (a + c) (w (a + c - 1)) (w (a + c)) := rfl
theorem ms_pr_congr {e : Nat → Nat → Nat → Nat} {w v : Nat → Nat} {a : Nat} : ∀ {c : Nat}, (∀ q, q < a + c → a ≤ q + 1 → w q = v q) → ms_pr e w a c = ms_pr e v a c
  | 0, _ => rfl
  | c + 1, h => by
    rw [ms_pr_succ, ms_pr_succ, ms_pr_congr (fun q h1 h2 => h q (by omega) h2), h (a + c - 1) (by omega) (by omega), h (a + c) (by omega) (by omega)]
theorem ms_pr_e {e f : Nat → Nat → Nat → Nat} {w : Nat → Nat} {a : Nat} : ∀ {c : Nat}, (∀ q, a ≤ q → q < a + c → e q (w (q - 1)) (w q) = f q (w (q - 1)) (w q)) → ms_pr e w a c = ms_pr f w a c
  | 0, _ => rfl
  | c + 1, h => by
    rw [ms_pr_succ, ms_pr_succ, ms_pr_e (fun q h1 h2 => h q h1 (by omega)), h (a + c) (by omega) (by omega)]
theorem ms_pr_split (e : Nat → Nat → Nat → Nat) (w : Nat → Nat) (a c : Nat) : ∀ d : Nat, ms_pr e w a (c + d) = ms_pr e w a c * ms_pr e w (a + c) d
  | 0 => (Nat.mul_one _).symm
  | d + 1 => by
    rw [← Nat.add_assoc c d 1, ms_pr_succ, ms_pr_succ, ms_pr_split e w a c d, Nat.mul_assoc, Nat.add_assoc]
theorem ms_pr_one (e : Nat → Nat → Nat → Nat) (w : Nat → Nat) (a : Nat) : ms_pr e w a 1 = e a (w (a - 1)) (w a) := by
  rw [ms_pr_succ]
  show 1 * _ = _
  rw [Nat.one_mul, Nat.add_zero]
theorem ms_pr_head (e : Nat → Nat → Nat → Nat) (w : Nat → Nat) (a c : Nat) : ms_pr e w a (c + 1) = e a (w (a - 1)) (w a) * ms_pr e w (a + 1) c := by
  rw [Nat.add_comm c 1, ms_pr_split, ms_pr_one]
theorem ms_pr_le {e : Nat → Nat → Nat → Nat} {w : Nat → Nat} {a : Nat} {b : Nat} : ∀ {c : Nat}, (∀ q, a ≤ q → q < a + c → e q (w (q - 1)) (w q) ≤ b) → ms_pr e w a c ≤ b ^ c
  | 0, _ => Nat.le_refl _
  | c + 1, h => by
    rw [ms_pr_succ, Nat.pow_succ]
    exact Nat.mul_le_mul (ms_pr_le (fun q h1 h2 => h q h1 (by omega))) (h (a + c) (by omega) (by omega))
/-! digits -/
theorem ms_pos {S : Nat} (h : 0 < S) (r : Nat) : 0 < S ^ r := Nat.pow_pos h
theorem ms_top {S r t b : Nat} (hb : b < S ^ r) : (t * S ^ r + b) / S ^ r = t := by
  have h0 : 0 < S ^ r := by omega
  rw [Nat.add_comm, Nat.add_mul_div_right _ _ h0, Nat.div_eq_of_lt hb, Nat.zero_add]
theorem ms_low {S r t b j : Nat} (hS : 0 < S) (hj : j < r) : (t * S ^ r + b) / S ^ j % S = b / S ^ j % S := by
  have e : S ^ r = S ^ (r - j - 1) * S * S ^ j := by
    rw [← Nat.pow_succ, ← Nat.pow_add]
    congr 1
    omega
  rw [e, ← Nat.mul_assoc, Nat.add_comm, Nat.add_mul_div_right _ _ (ms_pos hS j), ← Nat.mul_assoc, Nat.add_mul_mod_self_right]
theorem ms_shift {S k t j : Nat} (ht : t < S) : (k * S + t) / S ^ (j + 1) = k / S ^ j := by
  have h0 : 0 < S := by omega
  rw [Nat.pow_succ, Nat.mul_comm (S ^ j) S, ← Nat.div_div_eq_div_mul, Nat.add_comm (k * S) t, Nat.add_mul_div_right _ _ h0, Nat.div_eq_of_lt ht, Nat.zero_add]
theorem ms_last {S k t : Nat} (ht : t < S) : (k * S + t) % S = t := by
  rw [Nat.add_comm, Nat.add_mul_mod_self_right, Nat.mod_eq_of_lt ht]
theorem ms_high {S r t b j : Nat} (hb : b < S ^ r) : (t * S ^ r + b) / S ^ (r + j) = t / S ^ j := by
  rw [Nat.pow_add, ← Nat.div_div_eq_div_mul, ms_top hb]
/-- the state at place p of the way of number k, of n places -/
def ms_dg (S n k p : Nat) : Nat := k / S ^ (n - 1 - p) % S
theorem ms_dg_lt {S n k p : Nat} (hS : 0 < S) : ms_dg S n k p < S := Nat.mod_lt _ hS
theorem ms_dg_snoc {S n k t q : Nat} (ht : t < S) (hq : q < n) : ms_dg S (n + 1) (k * S + t) q = ms_dg S n k q := by
  unfold ms_dg
  have e : n + 1 - 1 - q = (n - 1 - q) + 1 := by omega
  rw [e, ms_shift ht]
theorem ms_dg_last {S n k t : Nat} (ht : t < S) : ms_dg S (n + 1) (k * S + t) n = t := by
  unfold ms_dg
  have e : n + 1 - 1 - n = 0 := by omega
  rw [e, Nat.pow_zero, Nat.div_one, ms_last ht]
/-- two numbers of n digits with the same digits are the same -/
theorem ms_dg_inj {S : Nat} (hS : 0 < S) : ∀ {n k j : Nat}, k < S ^ n → j < S ^ n → (∀ q, q < n → ms_dg S n k q = ms_dg S n j q) → k = j
  | 0, k, j, hk, hj, _ => by
    rw [Nat.pow_zero] at hk hj
    omega
  | n + 1, k, j, hk, hj, h => by
    have ek : k = (k / S) * S + k % S := (Nat.div_add_mod' k S).symm
    have ej : j = (j / S) * S + j % S := (Nat.div_add_mod' j S).symm
    have mk : k % S < S := Nat.mod_lt _ hS
    have mj : j % S < S := Nat.mod_lt _ hS
    have dk : k / S < S ^ n := by
      rw [Nat.div_lt_iff_lt_mul hS, ← Nat.pow_succ]; exact hk
    have dj : j / S < S ^ n := by
      rw [Nat.div_lt_iff_lt_mul hS, ← Nat.pow_succ]; exact hj
    have h1 : k / S = j / S := ms_dg_inj hS dk dj (fun q hq => by
      have h2 := h q (Nat.lt_succ_of_lt hq)
      rw [ek, ej, ms_dg_snoc mk hq, ms_dg_snoc mj hq] at h2
      exact h2)
    have h3 := h n (Nat.lt_succ_self n)
    rw [ek, ej, ms_dg_last mk, ms_dg_last mj] at h3
    rw [ek, ej, h1, h3]
/-! forward and backward sums -/
def ms_bf (e : Nat → Nat → Nat → Nat) (S : Nat) : Nat → Nat → Nat
  | 0, s => e 0 0 s
  | p + 1, s => ms_sum (fun t => ms_bf e S p t * e (p + 1) t s) S
/-- r places are left behind; n in all -/
def ms_bh (e : Nat → Nat → Nat → Nat) (S n : Nat) : Nat → Nat → Nat
  | 0, _ => 1
  | r + 1, s => ms_sum (fun t => e (n - 1 - r) s t * ms_bh e S n r t) S
/-- the weight of the way of number k, of n places -/
def ms_wt (e : Nat → Nat → Nat → Nat) (S n k : Nat) : Nat := ms_pr e (ms_dg S n k) 0 n
/-- the way of number a up to place p - 1, then s -/
def ms_wa (S p a s : Nat) : Nat → Nat := fun q => if q < p then ms_dg S p a q else s
/-- s up to place p, behind it the way of number b of the places p + 1 .. n - 1 -/
def ms_wb (S n p s b : Nat) : Nat → Nat := fun q => if q ≤ p then s else b / S ^ (n - 1 - q) % S
def ms_af (e : Nat → Nat → Nat → Nat) (S p a s : Nat) : Nat := ms_pr e (ms_wa S p a s) 0 (p + 1)
def ms_bg (e : Nat → Nat → Nat → Nat) (S n p s b : Nat) : Nat := ms_pr e (ms_wb S n p s b) (p + 1) (n - 1 - p)
theorem ms_af_0 {e : Nat → Nat → Nat → Nat} (he : ∀ x y, e 0 x y = e 0 0 y) (S a s : Nat) : ms_af e S 0 a s = e 0 0 s := by
  unfold ms_af
  rw [ms_pr_one, he]
  simp [ms_wa]
theorem ms_af_succ (e : Nat → Nat → Nat → Nat) {S p a t s : Nat} (ht : t < S) : ms_af e S (p + 1) (a * S + t) s = ms_af e S p a t * e (p + 1) t s := by
  unfold ms_af
  rw [ms_pr_succ, Nat.zero_add]
  have h1 : ms_wa S (p + 1) (a * S + t) s (p + 1) = s := by simp [ms_wa]
  have h2 : ms_wa S (p + 1) (a * S + t) s (p + 1 - 1) = t := by
    simp only [ms_wa, Nat.add_sub_cancel]
    rw [if_pos (Nat.lt_succ_self p), ms_dg_last ht]
  rw [h1, h2]
  congr 1
  refine ms_pr_congr (fun q h3 _ => ?_)
  have h4 : q < p + 1 := by omega
  simp only [ms_wa]
  rw [if_pos h4]
  by_cases h5 : q < p
  · rw [if_pos h5, ms_dg_snoc ht h5]
  · have h6 : q = p := by omega
    rw [if_neg h5, h6, ms_dg_last ht]
theorem ms_bf_sum {e : Nat → Nat → Nat → Nat} (he : ∀ x y, e 0 x y = e 0 0 y) (S : Nat) : ∀ (p s : Nat), ms_sum (fun a => ms_af e S p a s) (S ^ p) = ms_bf e S p s
  | 0, s => by
    rw [Nat.pow_zero, ms_sum_succ]
    show 0 + _ = _
    rw [Nat.zero_add, ms_af_0 he]
    rfl
  | p + 1, s => by
    rw [Nat.pow_succ, ms_sum_block]
    have h1 : ms_sum (fun i => ms_sum (fun j => ms_af e S (p + 1) (i * S + j) s) S) (S ^ p) = ms_sum (fun i => ms_sum (fun j => ms_af e S p i j * e (p + 1) j s) S) (S ^ p) :=
      ms_sum_congr (fun i _ => ms_sum_congr (fun j hj => ms_af_succ e hj))
    rw [h1, ms_sum_swap (fun i j => ms_af e S p i j * e (p + 1) j s)]
    refine ms_sum_congr (fun t _ => ?_)
    rw [ms_sum_mulr, ms_bf_sum he S p t]
theorem ms_bg_0 (e : Nat → Nat → Nat → Nat) {S n p s b : Nat} (h : n - 1 - p = 0) : ms_bg e S n p s b = 1 := by
  unfold ms_bg
  rw [h]
  rfl
theorem ms_bg_succ (e : Nat → Nat → Nat → Nat) {S n p s t b r : Nat} (hr : n - 1 - p = r + 1) (ht : t < S) (hb : b < S ^ r) : ms_bg e S n p s (t * S ^ r + b) = e (p + 1) s t * ms_bg e S n (p + 1) t b := by
  have hS : 0 < S := by omega
  unfold ms_bg
  have hr2 : n - 1 - (p + 1) = r := by omega
  rw [hr, hr2, ms_pr_head]
  have h1 : ms_wb S n p s (t * S ^ r + b) (p + 1 - 1) = s := by simp [ms_wb]
  have h2 : ms_wb S n p s (t * S ^ r + b) (p + 1) = t := by
    simp only [ms_wb]
    rw [if_neg (by omega), hr2, ms_top hb, Nat.mod_eq_of_lt ht]
  rw [h1, h2]
  congr 1
  refine ms_pr_congr (fun q h3 h4 => ?_)
  simp only [ms_wb]
  by_cases h5 : q ≤ p + 1
  · have h6 : q = p + 1 := by omega
    subst h6
    rw [if_neg (by omega), if_pos (Nat.le_refl _), hr2, ms_top hb, Nat.mod_eq_of_lt ht]
  · rw [if_neg (by omega), if_neg h5, ms_low hS (by omega)]
theorem ms_bh_sum {e : Nat → Nat → Nat → Nat} {S n : Nat} : ∀ (r p s : Nat), n - 1 - p = r → (r = 0 ∨ p < n) → ms_sum (fun b => ms_bg e S n p s b) (S ^ r) = ms_bh e S n r s
  | 0, p, s, h, _ => by
    rw [Nat.pow_zero, ms_sum_succ]
    show 0 + _ = _
    rw [Nat.zero_add, ms_bg_0 e h]
    rfl
  | r + 1, p, s, h, _ => by
    rw [Nat.pow_succ, Nat.mul_comm, ms_sum_block]
    have hp : n - 1 - r = p + 1 := by omega
    show _ = ms_sum (fun t => e (n - 1 - r) s t * ms_bh e S n r t) S
    rw [hp]
    refine ms_sum_congr (fun t ht => ?_)
    rw [← ms_bh_sum r (p + 1) t (by omega) (by omega), ← ms_sum_mull]
    exact ms_sum_congr (fun b hb => ms_bg_succ e h ht hb)
/-- a way cut at a place -/
theorem ms_wt_cut (e : Nat → Nat → Nat → Nat) {S n p r a t b : Nat} (hn : n = p + 1 + r) (ht : t < S) (hb : b < S ^ r) : ms_wt e S n ((a * S + t) * S ^ r + b) = ms_af e S p a t * ms_bg e S n p t b := by
  have hS : 0 < S := by omega
  unfold ms_wt ms_af ms_bg
  have hr : n - 1 - p = r := by omega
  rw [hr]
  have hn' : n = (p + 1) + r := hn
  conv => lhs; rw [hn', ms_pr_split, Nat.zero_add]
  have dhi : ∀ q, q < p + 1 → ms_dg S (p + 1 + r) ((a * S + t) * S ^ r + b) q = ms_wa S p a t q := by
    intro q hq
    simp only [ms_wa]
    unfold ms_dg
    have e1 : p + 1 + r - 1 - q = r + (p - q) := by omega
    rw [e1, ms_high hb]
    by_cases h5 : q < p
    · have e2 : p - q = (p - 1 - q) + 1 := by omega
      rw [if_pos h5, e2, ms_shift ht]
    · have e2 : p - q = 0 := by omega
      rw [if_neg h5, e2, Nat.pow_zero, Nat.div_one, ms_last ht]
  have dlo : ∀ q, q < p + 1 + r → p ≤ q → ms_dg S (p + 1 + r) ((a * S + t) * S ^ r + b) q = ms_wb S (p + 1 + r) p t b q := by
    intro q hq hpq
    by_cases h5 : q = p
    · subst h5
      rw [dhi q (by omega)]
      simp [ms_wa, ms_wb]
    · simp only [ms_wb]
      rw [if_neg (by omega)]
      unfold ms_dg
      rw [ms_low hS (by omega)]
  rw [ms_pr_congr (w := ms_dg S (p + 1 + r) ((a * S + t) * S ^ r + b)) (v := ms_wa S p a t) (fun q h1 _ => dhi q (by omega)), ms_pr_congr (w := ms_dg S (p + 1 + r) ((a * S + t) * S ^ r + b)) (v := ms_wb S (p + 1 + r) p t b) (fun q h1 h2 => dlo q (by omega) (by omega)), ← hn]
/-- all ways through t at place p: any sum over all numbers, cut at the place -/
theorem ms_sum_cut (f : Nat → Nat) {S n p r : Nat} (hn : n = p + 1 + r) : ms_sum f (S ^ n) = ms_sum (fun a => ms_sum (fun t => ms_sum (fun b => f ((a * S + t) * S ^ r + b)) (S ^ r)) S) (S ^ p) := by
  have h1 : S ^ n = S ^ p * S * S ^ r := by rw [hn, Nat.pow_add, Nat.pow_succ]
  rw [h1, ms_sum_block f, ms_sum_block (fun i => ms_sum (fun j => f (i * S ^ r + j)) (S ^ r))]
theorem ms_cut_dg {S n p r a t b : Nat} (hn : n = p + 1 + r) (ht : t < S) (hb : b < S ^ r) : ms_dg S n ((a * S + t) * S ^ r + b) p = t := by
  unfold ms_dg
  have e1 : n - 1 - p = r := by omega
  rw [e1, ms_top hb, ms_last ht]
/-- the ways through s at place p -/
theorem ms_through {e : Nat → Nat → Nat → Nat} (he : ∀ x y, e 0 x y = e 0 0 y) {S n p s : Nat} (hp : p < n) (hs : s < S) : ms_sum (fun k => ms_wt e S n k * (if ms_dg S n k p = s then 1 else 0)) (S ^ n) = ms_bf e S p s * ms_bh e S n (n - 1 - p) s := by
  have hn : n = p + 1 + (n - 1 - p) := by omega
  rw [ms_sum_cut _ hn]
  have h1 : ∀ a, a < S ^ p → ms_sum (fun t => ms_sum (fun b => ms_wt e S n ((a * S + t) * S ^ (n - 1 - p) + b) * (if ms_dg S n ((a * S + t) * S ^ (n - 1 - p) + b) p = s then 1 else 0)) (S ^ (n - 1 - p))) S = ms_af e S p a s * ms_bh e S n (n - 1 - p) s := by
    intro a _
    rw [ms_sum_one hs (fun t ht hne => ms_sum_eq0 (fun b hb => by rw [ms_cut_dg hn ht hb, if_neg hne, Nat.mul_zero]))]
    rw [← ms_bh_sum (n - 1 - p) p s rfl (Or.inr hp), ← ms_sum_mull]
    exact ms_sum_congr (fun b hb => by rw [ms_cut_dg hn hs hb, if_pos rfl, Nat.mul_one, ms_wt_cut e hn hs hb])
  rw [ms_sum_congr h1, ms_sum_mulr, ms_bf_sum he]
/-- all ways -/
theorem ms_total {e : Nat → Nat → Nat → Nat} (he : ∀ x y, e 0 x y = e 0 0 y) {S n : Nat} (hn0 : 0 < n) : ms_sum (fun k => ms_wt e S n k) (S ^ n) = ms_sum (fun s => ms_bf e S (n - 1) s) S := by
  have hn : n = (n - 1) + 1 + 0 := by omega
  rw [ms_sum_cut _ hn, ms_sum_swap (fun a t => ms_sum (fun b => ms_wt e S n ((a * S + t) * S ^ 0 + b)) (S ^ 0))]
  refine ms_sum_congr (fun t ht => ?_)
  rw [← ms_bf_sum he]
  refine ms_sum_congr (fun a _ => ?_)
  rw [Nat.pow_zero, ms_sum_succ]
  show 0 + _ = _
  have h2 := ms_wt_cut e (a := a) hn ht (show (0 : Nat) < S ^ 0 by rw [Nat.pow_zero]; exact Nat.one_pos)
  rw [Nat.pow_zero] at h2
  rw [Nat.zero_add, h2, ms_bg_0 e (by omega), Nat.mul_one]
/-- the ways that step from s at place p to t -/
theorem ms_stepping {e : Nat → Nat → Nat → Nat} (he : ∀ x y, e 0 x y = e 0 0 y) {S n p s t : Nat} (hp : p + 1 < n) (hs : s < S) (ht : t < S) : ms_sum (fun k => ms_wt e S n k * (if ms_dg S n k p = s ∧ ms_dg S n k (p + 1) = t then 1 else 0)) (S ^ n) = ms_bf e S p s * e (p + 1) s t * ms_bh e S n (n - 1 - (p + 1)) t := by
  have hn : n = p + 1 + ((n - 1 - (p + 1)) + 1) := by omega
  generalize hr : n - 1 - (p + 1) = r at hn
  rw [ms_sum_cut _ hn]
  have dnext : ∀ a u v b, v < S → b < S ^ r → ms_dg S n ((a * S + u) * S ^ (r + 1) + (v * S ^ r + b)) (p + 1) = v := by
    intro a u v b hv hb
    unfold ms_dg
    rw [hr, ms_low (by omega) (Nat.lt_succ_self r), ms_top hb, Nat.mod_eq_of_lt hv]
  have hlt : ∀ v b, v < S → b < S ^ r → v * S ^ r + b < S ^ (r + 1) := by
    intro v b hv hb
    rw [Nat.pow_succ, Nat.mul_comm (S ^ r) S]
    have : (v + 1) * S ^ r ≤ S * S ^ r := Nat.mul_le_mul_right _ hv
    rw [Nat.succ_mul] at this
    omega
  have h1 : ∀ a, a < S ^ p → ms_sum (fun u => ms_sum (fun b => ms_wt e S n ((a * S + u) * S ^ (r + 1) + b) * (if ms_dg S n ((a * S + u) * S ^ (r + 1) + b) p = s ∧ ms_dg S n ((a * S + u) * S ^ (r + 1) + b) (p + 1) = t then 1 else 0)) (S ^ (r + 1))) S = ms_af e S p a s * (e (p + 1) s t * ms_bh e S n r t) := by
    intro a _
    rw [ms_sum_one hs (fun u hu hne => ms_sum_eq0 (fun b hb => by rw [ms_cut_dg hn hu hb, if_neg (fun q => hne q.1), Nat.mul_zero]))]
    have hpow : S ^ (r + 1) = S * S ^ r := by rw [Nat.pow_succ, Nat.mul_comm]
    conv => lhs; rw [hpow]
    rw [← hpow, hpow, ms_sum_block, ← hpow]
    rw [ms_sum_one ht (fun v hv hne => ms_sum_eq0 (fun b hb => by rw [dnext a s v b hv hb, if_neg (fun q => hne q.2), Nat.mul_zero]))]
    rw [← ms_bh_sum (e := e) (S := S) (n := n) r (p + 1) t hr (Or.inr (by omega)), ← ms_sum_mull, ← ms_sum_mull]
    refine ms_sum_congr (fun b hb => ?_)
    rw [ms_cut_dg hn hs (hlt t b ht hb), dnext a s t b ht hb, if_pos ⟨rfl, rfl⟩, Nat.mul_one, ms_wt_cut e hn hs (hlt t b ht hb), ms_bg_succ e (by omega) ht hb]
  rw [ms_sum_congr h1, ms_sum_mulr, ms_bf_sum he, Nat.mul_assoc]
/-- what depends on entries in range alone -/
theorem ms_bf_congr {e f : Nat → Nat → Nat → Nat} {S n : Nat} (hS : 0 < S) (h : ∀ p s t, p < n → s < S → t < S → e p s t = f p s t) : ∀ {p s : Nat}, p < n → s < S → ms_bf e S p s = ms_bf f S p s
  | 0, s, hp, hs => h 0 0 s hp hS hs
  | p + 1, s, hp, hs => ms_sum_congr (fun t ht => by rw [ms_bf_congr hS h (by omega) ht, h (p + 1) t s hp ht hs])
theorem ms_bh_congr {e f : Nat → Nat → Nat → Nat} {S n : Nat} (h : ∀ p s t, p < n → s < S → t < S → e p s t = f p s t) : ∀ {r s : Nat}, r < n → s < S → ms_bh e S n r s = ms_bh f S n r s
  | 0, _, _, _ => rfl
  | r + 1, s, hr, hs => ms_sum_congr (fun t ht => by rw [ms_bh_congr h (by omega) ht, h (n - 1 - r) s t (by omega) hs ht])
theorem ms_wt_congr {e f : Nat → Nat → Nat → Nat} {S n k : Nat} (hS : 0 < S) (h : ∀ p s t, p < n → s < S → t < S → e p s t = f p s t) : ms_wt e S n k = ms_wt f S n k :=
  ms_pr_e (fun q _ h2 => h q _ _ (by omega) (ms_dg_lt hS) (ms_dg_lt hS))
theorem ms_wt_le {e : Nat → Nat → Nat → Nat} {S n k b : Nat} (hS : 0 < S) (h : ∀ p s t, p < n → s < S → t < S → e p s t ≤ b) : ms_wt e S n k ≤ b ^ n :=
  ms_pr_le (fun q _ h2 => h q _ _ (by omega) (ms_dg_lt hS) (ms_dg_lt hS))
end
section
/-! ranks -/
/-- a is heavier than b -/
def ms_hv (w : Nat → Nat) (a b : Nat) : Prop := w b < w a ∨ (w a = w b ∧ a < b)
theorem ms_hv_tr {w : Nat → Nat} {a b c : Nat} (h1 : ms_hv w a b) (h2 : ms_hv w b c) : ms_hv w a c := by
  unfold ms_hv at *
  omega
theorem ms_hv_ir {w : Nat → Nat} {a : Nat} (h : ms_hv w a a) : False := by
  unfold ms_hv at h
  omega
theorem ms_hv_le {w : Nat → Nat} {a b : Nat} (h : ms_hv w a b) : w b ≤ w a := by
  unfold ms_hv at h
  omega
def ms_cnt (w : Nat → Nat) : Nat → Nat
  | 0 => 0
  | n + 1 => ms_cnt w n + (if w n = 0 then 0 else 1)
theorem ms_cnt_z {w : Nat → Nat} {n : Nat} (h : w n = 0) : ms_cnt w (n + 1) = ms_cnt w n := by
  show ms_cnt w n + (if w n = 0 then 0 else 1) = _
  rw [if_pos h, Nat.add_zero]
theorem ms_cnt_s {w : Nat → Nat} {n : Nat} (h : w n ≠ 0) : ms_cnt w (n + 1) = ms_cnt w n + 1 := by
  show ms_cnt w n + (if w n = 0 then 0 else 1) = _
  rw [if_neg h]
theorem ms_cnt_le (w : Nat → Nat) : ∀ n : Nat, ms_cnt w n ≤ n
  | 0 => Nat.le_refl _
  | n + 1 => by
    have h := ms_cnt_le w n
    by_cases e : w n = 0
    · rw [ms_cnt_z e]; omega
    · rw [ms_cnt_s e]; omega
/-- the twelve heaviest of the numbers below K, by r: their weights rw, their ways rk -/
def ms_rr (w pk : Nat → Nat) (K wc : Nat) (rw rk r : Nat → Nat) : Prop :=
  wc = ms_cnt w K ∧
  (∀ i, i < wc → i < 12 → r i < K ∧ w (r i) ≠ 0 ∧ rw i = w (r i) ∧ rk i = pk (r i)) ∧
  (∀ i j, i < j → j < wc → j < 12 → ms_hv w (r i) (r j)) ∧
  (∀ k, k < K → w k ≠ 0 → (∃ i, i < wc ∧ i < 12 ∧ r i = k) ∨ (12 ≤ wc ∧ ∀ i, i < 12 → ms_hv w (r i) k))
theorem ms_rr_0 (w pk rw rk r : Nat → Nat) : ms_rr w pk 0 0 rw rk r :=
  ⟨rfl, fun i h _ => absurd h (Nat.not_lt_zero i), fun i j _ h _ => absurd h (Nat.not_lt_zero j), fun k h _ => absurd h (Nat.not_lt_zero k)⟩
theorem ms_rr_z {w pk : Nat → Nat} {K wc : Nat} {rw rk r : Nat → Nat} (h : ms_rr w pk K wc rw rk r) (hz : w K = 0) : ms_rr w pk (K + 1) wc rw rk r := by
  obtain ⟨h1, h2, h3, h4⟩ := h
  refine ⟨by rw [ms_cnt_z hz]; exact h1, fun i a b => ?_, h3, fun k hk hw => ?_⟩
  · obtain ⟨x1, x2, x3, x4⟩ := h2 i a b
    exact ⟨by omega, x2, x3, x4⟩
  · have hne : k ≠ K := fun q => hw (by rw [q]; exact hz)
    exact h4 k (by omega) hw
theorem ms_rr_ins {w pk : Nat → Nat} {K wc pos : Nat} {rw rk rw2 rk2 r : Nat → Nat} (h : ms_rr w pk K wc rw rk r) (hw : w K ≠ 0)
    (hpw : pos ≤ wc) (hp12 : pos ≤ 12) (hb : ∀ j, pos ≤ j → j < wc → j < 12 → rw j < w K) (ha : ∀ j, j + 1 = pos → w K ≤ rw j)
    (e1 : ∀ j, j < pos → j < 12 → rw2 j = rw j ∧ rk2 j = rk j) (e2 : pos < 12 → rw2 pos = w K ∧ rk2 pos = pk K) (e3 : ∀ j, pos ≤ j → j < wc → j + 1 < 12 → rw2 (j + 1) = rw j ∧ rk2 (j + 1) = rk j) :
    ∃ r2 : Nat → Nat, ms_rr w pk (K + 1) (wc + 1) rw2 rk2 r2 := by
  obtain ⟨h1, h2, h3, h4⟩ := h
  have r2a : ∀ j, j < pos → (fun j => if j < pos then r j else if j = pos then K else r (j - 1)) j = r j := fun j hj => by simp [hj]
  have r2b : (fun j => if j < pos then r j else if j = pos then K else r (j - 1)) pos = K := by simp
  have r2c : ∀ j, pos ≤ j → (fun j => if j < pos then r j else if j = pos then K else r (j - 1)) (j + 1) = r j := fun j hj => by
    have q1 : ¬ j + 1 < pos := by omega
    have q2 : ¬ j + 1 = pos := by omega
    simp [q1, q2]
  generalize (fun j => if j < pos then r j else if j = pos then K else r (j - 1)) = r2 at r2a r2b r2c
  have above : ∀ i, i < pos → ms_hv w (r i) K := by
    intro i hi
    obtain ⟨q, hq⟩ : ∃ q, q + 1 = pos := ⟨pos - 1, by omega⟩
    have x := ha q hq
    obtain ⟨y1, y2, y3, y4⟩ := h2 q (by omega) (by omega)
    obtain ⟨z1, z2, z3, z4⟩ := h2 i (by omega) (by omega)
    by_cases hiq : i = q
    · subst hiq
      unfold ms_hv
      omega
    · have t := ms_hv_le (h3 i q (by omega) (by omega) (by omega))
      unfold ms_hv
      omega
  have beneath : ∀ i, pos ≤ i → i < wc → i < 12 → ms_hv w K (r i) := by
    intro i h5 h6 h7
    obtain ⟨z1, z2, z3, z4⟩ := h2 i h6 h7
    have x := hb i h5 h6 h7
    unfold ms_hv
    omega
  refine ⟨r2, by rw [ms_cnt_s hw]; omega, fun i hi h12 => ?_, fun i j hij hj h12 => ?_, fun k hk hkw => ?_⟩
  · by_cases c1 : i < pos
    · obtain ⟨z1, z2, z3, z4⟩ := h2 i (by omega) h12
      obtain ⟨u1, u2⟩ := e1 i c1 h12
      rw [r2a i c1, u1, u2]
      exact ⟨by omega, z2, z3, z4⟩
    · by_cases c2 : i = pos
      · subst c2
        obtain ⟨u1, u2⟩ := e2 h12
        rw [r2b, u1, u2]
        exact ⟨Nat.lt_succ_self K, hw, rfl, rfl⟩
      · obtain ⟨j, rfl⟩ : ∃ j, i = j + 1 := ⟨i - 1, by omega⟩
        obtain ⟨z1, z2, z3, z4⟩ := h2 j (by omega) (by omega)
        obtain ⟨u1, u2⟩ := e3 j (by omega) (by omega) h12
        rw [r2c j (by omega), u1, u2]
        exact ⟨by omega, z2, z3, z4⟩
  · by_cases c1 : j < pos
    · rw [r2a i (by omega), r2a j c1]
      exact h3 i j hij (by omega) h12
    · by_cases c2 : j = pos
      · subst c2
        rw [r2a i hij, r2b]
        exact above i hij
      · obtain ⟨q, rfl⟩ : ∃ q, j = q + 1 := ⟨j - 1, by omega⟩
        rw [r2c q (by omega)]
        by_cases c3 : i < pos
        · rw [r2a i c3]
          exact h3 i q (by omega) (by omega) (by omega)
        · by_cases c4 : i = pos
          · subst c4
            rw [r2b]
            exact beneath q (by omega) (by omega) (by omega)
          · obtain ⟨u, rfl⟩ : ∃ u, i = u + 1 := ⟨i - 1, by omega⟩
            rw [r2c u (by omega)]
            exact h3 u q (by omega) (by omega) (by omega)
  · by_cases ck : k = K
    · subst ck
      by_cases c1 : pos < 12
      · exact Or.inl ⟨pos, by omega, c1, r2b⟩
      · refine Or.inr ⟨by omega, fun i hi => ?_⟩
        rw [r2a i (by omega)]
        exact above i (by omega)
    · rcases h4 k (by omega) hkw with ⟨i, i1, i2, i3⟩ | ⟨g1, g2⟩
      · by_cases c1 : i < pos
        · exact Or.inl ⟨i, by omega, i2, by rw [r2a i c1]; exact i3⟩
        · by_cases c2 : i + 1 < 12
          · exact Or.inl ⟨i + 1, by omega, c2, by rw [r2c i (by omega)]; exact i3⟩
          · have c3 : i = 11 := by omega
            subst c3
            rw [← i3]
            refine Or.inr ⟨by omega, fun j hj => ?_⟩
            by_cases d1 : j < pos
            · rw [r2a j d1]
              exact h3 j 11 (by omega) i1 (by omega)
            · by_cases d2 : j = pos
              · subst d2
                rw [r2b]
                exact beneath 11 (by omega) i1 (by omega)
              · obtain ⟨q, rfl⟩ : ∃ q, j = q + 1 := ⟨j - 1, by omega⟩
                rw [r2c q (by omega)]
                exact h3 q 11 (by omega) i1 (by omega)
      · refine Or.inr ⟨by omega, fun j hj => ?_⟩
        by_cases d1 : j < pos
        · rw [r2a j d1]
          exact g2 j hj
        · by_cases d2 : j = pos
          · subst d2
            rw [r2b]
            exact ms_hv_tr (beneath 11 (by omega) (by omega) (by omega)) (g2 11 (by omega))
          · obtain ⟨q, rfl⟩ : ∃ q, j = q + 1 := ⟨j - 1, by omega⟩
            rw [r2c q (by omega)]
            exact g2 q (by omega)
/-- the reference's choice: the first of the greatest among what is left -/
theorem ms_rr_best {w pk : Nat → Nat} {K wc i b : Nat} {rw rk r a : Nat → Nat} (h : ms_rr w pk K wc rw rk r) (hi : i < 12) (ha : ∀ k, k < K → a k = if ∃ j, j < i ∧ j < wc ∧ r j = k then 0 else w k)
    (hb : b < K) (hb0 : a b ≠ 0) (hmax : ∀ k, k < K → a k ≤ a b) (hfst : ∀ k, k < b → a k < a b) : i < wc ∧ r i = b := by
  obtain ⟨h1, h2, h3, h4⟩ := h
  have hnb : ¬ ∃ j, j < i ∧ j < wc ∧ r j = b := fun q => hb0 (by rw [ha b hb, if_pos q])
  have eb : a b = w b := by rw [ha b hb, if_neg hnb]
  have hwb : w b ≠ 0 := by rw [← eb]; exact hb0
  have hi2 : i < wc := by
    rcases h4 b hb hwb with ⟨j, j1, j2, j3⟩ | ⟨g1, g2⟩
    · have : ¬ j < i := fun q => hnb ⟨j, q, j1, j3⟩
      omega
    · omega
  refine ⟨hi2, ?_⟩
  obtain ⟨z1, z2, z3, z4⟩ := h2 i hi2 hi
  have hni : ¬ ∃ j, j < i ∧ j < wc ∧ r j = r i := by
    intro ⟨j, j1, j2, j3⟩
    have t := h3 j i j1 hi2 hi
    rw [j3] at t
    exact ms_hv_ir t
  have ei : a (r i) = w (r i) := by rw [ha _ z1, if_neg hni]
  have m1 := hmax _ z1
  have key : r i = b ∨ ms_hv w (r i) b := by
    rcases h4 b hb hwb with ⟨j, j1, j2, j3⟩ | ⟨g1, g2⟩
    · have j4 : ¬ j < i := fun q => hnb ⟨j, q, j1, j3⟩
      by_cases j5 : j = i
      · subst j5
        exact Or.inl j3
      · right
        rw [← j3]
        exact h3 i j (by omega) j1 j2
    · exact Or.inr (g2 i hi)
  rcases key with q | q
  · exact q
  · exfalso
    unfold ms_hv at q
    rcases q with q | ⟨q1, q2⟩
    · omega
    · have := hfst _ q2
      omega
theorem ms_rr_none {w pk : Nat → Nat} {K wc i : Nat} {rw rk r a : Nat → Nat} (h : ms_rr w pk K wc rw rk r) (hi : i < 12) (ha : ∀ k, k < K → a k = if ∃ j, j < i ∧ j < wc ∧ r j = k then 0 else w k)
    (hz : ∀ k, k < K → a k = 0) : ¬ i < wc := by
  intro hi2
  obtain ⟨h1, h2, h3, h4⟩ := h
  obtain ⟨z1, z2, z3, z4⟩ := h2 i hi2 hi
  have hni : ¬ ∃ j, j < i ∧ j < wc ∧ r j = r i := by
    intro ⟨j, j1, j2, j3⟩
    have t := h3 j i j1 hi2 hi
    rw [j3] at t
    exact ms_hv_ir t
  have := hz _ z1
  rw [ha _ z1, if_neg hni] at this
  exact z2 this
/-! a way as one number of base four -/
def ms_pk (S : Nat) : Nat → Nat → Nat
  | 0, _ => 0
  | p + 1, a => ms_pk S p (a / S) * 4 + a % S
theorem ms_pk_snoc {S p a t : Nat} (ht : t < S) : ms_pk S (p + 1) (a * S + t) = ms_pk S p a * 4 + t := by
  have h0 : 0 < S := by omega
  show ms_pk S p ((a * S + t) / S) * 4 + (a * S + t) % S = _
  rw [ms_last ht, Nat.add_comm (a * S) t, Nat.add_mul_div_right _ _ h0, Nat.div_eq_of_lt ht, Nat.zero_add]
theorem ms_pk_lt {S : Nat} (hS : 0 < S) (h3 : S ≤ 3) : ∀ (p a : Nat), ms_pk S p a < 4 ^ p
  | 0, _ => Nat.one_pos
  | p + 1, a => by
    have h1 := ms_pk_lt hS h3 p (a / S)
    have h2 : a % S < S := Nat.mod_lt _ hS
    show ms_pk S p (a / S) * 4 + a % S < 4 ^ (p + 1)
    rw [Nat.pow_succ]
    omega
theorem ms_pk_dg {S : Nat} (hS : 0 < S) (h3 : S ≤ 3) : ∀ (n k q : Nat), q < n → ms_pk S n k / 4 ^ (n - 1 - q) % 4 = ms_dg S n k q
  | 0, _, q, h => absurd h (Nat.not_lt_zero q)
  | n + 1, k, q, h => by
    have mk : k % S < S := Nat.mod_lt _ hS
    have ek : (k / S) * S + k % S = k := Nat.div_add_mod' k S
    have e1 : ms_pk S (n + 1) k = ms_pk S n (k / S) * 4 + k % S := rfl
    rw [e1]
    by_cases hq : q = n
    · subst hq
      have e2 : q + 1 - 1 - q = 0 := by omega
      unfold ms_dg
      rw [e2, Nat.pow_zero, Nat.pow_zero, Nat.div_one, Nat.div_one]
      omega
    · have hq2 : q < n := by omega
      have e2 : n + 1 - 1 - q = (n - 1 - q) + 1 := by omega
      have e3 : ms_dg S (n + 1) k q = ms_dg S n (k / S) q := by
        have := ms_dg_snoc (k := k / S) mk hq2
        rw [ek] at this
        exact this
      rw [e3, ← ms_pk_dg hS h3 n (k / S) q hq2, e2, ms_shift (by omega)]
/-! drawing: the number k whose units hold u -/
theorem ms_draw_uniq {f : Nat → Nat} {u k j : Nat} (h1 : ms_sum f k ≤ u) (h2 : u < ms_sum f (k + 1)) (h3 : ms_sum f j ≤ u) (h4 : u < ms_sum f (j + 1)) : k = j := by
  rcases Nat.lt_trichotomy k j with h | h | h
  · have := ms_sum_len (f := f) (show k + 1 ≤ j by omega)
    omega
  · exact h
  · have := ms_sum_len (f := f) (show j + 1 ≤ k by omega)
    omega
/-! fractions -/
theorem ms_gcd_step {a b : Nat} (hb : 0 < b) : Nat.gcd b (a % b) = Nat.gcd a b := by
  rw [Nat.gcd_comm b (a % b), ← Nat.gcd_rec, Nat.gcd_comm]
theorem ms_near {x y g t b : Nat} (hg : 0 < g) (hx : x = g * t) (hy : y = g * b) : (2 * (9 * x) + y) / (2 * y) = (18 * t + b) / (2 * b) := by
  have e1 : 2 * (9 * x) + y = g * (18 * t + b) := by
    rw [hx, hy, Nat.mul_add, ← Nat.mul_assoc, ← Nat.mul_assoc, ← Nat.mul_assoc, Nat.mul_comm g 18]
  have e2 : 2 * y = g * (2 * b) := by rw [hy, ← Nat.mul_assoc, ← Nat.mul_assoc, Nat.mul_comm g 2]
  rw [e1, e2, Nat.mul_div_mul_left _ _ hg]
theorem ms_near_le {x y : Nat} (h : x ≤ y) (hy : 0 < y) : (2 * (9 * x) + y) / (2 * y) ≤ 9 := by
  rw [← Nat.lt_succ_iff, Nat.div_lt_iff_lt_mul (by omega)]
  omega
end
section
/-! a way grows by a state -/
def ms_ls (S p a : Nat) : Nat := if p = 0 then 0 else a % S
theorem ms_ls_snoc {S p a t : Nat} (ht : t < S) : ms_ls S (p + 1) (a * S + t) = t := by
  unfold ms_ls
  rw [if_neg (Nat.succ_ne_zero p), ms_last ht]
theorem ms_wt_0 (e : Nat → Nat → Nat → Nat) (S a : Nat) : ms_wt e S 0 a = 1 := rfl
theorem ms_wt_snoc {e : Nat → Nat → Nat → Nat} (he : ∀ x y, e 0 x y = e 0 0 y) {S p a t : Nat} (ht : t < S) : ms_wt e S (p + 1) (a * S + t) = ms_wt e S p a * e p (ms_ls S p a) t := by
  unfold ms_wt
  rw [ms_pr_succ, Nat.zero_add, ms_dg_last ht, ms_pr_congr (v := ms_dg S p a) (fun q h1 _ => ms_dg_snoc ht (by omega))]
  congr 1
  by_cases hp : p = 0
  · subst hp
    rw [he, he 0]
    rfl
  · unfold ms_ls
    rw [if_neg hp, ms_dg_snoc ht (by omega)]
    unfold ms_dg
    have e1 : p - 1 - (p - 1) = 0 := by omega
    rw [e1, Nat.pow_zero, Nat.div_one]
/-- nothing weighs behind a beginning that does not -/
theorem ms_wt_pre {e : Nat → Nat → Nat → Nat} (he : ∀ x y, e 0 x y = e 0 0 y) {S p a : Nat} (hS : 0 < S) (hz : ms_wt e S p a = 0) : ∀ (r b : Nat), b < S ^ r → ms_wt e S (p + r) (a * S ^ r + b) = 0
  | 0, b, hb => by
    rw [Nat.pow_zero] at hb
    have hb0 : b = 0 := by omega
    rw [hb0, Nat.pow_zero, Nat.mul_one, Nat.add_zero, Nat.add_zero]
    exact hz
  | r + 1, b, hb => by
    have hm : b % S < S := Nat.mod_lt _ hS
    have hd : b / S < S ^ r := by
      rw [Nat.div_lt_iff_lt_mul hS, ← Nat.pow_succ]; exact hb
    have e1 : a * S ^ (r + 1) + b = (a * S ^ r + b / S) * S + b % S := by
      rw [Nat.add_mul, Nat.mul_assoc, ← Nat.pow_succ, Nat.add_assoc, Nat.div_add_mod']
    rw [e1, ← Nat.add_assoc p r 1, ms_wt_snoc he hm, ms_wt_pre he hS hz r (b / S) hd, Nat.zero_mul]
/-- a block of ways with one beginning -/
theorem ms_blk {e : Nat → Nat → Nat → Nat} (he : ∀ x y, e 0 x y = e 0 0 y) {S n p r a t : Nat} (hn : n = p + 1 + r) (ht : t < S) : ms_sum (fun b => ms_wt e S n ((a * S + t) * S ^ r + b)) (S ^ r) = ms_wt e S p a * e p (ms_ls S p a) t * ms_bh e S n r t := by
  have h1 : ms_af e S p a t = ms_wt e S p a * e p (ms_ls S p a) t := by
    rw [← ms_wt_snoc he ht]
    unfold ms_af ms_wt
    refine ms_pr_congr (fun q h1 _ => ?_)
    simp only [ms_wa]
    by_cases h5 : q < p
    · rw [if_pos h5, ms_dg_snoc ht h5]
    · have h6 : q = p := by omega
      rw [if_neg h5, h6, ms_dg_last ht]
  rw [← ms_bh_sum (e := e) (S := S) (n := n) r p t (by omega) (by omega), ← h1, ← ms_sum_mull]
  exact ms_sum_congr (fun b hb => ms_wt_cut e hn ht hb)
theorem ms_blk_step {e : Nat → Nat → Nat → Nat} (he : ∀ x y, e 0 x y = e 0 0 y) {S n p r a t : Nat} (hn : n = p + 1 + r) (ht : t < S) : ms_sum (fun k => ms_wt e S n k) ((a * S + t + 1) * S ^ r) = ms_sum (fun k => ms_wt e S n k) ((a * S + t) * S ^ r) + ms_wt e S p a * e p (ms_ls S p a) t * ms_bh e S n r t := by
  rw [Nat.succ_mul, ms_sum_split, ms_blk he hn ht]
theorem ms_rr_skip {w pk : Nat → Nat} {wc : Nat} {rw rk r : Nat → Nat} {K : Nat} (h : ms_rr w pk K wc rw rk r) : ∀ m : Nat, (∀ b, b < m → w (K + b) = 0) → ms_rr w pk (K + m) wc rw rk r
  | 0, _ => h
  | m + 1, hz => ms_rr_z (ms_rr_skip h m (fun b hb => hz b (by omega))) (hz m (Nat.lt_succ_self m))
/-- what can be weighed at all -/
theorem ms_tot_le {e : Nat → Nat → Nat → Nat} {S n : Nat} (hS : 0 < S) (h3 : S ≤ 3) (hn : n ≤ 6) (h : ∀ p s t, p < n → s < S → t < S → e p s t ≤ 81) : ms_sum (fun k => ms_wt e S n k) (S ^ n) ≤ 205891132094649 := by
  have h1 : ms_sum (fun k => ms_wt e S n k) (S ^ n) ≤ S ^ n * 81 ^ n := ms_sum_le (fun k _ => ms_wt_le hS h)
  have h2 : S ^ n ≤ 3 ^ 6 := Nat.le_trans (Nat.pow_le_pow_left h3 n) (Nat.pow_le_pow_right (by decide) hn)
  have h4 : 81 ^ n ≤ 81 ^ 6 := Nat.pow_le_pow_right (by decide) hn
  exact Nat.le_trans h1 (Nat.le_trans (Nat.mul_le_mul h2 h4) (by decide))
theorem ms_wt_b {e : Nat → Nat → Nat → Nat} {S n k : Nat} (hS : 0 < S) (hn : n ≤ 6) (h : ∀ p s t, p < n → s < S → t < S → e p s t ≤ 81) : ms_wt e S n k ≤ 282429536481 :=
  Nat.le_trans (ms_wt_le hS h) (Nat.le_trans (Nat.pow_le_pow_right (by decide) hn) (by decide))
theorem ms_pow_le {S n : Nat} (h3 : S ≤ 3) (hn : n ≤ 6) : S ^ n ≤ 729 :=
  Nat.le_trans (Nat.pow_le_pow_left h3 n) (Nat.le_trans (Nat.pow_le_pow_right (by decide) hn) (by decide))
/-! the class's entries, and the reference's -/
def xe (w sy : Nat → Nat) (p s t : Nat) : Nat := (if p = 0 then w ((0 * 3 + 0) * 4 + t) else w ((1 * 3 + s) * 4 + t)) * w ((2 * 3 + t) * 4 + sy p)
theorem xe_0 (w sy : Nat → Nat) : ∀ x y, xe w sy 0 x y = xe w sy 0 0 y := fun _ _ => rfl
theorem xe_le {w sy : Nat → Nat} {p s t : Nat} (hw : ∀ i, i < 36 → w i ≤ 9) (hs : s < 3) (ht : t < 3) (hy : sy p < 4) : xe w sy p s t ≤ 81 := by
  unfold xe
  have h1 : (if p = 0 then w ((0 * 3 + 0) * 4 + t) else w ((1 * 3 + s) * 4 + t)) ≤ 9 := by
    split
    · exact hw _ (by omega)
    · exact hw _ (by omega)
  exact Nat.mul_le_mul h1 (hw _ (by omega))
def me (w ro : Nat → Nat) (p s t : Nat) : Nat := (if p = 0 then w t else w (3 + 3 * s + t)) * w (12 + 4 * t + ro p)
theorem me_0 (w ro : Nat → Nat) : ∀ x y, me w ro 0 x y = me w ro 0 0 y := fun _ _ => rfl
theorem me_le {w ro : Nat → Nat} {p s t : Nat} (hw : ∀ i, i < 24 → w i ≤ 9) (hs : s < 3) (ht : t < 3) (hy : ro p < 4) : me w ro p s t ≤ 81 := by
  unfold me
  have h1 : (if p = 0 then w t else w (3 + 3 * s + t)) ≤ 9 := by
    split
    · exact hw _ (by omega)
    · exact hw _ (by omega)
  exact Nat.mul_le_mul h1 (hw _ (by omega))
/-! how often a way shows something, and the sums over all ways -/
def ms_in (S n : Nat) (sy : Nat → Nat) (kd r c k p : Nat) : Prop := (kd = 0 ∧ p = r ∧ ms_dg S n k p = c) ∨ (kd = 1 ∧ p + 1 < n ∧ ms_dg S n k p = r ∧ ms_dg S n k (p + 1) = c) ∨ (kd = 2 ∧ ms_dg S n k p = r ∧ sy p = c)
theorem ms_in_dec (S n : Nat) (sy : Nat → Nat) (kd r c k p : Nat) : ms_in S n sy kd r c k p ∨ ¬ ms_in S n sy kd r c k p := by
  unfold ms_in
  omega
noncomputable def ms_id (S n : Nat) (sy : Nat → Nat) (kd r c k p : Nat) : Nat := @ite Nat (ms_in S n sy kd r c k p) (Classical.propDecidable _) 1 0
theorem ms_id_t {S n : Nat} {sy : Nat → Nat} {kd r c k p : Nat} (h : ms_in S n sy kd r c k p) : ms_id S n sy kd r c k p = 1 := if_pos h
theorem ms_id_f {S n : Nat} {sy : Nat → Nat} {kd r c k p : Nat} (h : ¬ ms_in S n sy kd r c k p) : ms_id S n sy kd r c k p = 0 := if_neg h
noncomputable def ms_tm (S n : Nat) (sy : Nat → Nat) (kd r c k : Nat) : Nat := ms_sum (ms_id S n sy kd r c k) n
def ms_un (e : Nat → Nat → Nat → Nat) (S n : Nat) (sy : Nat → Nat) (kd r c : Nat) : Nat :=
  if kd = 0 then (if r < n then ms_bf e S r c * ms_bh e S n (n - 1 - r) c else 0)
  else if kd = 1 then ms_sum (fun p => ms_bf e S p r * e (p + 1) r c * ms_bh e S n (n - 1 - (p + 1)) c) (n - 1)
  else ms_sum (fun p => if sy p = c then ms_bf e S p r * ms_bh e S n (n - 1 - p) r else 0) n
theorem ms_un_swap (e : Nat → Nat → Nat → Nat) (S n : Nat) (sy : Nat → Nat) (kd r c : Nat) : ms_sum (fun k => ms_wt e S n k * ms_tm S n sy kd r c k) (S ^ n) = ms_sum (fun p => ms_sum (fun k => ms_wt e S n k * ms_id S n sy kd r c k p) (S ^ n)) n := by
  rw [← ms_sum_swap (fun k p => ms_wt e S n k * ms_id S n sy kd r c k p)]
  refine ms_sum_congr (fun k _ => ?_)
  unfold ms_tm
  rw [ms_sum_mull]
theorem ms_un_0 {e : Nat → Nat → Nat → Nat} (he : ∀ x y, e 0 x y = e 0 0 y) {S n r c : Nat} (sy : Nat → Nat) (hc : c < S) : ms_sum (fun k => ms_wt e S n k * ms_tm S n sy 0 r c k) (S ^ n) = ms_un e S n sy 0 r c := by
  rw [ms_un_swap]
  unfold ms_un
  rw [if_pos rfl]
  by_cases hr : r < n
  · rw [if_pos hr, ms_sum_one hr (fun p _ hne => ms_sum_eq0 (fun k _ => by rw [ms_id_f (by unfold ms_in; omega), Nat.mul_zero])), ← ms_through he hr hc]
    refine ms_sum_congr (fun k _ => ?_)
    by_cases hd : ms_dg S n k r = c
    · rw [if_pos hd, ms_id_t (Or.inl ⟨rfl, rfl, hd⟩)]
    · rw [if_neg hd, ms_id_f (by unfold ms_in; omega)]
  · rw [if_neg hr]
    exact ms_sum_eq0 (fun p hp => ms_sum_eq0 (fun k _ => by rw [ms_id_f (by unfold ms_in; omega), Nat.mul_zero]))
theorem ms_un_1 {e : Nat → Nat → Nat → Nat} (he : ∀ x y, e 0 x y = e 0 0 y) {S n r c : Nat} (sy : Nat → Nat) (hr : r < S) (hc : c < S) : ms_sum (fun k => ms_wt e S n k * ms_tm S n sy 1 r c k) (S ^ n) = ms_un e S n sy 1 r c := by
  rw [ms_un_swap]
  unfold ms_un
  rw [if_neg (by decide), if_pos rfl]
  have step : ∀ p, p + 1 < n → ms_sum (fun k => ms_wt e S n k * ms_id S n sy 1 r c k p) (S ^ n) = ms_bf e S p r * e (p + 1) r c * ms_bh e S n (n - 1 - (p + 1)) c := by
    intro p hp
    rw [← ms_stepping he hp hr hc]
    refine ms_sum_congr (fun k _ => ?_)
    by_cases hd : ms_dg S n k p = r ∧ ms_dg S n k (p + 1) = c
    · rw [if_pos hd, ms_id_t (Or.inr (Or.inl ⟨rfl, hp, hd⟩))]
    · rw [if_neg hd, ms_id_f (by unfold ms_in; omega)]
  cases n with
  | zero => rfl
  | succ n =>
    rw [ms_sum_succ, ms_sum_eq0 (n := S ^ (n + 1)) (fun k _ => by rw [ms_id_f (by unfold ms_in; omega), Nat.mul_zero]), Nat.add_zero]
    exact ms_sum_congr (fun p hp => step p (by omega))
theorem ms_un_2 {e : Nat → Nat → Nat → Nat} (he : ∀ x y, e 0 x y = e 0 0 y) {S n r c : Nat} (sy : Nat → Nat) (hr : r < S) : ms_sum (fun k => ms_wt e S n k * ms_tm S n sy 2 r c k) (S ^ n) = ms_un e S n sy 2 r c := by
  rw [ms_un_swap]
  unfold ms_un
  rw [if_neg (by decide), if_neg (by decide)]
  refine ms_sum_congr (fun p hp => ?_)
  by_cases hy : sy p = c
  · rw [if_pos hy, ← ms_through he hp hr]
    refine ms_sum_congr (fun k _ => ?_)
    by_cases hd : ms_dg S n k p = r
    · rw [if_pos hd, ms_id_t (Or.inr (Or.inr ⟨rfl, hd, hy⟩))]
    · rw [if_neg hd, ms_id_f (by unfold ms_in; omega)]
  · rw [if_neg hy]
    exact ms_sum_eq0 (fun k _ => by rw [ms_id_f (by unfold ms_in; omega), Nat.mul_zero])
theorem ms_tm_le (S n : Nat) (sy : Nat → Nat) (kd r c k : Nat) : ms_tm S n sy kd r c k ≤ n := by
  have h : ms_tm S n sy kd r c k ≤ n * 1 := ms_sum_le (fun p _ => by
    rcases ms_in_dec S n sy kd r c k p with h | h
    · rw [ms_id_t h]; exact Nat.le_refl _
    · rw [ms_id_f h]; exact Nat.zero_le _)
  omega
end
section
/-! THE LAYER: one list of words for all methods, contexts, contracts, rows over naturals -/
def xt_T : List Cond := lw_tbl.filter goodWord
theorem xt_in {w : Cond} (h : w ∈ lw_tbl) (hg : goodWord w = true) : w ∈ xt_T := List.mem_filter.mpr ⟨h, hg⟩
abbrev xt_R (d : Nat) : Room := { frames := d, cells := 0, slots := 0, locals := 40 * d }
abbrev xt_ty (cI cL : ClassId) : List (ClassId × FieldType) := [(cI, .int), (cL, .long)]
/-- what a method knows of the machine all along -/
def xt_C (p : Program) (s : State) (m : MethodId) (args : Array Value) (c : Code) (cc : ByteArray) (nL : Nat) (own : String) (D : va_G) (cI cL : ClassId) : Prop :=
  p.tables.exec = Jvm.exec ∧ c.code = cc ∧ c.maxLocals = nL ∧ s.vm.findClass own = some m.cls ∧ (∀ w ∈ xt_T, w.before args s = true) ∧ va_K D vwCl (xt_ty cI cL) s
/-- the world as it is now -/
def xt_W (D : va_G) (A : Nat → Prop) (H0 : Heap) (ws : va_W) (H : Heap) (locs : List Loc) : Prop := va_P D vwCl ws H ∧ va_D A ws ∧ va_S A H0 H locs
def xt_P (D : va_G) (cI cL : ClassId) (av : List Value) (ws : va_W) (sz : Nat) : Array Value → State → Prop :=
  va_Pc av (fun U => U.heap.size = sz ∧ va_P D vwCl ws U.heap ∧ va_K D vwCl (xt_ty cI cL) U ∧ va_D (fun _ => True) ws)
def xt_B (D : va_G) (cI cL : ClassId) (ws : va_W) (sz : Nat) {U : Type} (ws' : U → va_W) : U → State → Prop :=
  fun u t => va_P D vwCl (ws' u) t.heap ∧ va_K D vwCl (xt_ty cI cL) t ∧ va_D (va_A ws sz) (ws' u)
def xt_Qi (D : va_G) (cI cL : ClassId) (ws : va_W) {U : Type} (post : Int32 → U → Prop) (ws' : U → va_W) (sz : Nat) : Array Value → State → Outcome → State → Prop := va_Qi post (xt_B D cI cL ws sz ws') (va_A ws sz)
def xt_Ql (D : va_G) (cI cL : ClassId) (ws : va_W) {U : Type} (post : Int64 → U → Prop) (ws' : U → va_W) (sz : Nat) : Array Value → State → Outcome → State → Prop := va_Ql post (xt_B D cI cL ws sz ws') (va_A ws sz)
def xt_Qv (D : va_G) (cI cL : ClassId) (ws : va_W) {U : Type} (post : U → Prop) (ws' : U → va_W) (sz : Nat) : Array Value → State → Outcome → State → Prop := va_Qv post (xt_B D cI cL ws sz ws') (va_A ws sz)
/-- a contract: method y, its bytes, its locals, its answer's type, how deep it calls; from the world ws, with the arguments av -/
def xt_M (l : Launch) (y : MethodName) (b : ByteArray) (nL : Nat) (ret : Option FieldType) (d : Nat) (D : va_G) (cI cL : ClassId) (av : List Value) (ws : va_W) (Qc : Nat → Array Value → State → Outcome → State → Prop) : Prop :=
  ∀ sz : Nat, Met l y (.code y b nL ret :: xt_T) (xt_R d) (xt_P D cI cL av ws sz) (Qc sz) 0 0 (va_A ws sz)
theorem xt_good {y : MethodName} {b : ByteArray} {nL : Nat} {ret : Option FieldType} (h : Cond.code y b nL ret ∈ xt_T) : GoodIn xt_T (.code y b nL ret :: xt_T) := by
  intro w hw
  have hm : w ∈ xt_T := by
    rcases List.mem_cons.mp hw with h1 | h1
    · rw [h1]; exact h
    · exact h1
  exact ⟨hm, good_of_word (List.mem_filter.mp hm).2⟩
/-- how a method ends -/
def xt_E (meth : Method) (ret : Option FieldType) (A : Nat → Prop) (ws0 : va_W) (s : State) (below : List Frame) (args : Array Value) (Q : State → Prop) (Qc : Nat → Array Value → State → Outcome → State → Prop) : Prop :=
  meth.sig.returnType = ret ∧ meth.locks = false ∧ A = va_A ws0 s.heap.size ∧ Q = MQ below (Qc s.heap.size) args s 0 0 A
theorem xt_start {l : Launch} {y : MethodName} {b : ByteArray} {nL : Nat} {ret : Option FieldType} {d : Nat} {D : va_G} {cI cL : ClassId} {av : List Value} {ws : va_W} {Qc : Nat → Array Value → State → Outcome → State → Prop} {own : String}
    (hyc : y.cls = own) (hy : plainName own = true) (hlen : (lg_sl av).length ≤ nL)
    (body : ∀ (p : Program) (e : Env) (s : State) (m : MethodId) (args : Array Value) (below : List Frame) (meth : Method) (c : Code) (A : Nat → Prop) (Q : State → Prop) (ls : Array Slot), xt_C p s m args c b nL own D cI cL → xt_E meth ret A ws s below args Q Qc → (∀ q, s.heap.size ≤ q → A q) → lv_has ls nL (lv_args 0 av) → xt_W D A s.heap ws s.heap [] →
      W p l e (xt_R d) s m args below meth c s.heap [] 0 0 Q (F0 m 0 ls [])) : xt_M l y b nL ret d D cI cL av ws Qc := by
  subst hyc
  intro sz
  refine Met.ofW (cc := b) (maxL := nL) (ret := ret) hy rfl ?_
  intro p e s m args below meth c s₁ B hml hv
  obtain ⟨rfl, hsz, hP, hK, hD0⟩ := hv
  have hts := atoms_spec (ws := .code y b nL ret :: xt_T) B.pre
  have hown : s.vm.findClass y.cls = some m.cls := findClass_of_methodNamed B.named
  subst hsz
  have hD := hD0.self (sz := s.heap.size)
  have hl := lv_entry av (n := nL) hlen
  rw [lg_entry_eq]
  exact body p e s m av.toArray below meth c (va_A ws s.heap.size) _ _ ⟨B.exec, B.bytes, hml, hown, fun w h => hts w (List.mem_cons_of_mem _ h), hK⟩ ⟨B.returns, B.notSynchronized, rfl, rfl⟩ (fun q h => Or.inr h) hl ⟨hP, hD, va_S.rf⟩
/-- what a call needs of the tables -/
def xt_cv (own : String) (idx : Nat) (y : MethodName) (b : ByteArray) (nL : Nat) (ret : Option FieldType) (n : Nat) : Prop :=
  Cond.methodLink own idx y ∈ xt_T ∧ Cond.instanceMethod y ∈ xt_T ∧ Cond.selects y.cls y y ∈ xt_T ∧ Cond.initialized y.cls ∈ xt_T ∧ Cond.code y b nL ret ∈ xt_T ∧ y.cls ≠ "java/lang/invoke/MethodHandle" ∧ y.cls ≠ "java/lang/invoke/VarHandle" ∧ (parseMethodDescriptor y.desc).map (fun d => d.parameters.length) = some n
def xt_cs (own : String) (idx : Nat) (y : MethodName) (b : ByteArray) (nL : Nat) (ret : Option FieldType) (n : Nat) : Prop :=
  Cond.methodLink own idx y ∈ xt_T ∧ Cond.static y ∈ xt_T ∧ Cond.initialized y.cls ∈ xt_T ∧ Cond.code y b nL ret ∈ xt_T ∧ y.cls ≠ "java/lang/invoke/MethodHandle" ∧ y.cls ≠ "java/lang/invoke/VarHandle" ∧ (parseMethodDescriptor y.desc).map (fun d => d.parameters.length) = some n
section XT
variable {p : Program} {l : Launch} {e : Env} {R : Room} {s : State} {m : MethodId} {args : Array Value} {below : List Frame} {meth : Method} {c : Code} {H : Heap} {locs : List Loc} {cells slots : Nat} {Q : State → Prop}
variable {cc : ByteArray} {pc nL : Nat} {ls : Array Slot} {rest st0 : List Value} {own : String} {D : va_G} {cI cL : ClassId} {A : Nat → Prop} {H0 : Heap} {ws : va_W} {a : Nat}
theorem xt_C.K (C : xt_C p s m args c cc nL own D cI cL) : va_K D vwCl (xt_ty cI cL) s := C.2.2.2.2.2
theorem xt_C.t (C : xt_C p s m args c cc nL own D cI cL) {w : Cond} (h : w ∈ xt_T) : w.before args s = true := C.2.2.2.2.1 w h
theorem xt_C.o (C : xt_C p s m args c cc nL own D cI cL) : s.vm.findClass own = some m.cls := C.2.2.2.1
theorem xt_iret {U : Type} {post : Int32 → U → Prop} {ws' : U → va_W} {ws0 : va_W} (C : xt_C p s m args c cc nL own D cI cL) (hE : xt_E meth (some .int) A ws0 s below args Q (xt_Qi D cI cL ws0 post ws')) (u : U) {r : Int32} (w : xt_W D A s.heap (ws' u) H locs) (hp : post r u) (hdg : decode cc pc = .ok (.ireturn, 1)) :
    W p l e R s m args below meth c H locs 0 0 Q (F0 m pc ls [.int r]) := by
  obtain ⟨hr, hk, hA, hQ⟩ := hE
  subst hA
  subst hQ
  exact W.iret C.1 C.2.1 hr (fun t ht hW => ⟨⟨r, u, rfl, hp, by rw [ht]; exact w.1, va_K.moved hW.alike C.K, w.2.1⟩, w.2.2.F ht⟩) w.2.2.2.2 hdg hk
theorem xt_zret {U : Type} {post : Int32 → U → Prop} {ws' : U → va_W} {ws0 : va_W} (C : xt_C p s m args c cc nL own D cI cL) (hE : xt_E meth (some .boolean) A ws0 s below args Q (xt_Qi D cI cL ws0 post ws')) (u : U) {r : Int32} (w : xt_W D A s.heap (ws' u) H locs) (hz : r = 0 ∨ r = 1) (hp : post r u) (hdg : decode cc pc = .ok (.ireturn, 1)) :
    W p l e R s m args below meth c H locs 0 0 Q (F0 m pc ls [.int r]) := by
  obtain ⟨hr, hk, hA, hQ⟩ := hE
  subst hA
  subst hQ
  exact W.zret C.1 C.2.1 hr (by rcases hz with h | h <;> subst h <;> rfl) (fun t ht hW => ⟨⟨r, u, rfl, hp, by rw [ht]; exact w.1, va_K.moved hW.alike C.K, w.2.1⟩, w.2.2.F ht⟩) w.2.2.2.2 hdg hk
theorem xt_lret {U : Type} {post : Int64 → U → Prop} {ws' : U → va_W} {ws0 : va_W} (C : xt_C p s m args c cc nL own D cI cL) (hE : xt_E meth (some .long) A ws0 s below args Q (xt_Ql D cI cL ws0 post ws')) (u : U) {r : Int64} (w : xt_W D A s.heap (ws' u) H locs) (hp : post r u) (hdg : decode cc pc = .ok (.lreturn, 1)) :
    W p l e R s m args below meth c H locs 0 0 Q (F0 m pc ls [.long r]) := by
  obtain ⟨hr, hk, hA, hQ⟩ := hE
  subst hA
  subst hQ
  exact W.lret C.1 C.2.1 hr (fun t ht hW => ⟨⟨r, u, rfl, hp, by rw [ht]; exact w.1, va_K.moved hW.alike C.K, w.2.1⟩, w.2.2.F ht⟩) w.2.2.2.2 hdg hk
theorem xt_vret {U : Type} {post : U → Prop} {ws' : U → va_W} {ws0 : va_W} (C : xt_C p s m args c cc nL own D cI cL) (hE : xt_E meth none A ws0 s below args Q (xt_Qv D cI cL ws0 post ws')) (u : U) (w : xt_W D A s.heap (ws' u) H locs) (hp : post u) (hdg : decode cc pc = .ok (.return_, 1)) :
    W p l e R s m args below meth c H locs 0 0 Q (F0 m pc ls []) := by
  obtain ⟨hr, hk, hA, hQ⟩ := hE
  subst hA
  subst hQ
  exact W.vret C.1 C.2.1 hr (fun t ht hW => ⟨⟨u, rfl, hp, by rw [ht]; exact w.1, va_K.moved hW.alike C.K, w.2.1⟩, w.2.2.F ht⟩) w.2.2.2.2 hdg hk
/-! calls on the whole world -/
theorem xt_blind {av : List Value} {sz : Nat} : FrameBlind (xt_P D cI cL av ws sz) := fun a U g mk q => by
  obtain ⟨q0, q1, qP, qK, qD⟩ := q
  exact ⟨q0, q1, qP, va_K.moved (u := U) (U := U.calling g mk a) (Vm.Alike.refl U.vm) qK, qD⟩
theorem xt_pre {As : List Value} (K : va_K D vwCl (xt_ty cI cL) s) (hP : va_P D vwCl ws H) (hD : va_D A ws) (U : State) (hU : U.heap = H) (hW : s.WarmedH U.vm) : xt_P D cI cL As ws H.size As.toArray U :=
  ⟨rfl, by rw [hU], by rw [hU]; exact hP, va_K.moved hW.alike K, hD.weaken (fun _ _ _ _ => trivial)⟩
theorem xt_runV {Qc : Nat → Array Value → State → Outcome → State → Prop} {y : MethodName} {b : ByteArray} {nL' : Nat} {ret : Option FieldType} {d' n idx ci N : Nat} {As : List Value} {fs : List Value} {T : u_T} {wc : va_W}
    (C : xt_C p s m args c cc nL own D cI cL) (hP : va_P D vwCl wc H) (hD : va_D A wc) (cw : xt_cv own idx y b nL' ret n) (M : xt_M l y b nL' ret d' D cI cL (.ref a :: As) wc Qc) (he : wc[0]? = some (a, .inr (ci, fs))) (hc : vwCl[ci]? = some (y.cls, T, N)) (hn : As.length = n) (hl : ls.size = nL) (hst : st0 = As.reverse ++ .ref a :: rest) (hrm : (rest.map fun v => v.category).sum ≤ 8) (hR : d' + 1 ≤ R.frames ∧ 8 + (nL' + 11) + 40 * d' ≤ R.locals) (hf : cells ≤ R.cells ∧ slots ≤ R.slots) (hdg : decode cc pc = .ok (.invokevirtual idx, 3)) :
    va_Run p l e R s m args below meth c H locs cells slots 0 0 (F0 m pc ls st0) rest (Qc H.size (Value.ref a :: As).toArray) (va_A wc H.size) :=
  va_runV (nL := nL) (Ts := xt_T) (own := own) (C := y.cls) (As := As) ⟨C.1, C.2.1, C.2.2.1, C.2.2.2.1, C.2.2.2.2.1⟩ (M H.size)
    ⟨callB_of n C.2.2.2.2.1 (xt_good cw.2.2.2.2.1) rfl rfl rfl (C.t cw.2.2.2.1) (C.t cw.1) cw.2.2.2.2.2 hR, C.t cw.2.1, C.t cw.2.2.1⟩
    ⟨xt_blind, va_recv C.K hP hc he, fun U hU hW => xt_pre C.K hP hD U hU hW⟩ rfl hn hl hst (lv_room hrm) hdg hf
theorem xt_runS {Qc : Nat → Array Value → State → Outcome → State → Prop} {y : MethodName} {b : ByteArray} {nL' : Nat} {ret : Option FieldType} {d' n idx : Nat} {As : List Value} {wc : va_W}
    (C : xt_C p s m args c cc nL own D cI cL) (hP : va_P D vwCl wc H) (hD : va_D A wc) (cw : xt_cs own idx y b nL' ret n) (M : xt_M l y b nL' ret d' D cI cL As wc Qc) (hn : As.length = n) (hl : ls.size = nL) (hst : st0 = As.reverse ++ rest) (hrm : (rest.map fun v => v.category).sum ≤ 8) (hR : d' + 1 ≤ R.frames ∧ 8 + (nL' + 11) + 40 * d' ≤ R.locals) (hf : cells ≤ R.cells ∧ slots ≤ R.slots) (hdg : decode cc pc = .ok (.invokestatic idx, 3)) :
    va_Run p l e R s m args below meth c H locs cells slots 0 0 (F0 m pc ls st0) rest (Qc H.size As.toArray) (va_A wc H.size) :=
  va_runS (nL := nL) (Ts := xt_T) (own := own) (As := As) ⟨C.1, C.2.1, C.2.2.1, C.2.2.2.1, C.2.2.2.2.1⟩ (M H.size)
    ⟨callB_of n C.2.2.2.2.1 (xt_good cw.2.2.2.1) rfl rfl rfl (C.t cw.2.2.1) (C.t cw.1) cw.2.2.2.2 hR, C.t cw.2.1⟩
    ⟨xt_blind, fun U hU hW => xt_pre C.K hP hD U hU hW⟩ rfl hn hl hst (lv_room hrm) hdg hf
theorem xt_fr (hA : ∀ q, H0.size ≤ q → A q) (w : xt_W D A H0 ws H locs) : ∀ q, va_A ws H.size q → A q := fun q h => by
  rcases h with ⟨k, e, h⟩ | h
  · exact w.2.1.2 k _ h
  · exact hA q (Nat.le_trans w.2.2.1 h)
theorem xt_ci {U : Type} {post : Int32 → U → Prop} {ws' : U → va_W} {av : Array Value} (hA : ∀ q, H0.size ≤ q → A q) (w : xt_W D A H0 ws H locs) (hr : va_Run p l e R s m args below meth c H locs cells slots 0 0 (F0 m pc ls st0) rest (xt_Qi D cI cL ws post ws' H.size av) (va_A ws H.size))
    (kk : ∀ (r : Int32) (u : U) (H1 : Heap) (locs1 : List Loc), post r u → xt_W D A H0 (ws' u) H1 locs1 → W p l e R s m args below meth c H1 locs1 cells slots Q (F0 m (pc + 3) ls (.int r :: rest))) : W p l e R s m args below meth c H locs cells slots Q (F0 m pc ls st0) := by
  refine va_calli hr w.2.2 (fun q _ h => xt_fr hA w q h) (xt_fr hA w) (fun r u t H1 locs1 ht hvm hp hB hz hk hS => ?_)
  obtain ⟨hP1, hK1, hD1⟩ := hB
  rw [ht] at hP1
  exact kk r u H1 locs1 hp ⟨hP1, hD1.weaken (fun k q _ h => xt_fr hA w q.1 h), hS⟩
theorem xt_cl {U : Type} {post : Int64 → U → Prop} {ws' : U → va_W} {av : Array Value} (hA : ∀ q, H0.size ≤ q → A q) (w : xt_W D A H0 ws H locs) (hr : va_Run p l e R s m args below meth c H locs cells slots 0 0 (F0 m pc ls st0) rest (xt_Ql D cI cL ws post ws' H.size av) (va_A ws H.size))
    (kk : ∀ (r : Int64) (u : U) (H1 : Heap) (locs1 : List Loc), post r u → xt_W D A H0 (ws' u) H1 locs1 → W p l e R s m args below meth c H1 locs1 cells slots Q (F0 m (pc + 3) ls (.long r :: rest))) : W p l e R s m args below meth c H locs cells slots Q (F0 m pc ls st0) := by
  refine va_calll hr w.2.2 (fun q _ h => xt_fr hA w q h) (xt_fr hA w) (fun r u t H1 locs1 ht hvm hp hB hz hk hS => ?_)
  obtain ⟨hP1, hK1, hD1⟩ := hB
  rw [ht] at hP1
  exact kk r u H1 locs1 hp ⟨hP1, hD1.weaken (fun k q _ h => xt_fr hA w q.1 h), hS⟩
theorem xt_cvd {U : Type} {post : U → Prop} {ws' : U → va_W} {av : Array Value} (hA : ∀ q, H0.size ≤ q → A q) (w : xt_W D A H0 ws H locs) (hr : va_Run p l e R s m args below meth c H locs cells slots 0 0 (F0 m pc ls st0) rest (xt_Qv D cI cL ws post ws' H.size av) (va_A ws H.size))
    (kk : ∀ (u : U) (H1 : Heap) (locs1 : List Loc), post u → xt_W D A H0 (ws' u) H1 locs1 → W p l e R s m args below meth c H1 locs1 cells slots Q (F0 m (pc + 3) ls rest)) : W p l e R s m args below meth c H locs cells slots Q (F0 m pc ls st0) := by
  refine va_callv hr w.2.2 (fun q _ h => xt_fr hA w q h) (xt_fr hA w) (fun u t H1 locs1 ht hvm hp hB hz hk hS => ?_)
  obtain ⟨hP1, hK1, hD1⟩ := hB
  rw [ht] at hP1
  exact kk u H1 locs1 hp ⟨hP1, hD1.weaken (fun k q _ h => xt_fr hA w q.1 h), hS⟩
/-! fields and arrays -/
abbrev xt_i (cI : ClassId) (n : Nat) (f : Nat → Nat) : va_E := .inl (cI, n, .inl (fun j => nI (f j)))
abbrev xt_l (cL : ClassId) (n : Nat) (f : Nat → Nat) : va_E := .inl (cL, n, .inr (.inl (fun j => lN (f j))))
theorem xt_get {T : u_T} {N ci idx : Nat} {fs : List Value} {v : Value} (hin : ∀ w ∈ u_ws own T N, w ∈ xt_T) (C : xt_C p s m args c cc nL own D cI cL) (w : xt_W D A H0 ws H locs) (q0 : Nat) (he : ws[q0]? = some (a, .inr (ci, fs))) (hc : vwCl[ci]? = some (own, T, N)) (k : Nat) (hk : k < N) (hd : (T k).1 = own) (hl : Cond.fieldLink own idx own (T k).2.1 (T k).2.2.1 ∈ xt_T) (hv : fs[k]? = some v) (hdg : decode cc pc = .ok (.getfield idx, 3))
    (kk : W p l e R s m args below meth c H locs cells slots Q (F0 m (pc + 3) ls (v :: rest))) : W p l e R s m args below meth c H locs cells slots Q (F0 m pc ls (.ref a :: rest)) :=
  va_get C.1 C.2.1 C.2.2.2.2.1 hin C.o C.K w.1 q0 he hc k hk (C.t hl) (fun x h => by rw [hd] at h; exact h) hv hdg kk
theorem xt_put {T : u_T} {N ci idx : Nat} {fs : List Value} {v : Value} {ty : FieldType} (hin : ∀ w ∈ u_ws own T N, w ∈ xt_T) (ty0 : Nat → FieldType) (hty : ∀ k, k < N → parseFieldDescriptor (T k).2.2.1 = some (ty0 k)) (hnm : ∀ a, a < N → ∀ b, b < N → a ≠ b → (T a).2.1 ≠ (T b).2.1) (C : xt_C p s m args c cc nL own D cI cL) (w : xt_W D A H0 ws H locs) (q0 : Nat) (he : ws[q0]? = some (a, .inr (ci, fs))) (hc : vwCl[ci]? = some (own, T, N)) (k : Nat) (hk : k < N) (hd : (T k).1 = own) (hl : Cond.fieldLink own idx own (T k).2.1 (T k).2.2.1 ∈ xt_T) (hfin : (T k).2.2.2 = false) (hpd : parseFieldDescriptor (T k).2.2.1 = some ty) (hn : narrow ty v = v) (hfit : fits ty v = true) (hlen : k < fs.length) (hdg : decode cc pc = .ok (.putfield idx, 3))
    (kk : ∀ (H1 : Heap) (locs1 : List Loc), xt_W D A H0 (ws.set q0 (a, .inr (ci, fs.set k v))) H1 locs1 → W p l e R s m args below meth c H1 locs1 cells slots Q (F0 m (pc + 3) ls rest)) : W p l e R s m args below meth c H locs cells slots Q (F0 m pc ls (v :: .ref a :: rest)) :=
  va_put C.1 C.2.1 C.2.2.2.2.1 hin ty0 hty hnm C.o C.K w.1 w.2.1 w.2.2 q0 he hc k hk (C.t hl) (fun x h => by rw [hd] at h; exact h) hfin hpd hn hfit hlen hdg (fun H1 locs1 hP hD hS => kk H1 locs1 ⟨hP, hD, hS⟩)
theorem xt_iald (C : xt_C p s m args c cc nL own D cI cL) (w : xt_W D A H0 ws H locs) (q0 : Nat) {n k : Nat} {f : Nat → Nat} (ha : ws[q0]? = some (a, xt_i cI n f)) (hn : n < 2 ^ 31) (hdg : decode cc pc = .ok (.iaload, 1)) (hk : k < n)
    (kk : W p l e R s m args below meth c H locs cells slots Q (F0 m (pc + 1) ls (.int (nI (f k)) :: rest))) : W p l e R s m args below meth c H locs cells slots Q (F0 m pc ls (.int (nI k) :: .ref a :: rest)) :=
  va_iald C.1 C.2.1 C.K w.1 q0 0 ha rfl (vp_in_nI hk hn) hdg (by rw [nI_clamp (by omega)]; exact kk)
theorem xt_lald (C : xt_C p s m args c cc nL own D cI cL) (w : xt_W D A H0 ws H locs) (q0 : Nat) {n k : Nat} {f : Nat → Nat} (ha : ws[q0]? = some (a, xt_l cL n f)) (hn : n < 2 ^ 31) (hdg : decode cc pc = .ok (.laload, 1)) (hk : k < n)
    (kk : W p l e R s m args below meth c H locs cells slots Q (F0 m (pc + 1) ls (.long (lN (f k)) :: rest))) : W p l e R s m args below meth c H locs cells slots Q (F0 m pc ls (.int (nI k) :: .ref a :: rest)) :=
  va_lald C.1 C.2.1 C.K w.1 q0 1 ha rfl (vp_in_nI hk hn) hdg (by rw [nI_clamp (by omega)]; exact kk)
theorem xt_upI {f : Nat → Nat} {k x : Nat} : upd (fun j => nI (f j)) k (nI x) = fun j => nI (va_up f k x j) := by
  funext j
  unfold upd va_up
  split <;> rfl
theorem xt_upL {f : Nat → Nat} {k x : Nat} : vp_updL (fun j => lN (f j)) k (lN x) = fun j => lN (va_up f k x j) := by
  funext j
  unfold vp_updL va_up
  split <;> rfl
theorem xt_iast (C : xt_C p s m args c cc nL own D cI cL) (w : xt_W D A H0 ws H locs) (q0 : Nat) {n k x : Nat} {f : Nat → Nat} (ha : ws[q0]? = some (a, xt_i cI n f)) (hn : n < 2 ^ 31) (hdg : decode cc pc = .ok (.iastore, 1)) (hk : k < n)
    (kk : ∀ (H1 : Heap) (locs1 : List Loc), xt_W D A H0 (ws.set q0 (a, xt_i cI n (va_up f k x))) H1 locs1 → W p l e R s m args below meth c H1 locs1 cells slots Q (F0 m (pc + 1) ls rest)) : W p l e R s m args below meth c H locs cells slots Q (F0 m pc ls (.int (nI x) :: .int (nI k) :: .ref a :: rest)) := by
  refine va_iast C.1 C.2.1 C.K w.1 w.2.1 w.2.2 q0 0 ha rfl (vp_in_nI hk hn) hdg (fun H1 locs1 hP hD hS => ?_)
  rw [nI_clamp (by omega), xt_upI] at hP hD
  exact kk H1 locs1 ⟨hP, hD, hS⟩
theorem xt_last (C : xt_C p s m args c cc nL own D cI cL) (w : xt_W D A H0 ws H locs) (q0 : Nat) {n k x : Nat} {f : Nat → Nat} (ha : ws[q0]? = some (a, xt_l cL n f)) (hn : n < 2 ^ 31) (hdg : decode cc pc = .ok (.lastore, 1)) (hk : k < n)
    (kk : ∀ (H1 : Heap) (locs1 : List Loc), xt_W D A H0 (ws.set q0 (a, xt_l cL n (va_up f k x))) H1 locs1 → W p l e R s m args below meth c H1 locs1 cells slots Q (F0 m (pc + 1) ls rest)) : W p l e R s m args below meth c H locs cells slots Q (F0 m pc ls (.long (lN x) :: .int (nI k) :: .ref a :: rest)) := by
  refine va_last C.1 C.2.1 C.K w.1 w.2.1 w.2.2 q0 1 ha rfl (vp_in_nI hk hn) hdg (fun H1 locs1 hP hD hS => ?_)
  rw [nI_clamp (by omega), xt_upL] at hP hD
  exact kk H1 locs1 ⟨hP, hD, hS⟩
/-! numbers -/
theorem xt_iadd (C : xt_C p s m args c cc nL own D cI cL) {x y : Nat} (hdg : decode cc pc = .ok (.iadd, 1)) (k : W p l e R s m args below meth c H locs cells slots Q (F0 m (pc + 1) ls (.int (nI (x + y)) :: rest))) : W p l e R s m args below meth c H locs cells slots Q (F0 m pc ls (.int (nI y) :: .int (nI x) :: rest)) :=
  lv_iadd C.1 C.2.1 hdg (by rw [nI_add]; exact k)
theorem xt_isub (C : xt_C p s m args c cc nL own D cI cL) {x y : Nat} (hdg : decode cc pc = .ok (.isub, 1)) (h : y ≤ x) (k : W p l e R s m args below meth c H locs cells slots Q (F0 m (pc + 1) ls (.int (nI (x - y)) :: rest))) : W p l e R s m args below meth c H locs cells slots Q (F0 m pc ls (.int (nI y) :: .int (nI x) :: rest)) :=
  lv_isub C.1 C.2.1 hdg (by rw [pk_sub h]; exact k)
theorem xt_imul (C : xt_C p s m args c cc nL own D cI cL) {x y : Nat} (hdg : decode cc pc = .ok (.imul, 1)) (k : W p l e R s m args below meth c H locs cells slots Q (F0 m (pc + 1) ls (.int (nI (x * y)) :: rest))) : W p l e R s m args below meth c H locs cells slots Q (F0 m pc ls (.int (nI y) :: .int (nI x) :: rest)) :=
  lv_imul C.1 C.2.1 hdg (by rw [pk_mul]; exact k)
theorem xt_idiv (C : xt_C p s m args c cc nL own D cI cL) {x y : Nat} (hdg : decode cc pc = .ok (.idiv, 1)) (h0 : 0 < y) (hx : x < 2 ^ 31) (hy : y < 2 ^ 31) (k : W p l e R s m args below meth c H locs cells slots Q (F0 m (pc + 1) ls (.int (nI (x / y)) :: rest))) : W p l e R s m args below meth c H locs cells slots Q (F0 m pc ls (.int (nI y) :: .int (nI x) :: rest)) :=
  lv_idiv C.1 C.2.1 hdg (nI_ne0 h0 hy) (by rw [pk_div hx h0 hy]; exact k)
theorem xt_irem (C : xt_C p s m args c cc nL own D cI cL) {x y : Nat} (hdg : decode cc pc = .ok (.irem, 1)) (h0 : 0 < y) (hx : x < 2 ^ 31) (hy : y < 2 ^ 31) (k : W p l e R s m args below meth c H locs cells slots Q (F0 m (pc + 1) ls (.int (nI (x % y)) :: rest))) : W p l e R s m args below meth c H locs cells slots Q (F0 m pc ls (.int (nI y) :: .int (nI x) :: rest)) :=
  lv_irem C.1 C.2.1 hdg (nI_ne0 h0 hy) (by rw [pk_rem hx h0 hy]; exact k)
theorem xt_ladd (C : xt_C p s m args c cc nL own D cI cL) {x y : Nat} (hdg : decode cc pc = .ok (.ladd, 1)) (k : W p l e R s m args below meth c H locs cells slots Q (F0 m (pc + 1) ls (.long (lN (x + y)) :: rest))) : W p l e R s m args below meth c H locs cells slots Q (F0 m pc ls (.long (lN y) :: .long (lN x) :: rest)) :=
  lv_ladd C.1 C.2.1 hdg (by rw [lN_add]; exact k)
theorem xt_lmul (C : xt_C p s m args c cc nL own D cI cL) {x y : Nat} (hdg : decode cc pc = .ok (.lmul, 1)) (k : W p l e R s m args below meth c H locs cells slots Q (F0 m (pc + 1) ls (.long (lN (x * y)) :: rest))) : W p l e R s m args below meth c H locs cells slots Q (F0 m pc ls (.long (lN y) :: .long (lN x) :: rest)) :=
  lv_lmul C.1 C.2.1 hdg (by rw [lN_mul]; exact k)
theorem xt_lsub (C : xt_C p s m args c cc nL own D cI cL) {x y : Nat} (hdg : decode cc pc = .ok (.lsub, 1)) (h : y ≤ x) (k : W p l e R s m args below meth c H locs cells slots Q (F0 m (pc + 1) ls (.long (lN (x - y)) :: rest))) : W p l e R s m args below meth c H locs cells slots Q (F0 m pc ls (.long (lN y) :: .long (lN x) :: rest)) :=
  lv_lsub C.1 C.2.1 hdg (by rw [lN_sub h]; exact k)
theorem xt_ne0L {y : Nat} (h0 : 0 < y) (hy : y < 2 ^ 63) : ¬ lN y = 0 := by
  intro q
  have := (pk_lEQ hy (b := 0) (by omega)).mp q
  omega
theorem xt_ldiv (C : xt_C p s m args c cc nL own D cI cL) {x y : Nat} (hdg : decode cc pc = .ok (.ldiv, 1)) (h0 : 0 < y) (hx : x < 2 ^ 63) (hy : y < 2 ^ 63) (k : W p l e R s m args below meth c H locs cells slots Q (F0 m (pc + 1) ls (.long (lN (x / y)) :: rest))) : W p l e R s m args below meth c H locs cells slots Q (F0 m pc ls (.long (lN y) :: .long (lN x) :: rest)) :=
  lv_ldiv C.1 C.2.1 hdg (xt_ne0L h0 hy) (by rw [pk_lDiv hx h0 hy]; exact k)
theorem xt_lrem (C : xt_C p s m args c cc nL own D cI cL) {x y : Nat} (hdg : decode cc pc = .ok (.lrem, 1)) (h0 : 0 < y) (hx : x < 2 ^ 63) (hy : y < 2 ^ 63) (k : W p l e R s m args below meth c H locs cells slots Q (F0 m (pc + 1) ls (.long (lN (x % y)) :: rest))) : W p l e R s m args below meth c H locs cells slots Q (F0 m pc ls (.long (lN y) :: .long (lN x) :: rest)) :=
  lv_lrem C.1 C.2.1 hdg (xt_ne0L h0 hy) (by rw [pk_lRem hx h0 hy]; exact k)
theorem xt_i2l (C : xt_C p s m args c cc nL own D cI cL) {x : Nat} (hdg : decode cc pc = .ok (.i2l, 1)) (h : x < 2 ^ 31) (k : W p l e R s m args below meth c H locs cells slots Q (F0 m (pc + 1) ls (.long (lN x) :: rest))) : W p l e R s m args below meth c H locs cells slots Q (F0 m pc ls (.int (nI x) :: rest)) :=
  lv_i2l C.1 C.2.1 hdg (nI_l h) k
theorem xt_l2i (C : xt_C p s m args c cc nL own D cI cL) {x : Nat} (hdg : decode cc pc = .ok (.l2i, 1)) (k : W p l e R s m args below meth c H locs cells slots Q (F0 m (pc + 1) ls (.int (nI x) :: rest))) : W p l e R s m args below meth c H locs cells slots Q (F0 m pc ls (.long (lN x) :: rest)) :=
  lv_l2i C.1 C.2.1 hdg (lN_i x) k
theorem xt_inc {x : Nat} : nI x + Int32.ofInt 1 = nI (x + 1) := (nI_succ x).symm
theorem xt_inc5 {x : Nat} : nI x + Int32.ofInt 5 = nI (x + 5) := nI_add x 5
theorem xt_dec1 {x : Nat} : nI (x + 1) + Int32.ofInt (-1) = nI x := pk_m1 x
theorem xt_dec {x : Nat} (h : 1 ≤ x) : nI x + Int32.ofInt (-1) = nI (x - 1) := by
  obtain ⟨y, rfl⟩ : ∃ y, x = y + 1 := ⟨x - 1, by omega⟩
  exact pk_m1 y
theorem xt_ldc2 (C : xt_C p s m args c cc nL own D cI cL) {idx : Nat} (v : Nat) {v64 : Int64} (hc : Cond.constantLong own idx v64 ∈ xt_T) (hdg : decode cc pc = .ok (.ldc2_w idx, 3)) (hv : v64 = lN v) (k : W p l e R s m args below meth c H locs cells slots Q (F0 m (pc + 3) ls (.long (lN v) :: rest))) : W p l e R s m args below meth c H locs cells slots Q (F0 m pc ls rest) :=
  lv_ldc2 C.1 C.2.1 C.o (C.t hc) hdg (by rw [hv]; exact k)
theorem xt_iconst (C : xt_C p s m args c cc nL own D cI cL) {n : Int} (v : Nat) (hdg : decode cc pc = .ok (.iconst n, 1)) (hv : Int32.ofInt n = nI v) (k : W p l e R s m args below meth c H locs cells slots Q (F0 m (pc + 1) ls (.int (nI v) :: rest))) : W p l e R s m args below meth c H locs cells slots Q (F0 m pc ls rest) :=
  lv_iconst C.1 C.2.1 hdg hv k
theorem xt_bipush (C : xt_C p s m args c cc nL own D cI cL) {n : Int} (v : Nat) (hdg : decode cc pc = .ok (.bipush n, 2)) (hv : (Int8.ofInt n).toInt32 = nI v) (k : W p l e R s m args below meth c H locs cells slots Q (F0 m (pc + 2) ls (.int (nI v) :: rest))) : W p l e R s m args below meth c H locs cells slots Q (F0 m pc ls rest) :=
  lv_bipush C.1 C.2.1 hdg hv k
theorem xt_sipush (C : xt_C p s m args c cc nL own D cI cL) {n : Int} (v : Nat) (hdg : decode cc pc = .ok (.sipush n, 3)) (hv : (Int16.ofInt n).toInt32 = nI v) (k : W p l e R s m args below meth c H locs cells slots Q (F0 m (pc + 3) ls (.int (nI v) :: rest))) : W p l e R s m args below meth c H locs cells slots Q (F0 m pc ls rest) :=
  lv_sipush C.1 C.2.1 hdg hv k
theorem xt_lconst (C : xt_C p s m args c cc nL own D cI cL) {n : Fin 2} (v : Nat) (hdg : decode cc pc = .ok (.lconst n, 1)) (hv : Int64.ofNat (n : Nat) = lN v) (k : W p l e R s m args below meth c H locs cells slots Q (F0 m (pc + 1) ls (.long (lN v) :: rest))) : W p l e R s m args below meth c H locs cells slots Q (F0 m pc ls rest) :=
  lv_lconst C.1 C.2.1 hdg hv k
theorem xt_icmp_eq (C : xt_C p s m args c cc nL own D cI cL) {x y : Nat} (hx : x < 2 ^ 31) (hy : y < 2 ^ 31) {off : Int} {tgt : Nat} (hdg : decode cc pc = .ok (.if_icmp .eq off, 3)) (ht : (pc : Int) + off = (tgt : Int)) (kt : x = y → W p l e R s m args below meth c H locs cells slots Q (F0 m tgt ls rest)) (kf : x ≠ y → W p l e R s m args below meth c H locs cells slots Q (F0 m (pc + 3) ls rest)) : W p l e R s m args below meth c H locs cells slots Q (F0 m pc ls (.int (nI y) :: .int (nI x) :: rest)) :=
  lv_icmp_eq C.1 C.2.1 hdg ht (fun h => kt ((nI_eq hx hy).mp h)) (fun h => kf (by have h2 : ¬ (x = y) := fun q => h ((nI_eq hx hy).mpr q); omega))
theorem xt_icmp_ne (C : xt_C p s m args c cc nL own D cI cL) {x y : Nat} (hx : x < 2 ^ 31) (hy : y < 2 ^ 31) {off : Int} {tgt : Nat} (hdg : decode cc pc = .ok (.if_icmp .ne off, 3)) (ht : (pc : Int) + off = (tgt : Int)) (kt : x ≠ y → W p l e R s m args below meth c H locs cells slots Q (F0 m tgt ls rest)) (kf : x = y → W p l e R s m args below meth c H locs cells slots Q (F0 m (pc + 3) ls rest)) : W p l e R s m args below meth c H locs cells slots Q (F0 m pc ls (.int (nI y) :: .int (nI x) :: rest)) :=
  lv_icmp_ne C.1 C.2.1 hdg ht (fun h => kt (fun q => h ((nI_eq hx hy).mpr q))) (fun h => kf ((nI_eq hx hy).mp h))
theorem xt_icmp_lt (C : xt_C p s m args c cc nL own D cI cL) {x y : Nat} (hx : x < 2 ^ 31) (hy : y < 2 ^ 31) {off : Int} {tgt : Nat} (hdg : decode cc pc = .ok (.if_icmp .lt off, 3)) (ht : (pc : Int) + off = (tgt : Int)) (kt : x < y → W p l e R s m args below meth c H locs cells slots Q (F0 m tgt ls rest)) (kf : y ≤ x → W p l e R s m args below meth c H locs cells slots Q (F0 m (pc + 3) ls rest)) : W p l e R s m args below meth c H locs cells slots Q (F0 m pc ls (.int (nI y) :: .int (nI x) :: rest)) :=
  lv_icmp_lt C.1 C.2.1 hdg ht (fun h => kt ((nI_ltI hx hy).mp h)) (fun h => kf (by have h2 : ¬ (x < y) := fun q => h ((nI_ltI hx hy).mpr q); omega))
theorem xt_icmp_ge (C : xt_C p s m args c cc nL own D cI cL) {x y : Nat} (hx : x < 2 ^ 31) (hy : y < 2 ^ 31) {off : Int} {tgt : Nat} (hdg : decode cc pc = .ok (.if_icmp .ge off, 3)) (ht : (pc : Int) + off = (tgt : Int)) (kt : y ≤ x → W p l e R s m args below meth c H locs cells slots Q (F0 m tgt ls rest)) (kf : x < y → W p l e R s m args below meth c H locs cells slots Q (F0 m (pc + 3) ls rest)) : W p l e R s m args below meth c H locs cells slots Q (F0 m pc ls (.int (nI y) :: .int (nI x) :: rest)) :=
  lv_icmp_ge C.1 C.2.1 hdg ht (fun h => kt ((nI_leI hy hx).mp h)) (fun h => kf (by have h2 : ¬ (y ≤ x) := fun q => h ((nI_leI hy hx).mpr q); omega))
theorem xt_icmp_gt (C : xt_C p s m args c cc nL own D cI cL) {x y : Nat} (hx : x < 2 ^ 31) (hy : y < 2 ^ 31) {off : Int} {tgt : Nat} (hdg : decode cc pc = .ok (.if_icmp .gt off, 3)) (ht : (pc : Int) + off = (tgt : Int)) (kt : y < x → W p l e R s m args below meth c H locs cells slots Q (F0 m tgt ls rest)) (kf : x ≤ y → W p l e R s m args below meth c H locs cells slots Q (F0 m (pc + 3) ls rest)) : W p l e R s m args below meth c H locs cells slots Q (F0 m pc ls (.int (nI y) :: .int (nI x) :: rest)) :=
  lv_icmp_gt C.1 C.2.1 hdg ht (fun h => kt ((nI_ltI hy hx).mp h)) (fun h => kf (by have h2 : ¬ (y < x) := fun q => h ((nI_ltI hy hx).mpr q); omega))
theorem xt_icmp_le (C : xt_C p s m args c cc nL own D cI cL) {x y : Nat} (hx : x < 2 ^ 31) (hy : y < 2 ^ 31) {off : Int} {tgt : Nat} (hdg : decode cc pc = .ok (.if_icmp .le off, 3)) (ht : (pc : Int) + off = (tgt : Int)) (kt : x ≤ y → W p l e R s m args below meth c H locs cells slots Q (F0 m tgt ls rest)) (kf : y < x → W p l e R s m args below meth c H locs cells slots Q (F0 m (pc + 3) ls rest)) : W p l e R s m args below meth c H locs cells slots Q (F0 m pc ls (.int (nI y) :: .int (nI x) :: rest)) :=
  lv_icmp_le C.1 C.2.1 hdg ht (fun h => kt ((nI_leI hx hy).mp h)) (fun h => kf (by have h2 : ¬ (x ≤ y) := fun q => h ((nI_leI hx hy).mpr q); omega))
theorem xt_z {x : Nat} (hx : x < 2 ^ 31) : nI x = 0 ↔ x = 0 := by
  have h := nI_eq hx (b := 0) (by omega)
  rw [nI_0] at h
  exact h
theorem xt_zp {x : Nat} (hx : x < 2 ^ 31) : 0 < nI x ↔ 0 < x := by
  have h := nI_ltI (a := 0) (b := x) (by omega) hx
  rw [nI_0] at h
  exact h
theorem xt_zl {x : Nat} (hx : x < 2 ^ 31) : nI x ≤ 0 ↔ x = 0 := by
  have h := nI_leI (a := x) (b := 0) hx (by omega)
  rw [nI_0] at h
  rw [h]
  omega
theorem xt_if_eq (C : xt_C p s m args c cc nL own D cI cL) {x : Nat} (hx : x < 2 ^ 31) {off : Int} {tgt : Nat} (hdg : decode cc pc = .ok (.ifCond .eq off, 3)) (ht : (pc : Int) + off = (tgt : Int)) (kt : x = 0 → W p l e R s m args below meth c H locs cells slots Q (F0 m tgt ls rest)) (kf : x ≠ 0 → W p l e R s m args below meth c H locs cells slots Q (F0 m (pc + 3) ls rest)) : W p l e R s m args below meth c H locs cells slots Q (F0 m pc ls (.int (nI x) :: rest)) :=
  lv_if_eq C.1 C.2.1 hdg ht (fun h => kt ((xt_z hx).mp h)) (fun h => kf (by have h2 : ¬ (x = 0) := fun q => h ((xt_z hx).mpr q); omega))
theorem xt_if_ne (C : xt_C p s m args c cc nL own D cI cL) {x : Nat} (hx : x < 2 ^ 31) {off : Int} {tgt : Nat} (hdg : decode cc pc = .ok (.ifCond .ne off, 3)) (ht : (pc : Int) + off = (tgt : Int)) (kt : x ≠ 0 → W p l e R s m args below meth c H locs cells slots Q (F0 m tgt ls rest)) (kf : x = 0 → W p l e R s m args below meth c H locs cells slots Q (F0 m (pc + 3) ls rest)) : W p l e R s m args below meth c H locs cells slots Q (F0 m pc ls (.int (nI x) :: rest)) :=
  lv_if_ne C.1 C.2.1 hdg ht (fun h => kt (fun q => h ((xt_z hx).mpr q))) (fun h => kf ((xt_z hx).mp h))
theorem xt_if_gt (C : xt_C p s m args c cc nL own D cI cL) {x : Nat} (hx : x < 2 ^ 31) {off : Int} {tgt : Nat} (hdg : decode cc pc = .ok (.ifCond .gt off, 3)) (ht : (pc : Int) + off = (tgt : Int)) (kt : 0 < x → W p l e R s m args below meth c H locs cells slots Q (F0 m tgt ls rest)) (kf : x = 0 → W p l e R s m args below meth c H locs cells slots Q (F0 m (pc + 3) ls rest)) : W p l e R s m args below meth c H locs cells slots Q (F0 m pc ls (.int (nI x) :: rest)) :=
  lv_if_gt C.1 C.2.1 hdg ht (fun h => kt ((xt_zp hx).mp h)) (fun h => kf (by have h2 : ¬ (0 < x) := fun q => h ((xt_zp hx).mpr q); omega))
theorem xt_if_le (C : xt_C p s m args c cc nL own D cI cL) {x : Nat} (hx : x < 2 ^ 31) {off : Int} {tgt : Nat} (hdg : decode cc pc = .ok (.ifCond .le off, 3)) (ht : (pc : Int) + off = (tgt : Int)) (kt : x = 0 → W p l e R s m args below meth c H locs cells slots Q (F0 m tgt ls rest)) (kf : 0 < x → W p l e R s m args below meth c H locs cells slots Q (F0 m (pc + 3) ls rest)) : W p l e R s m args below meth c H locs cells slots Q (F0 m pc ls (.int (nI x) :: rest)) :=
  lv_if_le C.1 C.2.1 hdg ht (fun h => kt ((xt_zl hx).mp h)) (fun h => kf (by have h2 : ¬ (x = 0) := fun q => h ((xt_zl hx).mpr q); omega))
theorem xt_if_lt (C : xt_C p s m args c cc nL own D cI cL) {x : Nat} (hx : x < 2 ^ 31) {off : Int} {tgt : Nat} (hdg : decode cc pc = .ok (.ifCond .lt off, 3)) (ht : (pc : Int) + off = (tgt : Int)) (kf : W p l e R s m args below meth c H locs cells slots Q (F0 m (pc + 3) ls rest)) : W p l e R s m args below meth c H locs cells slots Q (F0 m pc ls (.int (nI x) :: rest)) :=
  lv_if_lt C.1 C.2.1 hdg ht (fun h => absurd h (nI_pos hx)) (fun _ => kf)
theorem xt_if_ge (C : xt_C p s m args c cc nL own D cI cL) {x : Nat} (hx : x < 2 ^ 31) {off : Int} {tgt : Nat} (hdg : decode cc pc = .ok (.ifCond .ge off, 3)) (ht : (pc : Int) + off = (tgt : Int)) (kt : W p l e R s m args below meth c H locs cells slots Q (F0 m tgt ls rest)) : W p l e R s m args below meth c H locs cells slots Q (F0 m pc ls (.int (nI x) :: rest)) :=
  lv_if_ge C.1 C.2.1 hdg ht (fun _ => kt) (fun h => absurd (nI_pos' hx) h)
theorem xt_l_eq (C : xt_C p s m args c cc nL own D cI cL) {x y : Nat} (hx : x < 2 ^ 63) (hy : y < 2 ^ 63) {off : Int} {tgt : Nat} (hd1 : decode cc pc = .ok (.lcmp, 1)) (hdg : decode cc (pc + 1) = .ok (.ifCond .eq off, 3)) (ht : ((pc + 1 : Nat) : Int) + off = (tgt : Int)) (kt : x = y → W p l e R s m args below meth c H locs cells slots Q (F0 m tgt ls rest)) (kf : x ≠ y → W p l e R s m args below meth c H locs cells slots Q (F0 m (pc + 1 + 3) ls rest)) : W p l e R s m args below meth c H locs cells slots Q (F0 m pc ls (.long (lN y) :: .long (lN x) :: rest)) := by
  refine W.lcmp C.1 C.2.1 hd1 ?_
  exact lv_if_eq C.1 C.2.1 hdg ht (fun h => kt ((pk_lEQ hx hy).mp ((lg_cmp_eq _ _).mp h))) (fun h => kf (by have h2 : ¬ (x = y) := fun q => h ((lg_cmp_eq _ _).mpr ((pk_lEQ hx hy).mpr q)); omega))
theorem xt_l_ne (C : xt_C p s m args c cc nL own D cI cL) {x y : Nat} (hx : x < 2 ^ 63) (hy : y < 2 ^ 63) {off : Int} {tgt : Nat} (hd1 : decode cc pc = .ok (.lcmp, 1)) (hdg : decode cc (pc + 1) = .ok (.ifCond .ne off, 3)) (ht : ((pc + 1 : Nat) : Int) + off = (tgt : Int)) (kt : x ≠ y → W p l e R s m args below meth c H locs cells slots Q (F0 m tgt ls rest)) (kf : x = y → W p l e R s m args below meth c H locs cells slots Q (F0 m (pc + 1 + 3) ls rest)) : W p l e R s m args below meth c H locs cells slots Q (F0 m pc ls (.long (lN y) :: .long (lN x) :: rest)) := by
  refine W.lcmp C.1 C.2.1 hd1 ?_
  exact lv_if_ne C.1 C.2.1 hdg ht (fun h => kt (fun q => h ((lg_cmp_eq _ _).mpr ((pk_lEQ hx hy).mpr q)))) (fun h => kf ((pk_lEQ hx hy).mp ((lg_cmp_eq _ _).mp h)))
theorem xt_l_lt (C : xt_C p s m args c cc nL own D cI cL) {x y : Nat} (hx : x < 2 ^ 63) (hy : y < 2 ^ 63) {off : Int} {tgt : Nat} (hd1 : decode cc pc = .ok (.lcmp, 1)) (hdg : decode cc (pc + 1) = .ok (.ifCond .lt off, 3)) (ht : ((pc + 1 : Nat) : Int) + off = (tgt : Int)) (kt : x < y → W p l e R s m args below meth c H locs cells slots Q (F0 m tgt ls rest)) (kf : y ≤ x → W p l e R s m args below meth c H locs cells slots Q (F0 m (pc + 1 + 3) ls rest)) : W p l e R s m args below meth c H locs cells slots Q (F0 m pc ls (.long (lN y) :: .long (lN x) :: rest)) := by
  refine W.lcmp C.1 C.2.1 hd1 ?_
  exact lv_if_lt C.1 C.2.1 hdg ht (fun h => kt ((pk_lLT hx hy).mp ((lg_cmp_lt _ _).mp h))) (fun h => kf (by have h2 : ¬ (x < y) := fun q => h ((lg_cmp_lt _ _).mpr ((pk_lLT hx hy).mpr q)); omega))
theorem xt_l_ge (C : xt_C p s m args c cc nL own D cI cL) {x y : Nat} (hx : x < 2 ^ 63) (hy : y < 2 ^ 63) {off : Int} {tgt : Nat} (hd1 : decode cc pc = .ok (.lcmp, 1)) (hdg : decode cc (pc + 1) = .ok (.ifCond .ge off, 3)) (ht : ((pc + 1 : Nat) : Int) + off = (tgt : Int)) (kt : y ≤ x → W p l e R s m args below meth c H locs cells slots Q (F0 m tgt ls rest)) (kf : x < y → W p l e R s m args below meth c H locs cells slots Q (F0 m (pc + 1 + 3) ls rest)) : W p l e R s m args below meth c H locs cells slots Q (F0 m pc ls (.long (lN y) :: .long (lN x) :: rest)) := by
  refine W.lcmp C.1 C.2.1 hd1 ?_
  exact lv_if_ge C.1 C.2.1 hdg ht (fun h => kt ((pk_lLE hy hx).mp ((lg_cmp_ge _ _).mp h))) (fun h => kf (by have h2 : ¬ (y ≤ x) := fun q => h ((lg_cmp_ge _ _).mpr ((pk_lLE hy hx).mpr q)); omega))
theorem xt_l_gt (C : xt_C p s m args c cc nL own D cI cL) {x y : Nat} (hx : x < 2 ^ 63) (hy : y < 2 ^ 63) {off : Int} {tgt : Nat} (hd1 : decode cc pc = .ok (.lcmp, 1)) (hdg : decode cc (pc + 1) = .ok (.ifCond .gt off, 3)) (ht : ((pc + 1 : Nat) : Int) + off = (tgt : Int)) (kt : y < x → W p l e R s m args below meth c H locs cells slots Q (F0 m tgt ls rest)) (kf : x ≤ y → W p l e R s m args below meth c H locs cells slots Q (F0 m (pc + 1 + 3) ls rest)) : W p l e R s m args below meth c H locs cells slots Q (F0 m pc ls (.long (lN y) :: .long (lN x) :: rest)) := by
  refine W.lcmp C.1 C.2.1 hd1 ?_
  exact lv_if_gt C.1 C.2.1 hdg ht (fun h => kt ((pk_lLT hy hx).mp ((lg_cmp_gt _ _).mp h))) (fun h => kf (by have h2 : ¬ (y < x) := fun q => h ((lg_cmp_gt _ _).mpr ((pk_lLT hy hx).mpr q)); omega))
theorem xt_l_le (C : xt_C p s m args c cc nL own D cI cL) {x y : Nat} (hx : x < 2 ^ 63) (hy : y < 2 ^ 63) {off : Int} {tgt : Nat} (hd1 : decode cc pc = .ok (.lcmp, 1)) (hdg : decode cc (pc + 1) = .ok (.ifCond .le off, 3)) (ht : ((pc + 1 : Nat) : Int) + off = (tgt : Int)) (kt : x ≤ y → W p l e R s m args below meth c H locs cells slots Q (F0 m tgt ls rest)) (kf : y < x → W p l e R s m args below meth c H locs cells slots Q (F0 m (pc + 1 + 3) ls rest)) : W p l e R s m args below meth c H locs cells slots Q (F0 m pc ls (.long (lN y) :: .long (lN x) :: rest)) := by
  refine W.lcmp C.1 C.2.1 hd1 ?_
  exact lv_if_le C.1 C.2.1 hdg ht (fun h => kt ((pk_lLE hx hy).mp ((lg_cmp_le _ _).mp h))) (fun h => kf (by have h2 : ¬ (x ≤ y) := fun q => h ((lg_cmp_le _ _).mpr ((pk_lLE hx hy).mpr q)); omega))
theorem xt_mT {y : Nat} (hy : y < 2 ^ 30) : (nI y - nI 1).toInt = (y : Int) - 1 := pk_sub_toInt hy (by omega)
theorem xt_nT {x : Nat} (hx : x < 2 ^ 30) : (nI x).toInt = (x : Int) := nI_toInt (by omega)
theorem xt_icmp_ge_m (C : xt_C p s m args c cc nL own D cI cL) {x y : Nat} (hx : x < 2 ^ 30) (hy : y < 2 ^ 30) {off : Int} {tgt : Nat} (hdg : decode cc pc = .ok (.if_icmp .ge off, 3)) (ht : (pc : Int) + off = (tgt : Int)) (kt : y ≤ x + 1 → W p l e R s m args below meth c H locs cells slots Q (F0 m tgt ls rest)) (kf : x + 1 < y → W p l e R s m args below meth c H locs cells slots Q (F0 m (pc + 3) ls rest)) : W p l e R s m args below meth c H locs cells slots Q (F0 m pc ls (.int (nI y - nI 1) :: .int (nI x) :: rest)) := by
  have key : nI y - nI 1 ≤ nI x ↔ y ≤ x + 1 := by
    rw [Int32.le_iff_toInt_le, xt_mT hy, xt_nT hx]
    omega
  exact lv_icmp_ge C.1 C.2.1 hdg ht (fun h => kt (key.mp h)) (fun h => kf (by have h2 : ¬ (y ≤ x + 1) := fun q => h (key.mpr q); omega))
theorem xt_icmp_gt_m (C : xt_C p s m args c cc nL own D cI cL) {x y : Nat} (hx : x < 2 ^ 30) (hy : y < 2 ^ 30) {off : Int} {tgt : Nat} (hdg : decode cc pc = .ok (.if_icmp .gt off, 3)) (ht : (pc : Int) + off = (tgt : Int)) (kt : y ≤ x → W p l e R s m args below meth c H locs cells slots Q (F0 m tgt ls rest)) (kf : x < y → W p l e R s m args below meth c H locs cells slots Q (F0 m (pc + 3) ls rest)) : W p l e R s m args below meth c H locs cells slots Q (F0 m pc ls (.int (nI y - nI 1) :: .int (nI x) :: rest)) := by
  have key : nI y - nI 1 < nI x ↔ y ≤ x := by
    rw [Int32.lt_iff_toInt_lt, xt_mT hy, xt_nT hx]
    omega
  exact lv_icmp_gt C.1 C.2.1 hdg ht (fun h => kt (key.mp h)) (fun h => kf (by have h2 : ¬ (y ≤ x) := fun q => h (key.mpr q); omega))
theorem xt_icmp_lt_m (C : xt_C p s m args c cc nL own D cI cL) {x y : Nat} (hx : x < 2 ^ 30) (hy : y < 2 ^ 30) {off : Int} {tgt : Nat} (hdg : decode cc pc = .ok (.if_icmp .lt off, 3)) (ht : (pc : Int) + off = (tgt : Int)) (kt : x ≤ y → W p l e R s m args below meth c H locs cells slots Q (F0 m tgt ls rest)) (kf : y < x → W p l e R s m args below meth c H locs cells slots Q (F0 m (pc + 3) ls rest)) : W p l e R s m args below meth c H locs cells slots Q (F0 m pc ls (.int (nI y) :: .int (nI x - nI 1) :: rest)) := by
  have key : nI x - nI 1 < nI y ↔ x ≤ y := by
    rw [Int32.lt_iff_toInt_lt, xt_mT hx, xt_nT hy]
    omega
  exact lv_icmp_lt C.1 C.2.1 hdg ht (fun h => kt (key.mp h)) (fun h => kf (by have h2 : ¬ (x ≤ y) := fun q => h (key.mpr q); omega))
theorem xt_if_lt_m (C : xt_C p s m args c cc nL own D cI cL) {x : Nat} (hx : x < 2 ^ 30) {off : Int} {tgt : Nat} (hdg : decode cc pc = .ok (.ifCond .lt off, 3)) (ht : (pc : Int) + off = (tgt : Int)) (kt : x = 0 → W p l e R s m args below meth c H locs cells slots Q (F0 m tgt ls rest)) (kf : 0 < x → W p l e R s m args below meth c H locs cells slots Q (F0 m (pc + 3) ls rest)) : W p l e R s m args below meth c H locs cells slots Q (F0 m pc ls (.int (nI x - nI 1) :: rest)) := by
  have key : nI x - nI 1 < 0 ↔ x = 0 := by
    rw [Int32.lt_iff_toInt_lt, xt_mT hx, Int32.toInt_zero]
    omega
  exact lv_if_lt C.1 C.2.1 hdg ht (fun h => kt (key.mp h)) (fun h => kf (by have h2 : ¬ (x = 0) := fun q => h (key.mpr q); omega))
theorem xt_decm {x : Nat} : nI x + Int32.ofInt (-1) = nI x - nI 1 := by
  rw [Int32.sub_eq_add_neg]
  rfl
theorem xt_orN (a b : Nat) : nI a ||| nI b = nI (a ||| b) := by
  apply Int32.toBitVec_inj.1
  show BitVec.ofNat 32 a ||| BitVec.ofNat 32 b = BitVec.ofNat 32 (a ||| b)
  apply BitVec.eq_of_getLsbD_eq
  intro i hi
  simp [hi]
theorem xt_or4 {a t : Nat} (ht : t < 4) : nI (a * 4) ||| nI t = nI (a * 4 + t) := by
  rw [xt_orN]
  have h := Nat.two_pow_add_eq_or_of_lt (i := 2) (b := t) ht a
  have e : a * 4 = 2 ^ 2 * a := by omega
  rw [e, ← h]
theorem xt_sm : ∀ n, n < 32 → ((nI n &&& 31).toBitVec.smod 32).toNat = n := by decide +kernel
theorem xt_and3 (C : xt_C p s m args c cc nL own D cI cL) {x : Nat} (hdg : decode cc pc = .ok (.iand, 1)) (h : x < 2 ^ 32) (k : W p l e R s m args below meth c H locs cells slots Q (F0 m (pc + 1) ls (.int (nI (x % 4)) :: rest))) : W p l e R s m args below meth c H locs cells slots Q (F0 m pc ls (.int (nI 3) :: .int (nI x) :: rest)) :=
  lv_iand C.1 C.2.1 hdg (by rw [pk_andN h (m := nI 3) 2 (by decide)]; exact k)
theorem xt_shl2 (C : xt_C p s m args c cc nL own D cI cL) {x : Nat} (hdg : decode cc pc = .ok (.ishl, 1)) (h : x * 4 < 2 ^ 32) (k : W p l e R s m args below meth c H locs cells slots Q (F0 m (pc + 1) ls (.int (nI (x * 4)) :: rest))) : W p l e R s m args below meth c H locs cells slots Q (F0 m pc ls (.int (nI 2) :: .int (nI x) :: rest)) :=
  lv_ishl C.1 C.2.1 hdg (by rw [pk_shlN (nI 2 &&& 31) 2 (xt_sm 2 (by decide)) h]; exact k)
theorem xt_ior4 (C : xt_C p s m args c cc nL own D cI cL) {x y : Nat} (hdg : decode cc pc = .ok (.ior, 1)) (h : y < 4) (k : W p l e R s m args below meth c H locs cells slots Q (F0 m (pc + 1) ls (.int (nI (x * 4 + y)) :: rest))) : W p l e R s m args below meth c H locs cells slots Q (F0 m pc ls (.int (nI y) :: .int (nI (x * 4)) :: rest)) :=
  lv_ior C.1 C.2.1 hdg (by rw [xt_or4 h]; exact k)
theorem xt_ishr (C : xt_C p s m args c cc nL own D cI cL) {x y : Nat} (hdg : decode cc pc = .ok (.ishr, 1)) (hx : x < 2 ^ 31) (hy : y < 32) (k : W p l e R s m args below meth c H locs cells slots Q (F0 m (pc + 1) ls (.int (nI (x / 2 ^ y)) :: rest))) : W p l e R s m args below meth c H locs cells slots Q (F0 m pc ls (.int (nI y) :: .int (nI x) :: rest)) :=
  lv_ishr C.1 C.2.1 hdg (by rw [pk_shrN hx (nI y &&& 31) y (xt_sm y hy)]; exact k)
end XT
/-! two worlds side by side (the law's): a call on one of them leaves the other -/
theorem xt_PL {D : va_G} {cl : List vw_C} {w1 w2 : va_W} {H : Heap} (h : va_P D cl (w1 ++ w2) H) : va_P D cl w1 H := fun k q hk =>
  h k q (by rw [List.getElem?_append_left (List.getElem?_eq_some_iff.mp hk).1]; exact hk)
theorem xt_PR {D : va_G} {cl : List vw_C} {w1 w2 : va_W} {H : Heap} (h : va_P D cl (w1 ++ w2) H) : va_P D cl w2 H := fun k q hk =>
  h (w1.length + k) q (by rw [List.getElem?_append_right (Nat.le_add_right _ _), Nat.add_sub_cancel_left]; exact hk)
theorem xt_aL {w1 w2 : va_W} {k : Nat} {q : Nat × va_E} (hk : w1[k]? = some q) : (w1 ++ w2)[k]? = some q := by
  rw [List.getElem?_append_left (List.getElem?_eq_some_iff.mp hk).1]; exact hk
theorem xt_aR {w1 w2 : va_W} {k : Nat} {q : Nat × va_E} (hk : w2[k]? = some q) : (w1 ++ w2)[w1.length + k]? = some q := by
  rw [List.getElem?_append_right (Nat.le_add_right _ _), Nat.add_sub_cancel_left]; exact hk
theorem xt_DL {A : Nat → Prop} {w1 w2 : va_W} (h : va_D A (w1 ++ w2)) : va_D A w1 :=
  ⟨fun i j p q hi hj e => h.1 i j p q (xt_aL hi) (xt_aL hj) e, fun k q hk => h.2 k q (xt_aL hk)⟩
theorem xt_DR {A : Nat → Prop} {w1 w2 : va_W} (h : va_D A (w1 ++ w2)) : va_D A w2 :=
  ⟨fun i j p q hi hj e => by have := h.1 _ _ p q (xt_aR hi) (xt_aR hj) e; omega, fun k q hk => h.2 _ q (xt_aR hk)⟩
theorem xt_ap {A : Nat → Prop} {w1 w2 : va_W} (h : va_D A (w1 ++ w2)) {i j : Nat} {p q : Nat × va_E} (hi : w1[i]? = some p) (hj : w2[j]? = some q) : p.1 ≠ q.1 := fun e => by
  have h1 := h.1 _ _ p q (xt_aL hi) (xt_aR hj) e
  have h2 := (List.getElem?_eq_some_iff.mp hi).1
  omega
theorem xt_out {D : va_G} {cl : List vw_C} {wc wo : va_W} {H : Heap} (hP : va_P D cl wo H) (hap : ∀ (i j : Nat) (p q : Nat × va_E), wc[i]? = some p → wo[j]? = some q → p.1 ≠ q.1) {k : Nat} {q : Nat × va_E} (hq : wo[k]? = some q) : q.1 < H.size ∧ ¬ va_A wc H.size q.1 := by
  refine ⟨(hP k q hq).lt, fun h => ?_⟩
  rcases h with ⟨j, e, h⟩ | h
  · exact hap j k (q.1, e) q h hq rfl
  · have := (hP k q hq).lt
    omega
theorem xt_keep {D : va_G} {cl : List vw_C} {wc wo : va_W} {H H1 : Heap} (hP : va_P D cl wo H) (hap : ∀ (i j : Nat) (p q : Nat × va_E), wc[i]? = some p → wo[j]? = some q → p.1 ≠ q.1) (hk : ∀ q : Nat, q < H.size → ¬ va_A wc H.size q → H1[q]? = H[q]?) : va_P D cl wo H1 :=
  hP.kept (fun _ q hq => hk q.1 (xt_out hP hap hq).1 (xt_out hP hap hq).2)
section XTF
variable {p : Program} {l : Launch} {e : Env} {R : Room} {s : State} {m : MethodId} {args : Array Value} {below : List Frame} {meth : Method} {c : Code} {H : Heap} {locs : List Loc} {cells slots : Nat} {Q : State → Prop}
variable {pc : Nat} {ls : Array Slot} {rest st0 : List Value} {D : va_G} {cI cL : ClassId} {A : Nat → Prop} {H0 : Heap} {w1 w2 : va_W}
theorem xt_frL (hA : ∀ q, H0.size ≤ q → A q) (w : xt_W D A H0 (w1 ++ w2) H locs) : ∀ q, va_A w1 H.size q → A q := fun q h => by
  rcases h with ⟨k, e, h⟩ | h
  · exact (xt_DL w.2.1).2 k _ h
  · exact hA q (Nat.le_trans w.2.2.1 h)
theorem xt_frR (hA : ∀ q, H0.size ≤ q → A q) (w : xt_W D A H0 (w1 ++ w2) H locs) : ∀ q, va_A w2 H.size q → A q := fun q h => by
  rcases h with ⟨k, e, h⟩ | h
  · exact (xt_DR w.2.1).2 k _ h
  · exact hA q (Nat.le_trans w.2.2.1 h)
theorem xt_joinL {w1' : va_W} {H1 : Heap} {locs1 : List Loc} (hA : ∀ q, H0.size ≤ q → A q) (w : xt_W D A H0 (w1 ++ w2) H locs) (hP1 : va_P D vwCl w1' H1) (hD1 : va_D (va_A w1 H.size) w1') (hk : ∀ q : Nat, q < H.size → ¬ va_A w1 H.size q → H1[q]? = H[q]?) (hS : va_S A H0 H1 locs1) : xt_W D A H0 (w1' ++ w2) H1 locs1 := by
  have hap : ∀ (i j : Nat) (p q : Nat × va_E), w1[i]? = some p → w2[j]? = some q → p.1 ≠ q.1 := fun i j p q h1 h2 => xt_ap w.2.1 h1 h2
  refine ⟨va_P.app hP1 (xt_keep (xt_PR w.1) hap hk), va_D.app (hD1.weaken (fun k q _ h => xt_frL hA w q.1 h)) (xt_DR w.2.1) (fun i j p q hi hj e => ?_), hS⟩
  exact (xt_out (xt_PR w.1) hap hj).2 (by rw [← e]; exact hD1.2 i p hi)
theorem xt_joinR {w2' : va_W} {H1 : Heap} {locs1 : List Loc} (hA : ∀ q, H0.size ≤ q → A q) (w : xt_W D A H0 (w1 ++ w2) H locs) (hP1 : va_P D vwCl w2' H1) (hD1 : va_D (va_A w2 H.size) w2') (hk : ∀ q : Nat, q < H.size → ¬ va_A w2 H.size q → H1[q]? = H[q]?) (hS : va_S A H0 H1 locs1) : xt_W D A H0 (w1 ++ w2') H1 locs1 := by
  have hap : ∀ (i j : Nat) (p q : Nat × va_E), w2[i]? = some p → w1[j]? = some q → p.1 ≠ q.1 := fun i j p q h1 h2 => (xt_ap w.2.1 h2 h1).symm
  refine ⟨va_P.app (xt_keep (xt_PL w.1) hap hk) hP1, va_D.app (xt_DL w.2.1) (hD1.weaken (fun k q _ h => xt_frR hA w q.1 h)) (fun i j p q hi hj e => ?_), hS⟩
  exact (xt_out (xt_PL w.1) hap hi).2 (by rw [e]; exact hD1.2 j q hj)
theorem xt_ciL {U : Type} {post : Int32 → U → Prop} {ws' : U → va_W} {av : Array Value} (hA : ∀ q, H0.size ≤ q → A q) (w : xt_W D A H0 (w1 ++ w2) H locs) (hr : va_Run p l e R s m args below meth c H locs cells slots 0 0 (F0 m pc ls st0) rest (xt_Qi D cI cL w1 post ws' H.size av) (va_A w1 H.size))
    (kk : ∀ (r : Int32) (u : U) (H1 : Heap) (locs1 : List Loc), post r u → xt_W D A H0 (ws' u ++ w2) H1 locs1 → W p l e R s m args below meth c H1 locs1 cells slots Q (F0 m (pc + 3) ls (.int r :: rest))) : W p l e R s m args below meth c H locs cells slots Q (F0 m pc ls st0) := by
  refine va_calli hr w.2.2 (fun q _ h => xt_frL hA w q h) (xt_frL hA w) (fun r u t H1 locs1 ht hvm hp hB hz hk hS => ?_)
  obtain ⟨hP1, hK1, hD1⟩ := hB
  rw [ht] at hP1
  exact kk r u H1 locs1 hp (xt_joinL hA w hP1 hD1 hk hS)
theorem xt_ciR {U : Type} {post : Int32 → U → Prop} {ws' : U → va_W} {av : Array Value} (hA : ∀ q, H0.size ≤ q → A q) (w : xt_W D A H0 (w1 ++ w2) H locs) (hr : va_Run p l e R s m args below meth c H locs cells slots 0 0 (F0 m pc ls st0) rest (xt_Qi D cI cL w2 post ws' H.size av) (va_A w2 H.size))
    (kk : ∀ (r : Int32) (u : U) (H1 : Heap) (locs1 : List Loc), post r u → xt_W D A H0 (w1 ++ ws' u) H1 locs1 → W p l e R s m args below meth c H1 locs1 cells slots Q (F0 m (pc + 3) ls (.int r :: rest))) : W p l e R s m args below meth c H locs cells slots Q (F0 m pc ls st0) := by
  refine va_calli hr w.2.2 (fun q _ h => xt_frR hA w q h) (xt_frR hA w) (fun r u t H1 locs1 ht hvm hp hB hz hk hS => ?_)
  obtain ⟨hP1, hK1, hD1⟩ := hB
  rw [ht] at hP1
  exact kk r u H1 locs1 hp (xt_joinR hA w hP1 hD1 hk hS)
theorem xt_clL {U : Type} {post : Int64 → U → Prop} {ws' : U → va_W} {av : Array Value} (hA : ∀ q, H0.size ≤ q → A q) (w : xt_W D A H0 (w1 ++ w2) H locs) (hr : va_Run p l e R s m args below meth c H locs cells slots 0 0 (F0 m pc ls st0) rest (xt_Ql D cI cL w1 post ws' H.size av) (va_A w1 H.size))
    (kk : ∀ (r : Int64) (u : U) (H1 : Heap) (locs1 : List Loc), post r u → xt_W D A H0 (ws' u ++ w2) H1 locs1 → W p l e R s m args below meth c H1 locs1 cells slots Q (F0 m (pc + 3) ls (.long r :: rest))) : W p l e R s m args below meth c H locs cells slots Q (F0 m pc ls st0) := by
  refine va_calll hr w.2.2 (fun q _ h => xt_frL hA w q h) (xt_frL hA w) (fun r u t H1 locs1 ht hvm hp hB hz hk hS => ?_)
  obtain ⟨hP1, hK1, hD1⟩ := hB
  rw [ht] at hP1
  exact kk r u H1 locs1 hp (xt_joinL hA w hP1 hD1 hk hS)
theorem xt_clR {U : Type} {post : Int64 → U → Prop} {ws' : U → va_W} {av : Array Value} (hA : ∀ q, H0.size ≤ q → A q) (w : xt_W D A H0 (w1 ++ w2) H locs) (hr : va_Run p l e R s m args below meth c H locs cells slots 0 0 (F0 m pc ls st0) rest (xt_Ql D cI cL w2 post ws' H.size av) (va_A w2 H.size))
    (kk : ∀ (r : Int64) (u : U) (H1 : Heap) (locs1 : List Loc), post r u → xt_W D A H0 (w1 ++ ws' u) H1 locs1 → W p l e R s m args below meth c H1 locs1 cells slots Q (F0 m (pc + 3) ls (.long r :: rest))) : W p l e R s m args below meth c H locs cells slots Q (F0 m pc ls st0) := by
  refine va_calll hr w.2.2 (fun q _ h => xt_frR hA w q h) (xt_frR hA w) (fun r u t H1 locs1 ht hvm hp hB hz hk hS => ?_)
  obtain ⟨hP1, hK1, hD1⟩ := hB
  rw [ht] at hP1
  exact kk r u H1 locs1 hp (xt_joinR hA w hP1 hD1 hk hS)
end XTF
end
