-- ===== PART A: goes FIRST, ahead of the names: the tables' words, and 'selects' of the private methods out of them =====
/-- a private method of a class that the tables say can be made, by its rows of tables_1 -/
def lw_okq (q : MethodName × Nat) : Prop := (q.1.cls ≠ "java/lang/invoke/MethodHandle" ∧ q.1.cls ≠ "java/lang/invoke/VarHandle") ∧ Cond.instantiable q.1.cls q.2 ∈ tables_1 ∧ Cond.privateMethod q.1 ∈ tables_1 ∧ Cond.instanceMethod q.1 ∈ tables_1
theorem lw_p0 : lw_okq (⟨"WeightedClauses$Search", "putWaiting", "(II)V"⟩, 12) := ⟨⟨by decide +kernel, by decide +kernel⟩, List.mem_of_getElem? (i := 95) (by decide +kernel), List.mem_of_getElem? (i := 186) (by decide +kernel), List.mem_of_getElem? (i := 187) (by decide +kernel)⟩
theorem lw_p1 : lw_okq (⟨"WeightedClauses$Search", "visit", "(II)V"⟩, 12) := ⟨⟨by decide +kernel, by decide +kernel⟩, List.mem_of_getElem? (i := 95) (by decide +kernel), List.mem_of_getElem? (i := 190) (by decide +kernel), List.mem_of_getElem? (i := 191) (by decide +kernel)⟩
theorem lw_p2 : lw_okq (⟨"WeightedClauses$Search", "visitLeaf", "(I)V"⟩, 12) := ⟨⟨by decide +kernel, by decide +kernel⟩, List.mem_of_getElem? (i := 95) (by decide +kernel), List.mem_of_getElem? (i := 194) (by decide +kernel), List.mem_of_getElem? (i := 195) (by decide +kernel)⟩
theorem lw_p3 : lw_okq (⟨"WeightedClauses$Bounds", "nextSubset", "(II)J"⟩, 9) := ⟨⟨by decide +kernel, by decide +kernel⟩, List.mem_of_getElem? (i := 60) (by decide +kernel), List.mem_of_getElem? (i := 230) (by decide +kernel), List.mem_of_getElem? (i := 231) (by decide +kernel)⟩
theorem lw_p4 : lw_okq (⟨"WeightedClauses$Bounds", "firstFalseClause", "()I"⟩, 9) := ⟨⟨by decide +kernel, by decide +kernel⟩, List.mem_of_getElem? (i := 60) (by decide +kernel), List.mem_of_getElem? (i := 234) (by decide +kernel), List.mem_of_getElem? (i := 235) (by decide +kernel)⟩
theorem lw_p5 : lw_okq (⟨"WeightedClauses$Bounds", "isAvailable", "(I)Z"⟩, 9) := ⟨⟨by decide +kernel, by decide +kernel⟩, List.mem_of_getElem? (i := 60) (by decide +kernel), List.mem_of_getElem? (i := 238) (by decide +kernel), List.mem_of_getElem? (i := 239) (by decide +kernel)⟩
theorem lw_p6 : lw_okq (⟨"WeightedClauses$Bounds", "subsetBehind", "(I)J"⟩, 9) := ⟨⟨by decide +kernel, by decide +kernel⟩, List.mem_of_getElem? (i := 60) (by decide +kernel), List.mem_of_getElem? (i := 243) (by decide +kernel), List.mem_of_getElem? (i := 244) (by decide +kernel)⟩
theorem lw_p7 : lw_okq (⟨"WeightedClauses$Bounds", "firstUnitClause", "()I"⟩, 9) := ⟨⟨by decide +kernel, by decide +kernel⟩, List.mem_of_getElem? (i := 60) (by decide +kernel), List.mem_of_getElem? (i := 251) (by decide +kernel), List.mem_of_getElem? (i := 252) (by decide +kernel)⟩
theorem lw_p8 : lw_okq (⟨"WeightedClauses$Bounds", "growBy", "(I)V"⟩, 9) := ⟨⟨by decide +kernel, by decide +kernel⟩, List.mem_of_getElem? (i := 60) (by decide +kernel), List.mem_of_getElem? (i := 263) (by decide +kernel), List.mem_of_getElem? (i := 264) (by decide +kernel)⟩
theorem lw_p9 : lw_okq (⟨"WeightedClauses$Search", "isGivenUp", "(J)Z"⟩, 12) := ⟨⟨by decide +kernel, by decide +kernel⟩, List.mem_of_getElem? (i := 95) (by decide +kernel), List.mem_of_getElem? (i := 276) (by decide +kernel), List.mem_of_getElem? (i := 277) (by decide +kernel)⟩
theorem lw_p10 : lw_okq (⟨"WeightedClauses$Search", "putIntoLog", "(II)V"⟩, 12) := ⟨⟨by decide +kernel, by decide +kernel⟩, List.mem_of_getElem? (i := 95) (by decide +kernel), List.mem_of_getElem? (i := 280) (by decide +kernel), List.mem_of_getElem? (i := 281) (by decide +kernel)⟩
theorem lw_p11 : lw_okq (⟨"WeightedClauses$Search", "branch", "(II)V"⟩, 12) := ⟨⟨by decide +kernel, by decide +kernel⟩, List.mem_of_getElem? (i := 95) (by decide +kernel), List.mem_of_getElem? (i := 284) (by decide +kernel), List.mem_of_getElem? (i := 285) (by decide +kernel)⟩
theorem lw_p12 : lw_okq (⟨"WeightedClauses$Formula", "countHolding", "([IIJ)I"⟩, 6) := ⟨⟨by decide +kernel, by decide +kernel⟩, List.mem_of_getElem? (i := 22) (by decide +kernel), List.mem_of_getElem? (i := 293) (by decide +kernel), List.mem_of_getElem? (i := 294) (by decide +kernel)⟩
theorem lw_p13 : lw_okq (⟨"WeightedClauses", "areLiterals", "(IIII)Z"⟩, 3) := ⟨⟨by decide +kernel, by decide +kernel⟩, List.mem_of_getElem? (i := 14) (by decide +kernel), List.mem_of_getElem? (i := 340) (by decide +kernel), List.mem_of_getElem? (i := 341) (by decide +kernel)⟩
theorem lw_p14 : lw_okq (⟨"WeightedClauses", "isLiteralOrAbsent", "(I)Z"⟩, 3) := ⟨⟨by decide +kernel, by decide +kernel⟩, List.mem_of_getElem? (i := 14) (by decide +kernel), List.mem_of_getElem? (i := 344) (by decide +kernel), List.mem_of_getElem? (i := 345) (by decide +kernel)⟩
theorem lw_p15 : lw_okq (⟨"java/lang/Throwable", "fillInStackTrace", "(I)Ljava/lang/Throwable;"⟩, 6) := ⟨⟨by decide +kernel, by decide +kernel⟩, List.mem_of_getElem? (i := 398) (by decide +kernel), List.mem_of_getElem? (i := 396) (by decide +kernel), List.mem_of_getElem? (i := 397) (by decide +kernel)⟩
def lw_privs_1 : List (MethodName × Nat) := [(⟨"WeightedClauses$Search", "putWaiting", "(II)V"⟩, 12), (⟨"WeightedClauses$Search", "visit", "(II)V"⟩, 12), (⟨"WeightedClauses$Search", "visitLeaf", "(I)V"⟩, 12), (⟨"WeightedClauses$Bounds", "nextSubset", "(II)J"⟩, 9), (⟨"WeightedClauses$Bounds", "firstFalseClause", "()I"⟩, 9), (⟨"WeightedClauses$Bounds", "isAvailable", "(I)Z"⟩, 9), (⟨"WeightedClauses$Bounds", "subsetBehind", "(I)J"⟩, 9), (⟨"WeightedClauses$Bounds", "firstUnitClause", "()I"⟩, 9), (⟨"WeightedClauses$Bounds", "growBy", "(I)V"⟩, 9), (⟨"WeightedClauses$Search", "isGivenUp", "(J)Z"⟩, 12), (⟨"WeightedClauses$Search", "putIntoLog", "(II)V"⟩, 12), (⟨"WeightedClauses$Search", "branch", "(II)V"⟩, 12), (⟨"WeightedClauses$Formula", "countHolding", "([IIJ)I"⟩, 6), (⟨"WeightedClauses", "areLiterals", "(IIII)Z"⟩, 3), (⟨"WeightedClauses", "isLiteralOrAbsent", "(I)Z"⟩, 3), (⟨"java/lang/Throwable", "fillInStackTrace", "(I)Ljava/lang/Throwable;"⟩, 6)]
theorem lw_r1 : ∀ q ∈ lw_privs_1, lw_okq q := List.forall_mem_cons.mpr ⟨lw_p0, List.forall_mem_cons.mpr ⟨lw_p1, List.forall_mem_cons.mpr ⟨lw_p2, List.forall_mem_cons.mpr ⟨lw_p3, List.forall_mem_cons.mpr ⟨lw_p4, List.forall_mem_cons.mpr ⟨lw_p5, List.forall_mem_cons.mpr ⟨lw_p6, List.forall_mem_cons.mpr ⟨lw_p7, List.forall_mem_cons.mpr ⟨lw_p8, List.forall_mem_cons.mpr ⟨lw_p9, List.forall_mem_cons.mpr ⟨lw_p10, List.forall_mem_cons.mpr ⟨lw_p11, List.forall_mem_cons.mpr ⟨lw_p12, List.forall_mem_cons.mpr ⟨lw_p13, List.forall_mem_cons.mpr ⟨lw_p14, List.forall_mem_cons.mpr ⟨lw_p15, fun _ h => absurd h List.not_mem_nil⟩⟩⟩⟩⟩⟩⟩⟩⟩⟩⟩⟩⟩⟩⟩⟩
theorem lw_p16 : lw_okq (⟨"WeightedClauses", "isState", "(II)Z"⟩, 3) := ⟨⟨by decide +kernel, by decide +kernel⟩, List.mem_of_getElem? (i := 14) (by decide +kernel), List.mem_of_getElem? (i := 460) (by decide +kernel), List.mem_of_getElem? (i := 461) (by decide +kernel)⟩
theorem lw_p17 : lw_okq (⟨"WeightedClausesModel", "noLiteral", "(I)Z"⟩, 25) := ⟨⟨by decide +kernel, by decide +kernel⟩, List.mem_of_getElem? (i := 492) (by decide +kernel), List.mem_of_getElem? (i := 588) (by decide +kernel), List.mem_of_getElem? (i := 589) (by decide +kernel)⟩
theorem lw_p18 : lw_okq (⟨"WeightedClausesModel", "forget", "()V"⟩, 25) := ⟨⟨by decide +kernel, by decide +kernel⟩, List.mem_of_getElem? (i := 492) (by decide +kernel), List.mem_of_getElem? (i := 598) (by decide +kernel), List.mem_of_getElem? (i := 599) (by decide +kernel)⟩
theorem lw_p19 : lw_okq (⟨"WeightedClausesModel", "noState", "(II)Z"⟩, 25) := ⟨⟨by decide +kernel, by decide +kernel⟩, List.mem_of_getElem? (i := 492) (by decide +kernel), List.mem_of_getElem? (i := 618) (by decide +kernel), List.mem_of_getElem? (i := 619) (by decide +kernel)⟩
theorem lw_p20 : lw_okq (⟨"WeightedClausesModel", "breaks", "(II)Z"⟩, 25) := ⟨⟨by decide +kernel, by decide +kernel⟩, List.mem_of_getElem? (i := 492) (by decide +kernel), List.mem_of_getElem? (i := 622) (by decide +kernel), List.mem_of_getElem? (i := 623) (by decide +kernel)⟩
theorem lw_p21 : lw_okq (⟨"WeightedClausesModel", "isFalse", "(III)Z"⟩, 25) := ⟨⟨by decide +kernel, by decide +kernel⟩, List.mem_of_getElem? (i := 492) (by decide +kernel), List.mem_of_getElem? (i := 626) (by decide +kernel), List.mem_of_getElem? (i := 627) (by decide +kernel)⟩
theorem lw_p22 : lw_okq (⟨"WeightedClausesModel", "isTrue", "(III)Z"⟩, 25) := ⟨⟨by decide +kernel, by decide +kernel⟩, List.mem_of_getElem? (i := 492) (by decide +kernel), List.mem_of_getElem? (i := 630) (by decide +kernel), List.mem_of_getElem? (i := 631) (by decide +kernel)⟩
theorem lw_p23 : lw_okq (⟨"WeightedClausesModel", "costOf", "(II)J"⟩, 25) := ⟨⟨by decide +kernel, by decide +kernel⟩, List.mem_of_getElem? (i := 492) (by decide +kernel), List.mem_of_getElem? (i := 635) (by decide +kernel), List.mem_of_getElem? (i := 636) (by decide +kernel)⟩
theorem lw_p24 : lw_okq (⟨"WeightedClausesModel", "reckon", "(II)V"⟩, 25) := ⟨⟨by decide +kernel, by decide +kernel⟩, List.mem_of_getElem? (i := 492) (by decide +kernel), List.mem_of_getElem? (i := 643) (by decide +kernel), List.mem_of_getElem? (i := 644) (by decide +kernel)⟩
theorem lw_p25 : lw_okq (⟨"WeightedClausesModel", "isOpen", "(III)Z"⟩, 25) := ⟨⟨by decide +kernel, by decide +kernel⟩, List.mem_of_getElem? (i := 492) (by decide +kernel), List.mem_of_getElem? (i := 647) (by decide +kernel), List.mem_of_getElem? (i := 648) (by decide +kernel)⟩
theorem lw_p26 : lw_okq (⟨"WeightedClausesModel", "grow", "(II)I"⟩, 25) := ⟨⟨by decide +kernel, by decide +kernel⟩, List.mem_of_getElem? (i := 492) (by decide +kernel), List.mem_of_getElem? (i := 651) (by decide +kernel), List.mem_of_getElem? (i := 652) (by decide +kernel)⟩
theorem lw_p27 : lw_okq (⟨"WeightedClausesModel", "broken", "()I"⟩, 25) := ⟨⟨by decide +kernel, by decide +kernel⟩, List.mem_of_getElem? (i := 492) (by decide +kernel), List.mem_of_getElem? (i := 655) (by decide +kernel), List.mem_of_getElem? (i := 656) (by decide +kernel)⟩
theorem lw_p28 : lw_okq (⟨"WeightedClausesModel", "single", "()I"⟩, 25) := ⟨⟨by decide +kernel, by decide +kernel⟩, List.mem_of_getElem? (i := 492) (by decide +kernel), List.mem_of_getElem? (i := 659) (by decide +kernel), List.mem_of_getElem? (i := 660) (by decide +kernel)⟩
theorem lw_p29 : lw_okq (⟨"WeightedClausesModel", "gather", "(I)J"⟩, 25) := ⟨⟨by decide +kernel, by decide +kernel⟩, List.mem_of_getElem? (i := 492) (by decide +kernel), List.mem_of_getElem? (i := 663) (by decide +kernel), List.mem_of_getElem? (i := 664) (by decide +kernel)⟩
theorem lw_p30 : lw_okq (⟨"WeightedClausesModel", "firstOf", "(II)I"⟩, 25) := ⟨⟨by decide +kernel, by decide +kernel⟩, List.mem_of_getElem? (i := 492) (by decide +kernel), List.mem_of_getElem? (i := 675) (by decide +kernel), List.mem_of_getElem? (i := 676) (by decide +kernel)⟩
theorem lw_p31 : lw_okq (⟨"WeightedClausesModel", "line", "(II)V"⟩, 25) := ⟨⟨by decide +kernel, by decide +kernel⟩, List.mem_of_getElem? (i := 492) (by decide +kernel), List.mem_of_getElem? (i := 683) (by decide +kernel), List.mem_of_getElem? (i := 684) (by decide +kernel)⟩
def lw_privs_2 : List (MethodName × Nat) := [(⟨"WeightedClauses", "isState", "(II)Z"⟩, 3), (⟨"WeightedClausesModel", "noLiteral", "(I)Z"⟩, 25), (⟨"WeightedClausesModel", "forget", "()V"⟩, 25), (⟨"WeightedClausesModel", "noState", "(II)Z"⟩, 25), (⟨"WeightedClausesModel", "breaks", "(II)Z"⟩, 25), (⟨"WeightedClausesModel", "isFalse", "(III)Z"⟩, 25), (⟨"WeightedClausesModel", "isTrue", "(III)Z"⟩, 25), (⟨"WeightedClausesModel", "costOf", "(II)J"⟩, 25), (⟨"WeightedClausesModel", "reckon", "(II)V"⟩, 25), (⟨"WeightedClausesModel", "isOpen", "(III)Z"⟩, 25), (⟨"WeightedClausesModel", "grow", "(II)I"⟩, 25), (⟨"WeightedClausesModel", "broken", "()I"⟩, 25), (⟨"WeightedClausesModel", "single", "()I"⟩, 25), (⟨"WeightedClausesModel", "gather", "(I)J"⟩, 25), (⟨"WeightedClausesModel", "firstOf", "(II)I"⟩, 25), (⟨"WeightedClausesModel", "line", "(II)V"⟩, 25)]
theorem lw_r2 : ∀ q ∈ lw_privs_2, lw_okq q := List.forall_mem_cons.mpr ⟨lw_p16, List.forall_mem_cons.mpr ⟨lw_p17, List.forall_mem_cons.mpr ⟨lw_p18, List.forall_mem_cons.mpr ⟨lw_p19, List.forall_mem_cons.mpr ⟨lw_p20, List.forall_mem_cons.mpr ⟨lw_p21, List.forall_mem_cons.mpr ⟨lw_p22, List.forall_mem_cons.mpr ⟨lw_p23, List.forall_mem_cons.mpr ⟨lw_p24, List.forall_mem_cons.mpr ⟨lw_p25, List.forall_mem_cons.mpr ⟨lw_p26, List.forall_mem_cons.mpr ⟨lw_p27, List.forall_mem_cons.mpr ⟨lw_p28, List.forall_mem_cons.mpr ⟨lw_p29, List.forall_mem_cons.mpr ⟨lw_p30, List.forall_mem_cons.mpr ⟨lw_p31, fun _ h => absurd h List.not_mem_nil⟩⟩⟩⟩⟩⟩⟩⟩⟩⟩⟩⟩⟩⟩⟩⟩
theorem lw_p32 : lw_okq (⟨"WeightedClausesModel", "node", "(II)V"⟩, 25) := ⟨⟨by decide +kernel, by decide +kernel⟩, List.mem_of_getElem? (i := 492) (by decide +kernel), List.mem_of_getElem? (i := 687) (by decide +kernel), List.mem_of_getElem? (i := 688) (by decide +kernel)⟩
def lw_privs_3 : List (MethodName × Nat) := [(⟨"WeightedClausesModel", "node", "(II)V"⟩, 25)]
theorem lw_r3 : ∀ q ∈ lw_privs_3, lw_okq q := List.forall_mem_cons.mpr ⟨lw_p32, fun _ h => absurd h List.not_mem_nil⟩
def lw_privs : List (MethodName × Nat) := lw_privs_1 ++ (lw_privs_2 ++ (lw_privs_3))
def lw_tbl : List Cond := k2_sels lw_privs ++ tables_1
theorem lw_privs_ok : ∀ q ∈ lw_privs, lw_okq q := by
  show ∀ q ∈ lw_privs_1 ++ (lw_privs_2 ++ (lw_privs_3)), lw_okq q
  exact List.forall_mem_append.mpr ⟨lw_r1, List.forall_mem_append.mpr ⟨lw_r2, lw_r3⟩⟩
/-- the words that stay true while the tables only warm -/
def xtb : List Cond := lw_tbl.filter goodWord
theorem xtb_good (w : Cond) (h : w ∈ xtb) : (w.onTables && w.keeps) = true ∨ ∃ ty, w = .arrayClass ty := good_of_word (List.mem_filter.mp h).2
theorem xtb_in {w : Cond} (h : w ∈ xtb) : w ∈ lw_tbl := (List.mem_filter.mp h).1
theorem xtb_of {w : Cond} (k : Nat) (h : lw_tbl[k]? = some w) (hg : goodWord w = true) : w ∈ xtb := List.mem_filter.mpr ⟨List.mem_of_getElem? h, hg⟩
/-! names, fields, word lists (by my own program, out of the claim's texts) -/
def RX0 : String := "WeightedClauses$Bounds"
def TX0 : u_T := fun k => match k with
  | 0 => ("WeightedClauses$Bounds", "formula", "LWeightedClauses$Formula;", true)
  | 1 => ("WeightedClauses$Bounds", "subsets", "[J", true)
  | 2 => ("WeightedClauses$Bounds", "subsetCount", "I", false)
  | 3 => ("WeightedClauses$Bounds", "available", "J", false)
  | 4 => ("WeightedClauses$Bounds", "grownHave", "I", false)
  | 5 => ("WeightedClauses$Bounds", "grownValues", "I", false)
  | 6 => ("WeightedClauses$Bounds", "stepVariable", "[I", true)
  | 7 => ("WeightedClauses$Bounds", "stepReason", "[I", true)
  | _ => ("WeightedClauses$Bounds", "stepCount", "I", false)
def tyX0 : Nat → FieldType := fun k => match k with
  | 0 => .object "WeightedClauses$Formula"
  | 1 => .array .long
  | 2 => .int
  | 3 => .long
  | 4 => .int
  | 5 => .int
  | 6 => .array .int
  | 7 => .array .int
  | _ => .int
theorem nX0 : ∀ a, a < 9 → ∀ b, b < 9 → a ≠ b → (TX0 a).2.1 ≠ (TX0 b).2.1 := by decide +kernel
theorem tyX0_ok : ∀ k, k < 9 → parseFieldDescriptor (TX0 k).2.2.1 = some (tyX0 k) := by decide +kernel
def RX1 : String := "WeightedClauses$Formula"
def TX1 : u_T := fun k => match k with
  | 0 => ("WeightedClauses$Formula", "variableCount", "I", true)
  | 1 => ("WeightedClauses$Formula", "allVariables", "I", true)
  | 2 => ("WeightedClauses$Formula", "clauseCount", "I", false)
  | 3 => ("WeightedClauses$Formula", "makesTrue", "[I", true)
  | 4 => ("WeightedClauses$Formula", "makesFalse", "[I", true)
  | _ => ("WeightedClauses$Formula", "weights", "[I", true)
def tyX1 : Nat → FieldType := fun k => match k with
  | 0 => .int
  | 1 => .int
  | 2 => .int
  | 3 => .array .int
  | 4 => .array .int
  | _ => .array .int
theorem nX1 : ∀ a, a < 6 → ∀ b, b < 6 → a ≠ b → (TX1 a).2.1 ≠ (TX1 b).2.1 := by decide +kernel
theorem tyX1_ok : ∀ k, k < 6 → parseFieldDescriptor (TX1 k).2.2.1 = some (tyX1 k) := by decide +kernel
def RX2 : String := "WeightedClauses$Search"
def TX2 : u_T := fun k => match k with
  | 0 => ("WeightedClauses$Search", "nodeCount", "I", false)
  | 1 => ("WeightedClauses$Search", "logCount", "I", false)
  | 2 => ("WeightedClauses$Search", "bestCost", "J", false)
  | 3 => ("WeightedClauses$Search", "bestValues", "I", false)
  | 4 => ("WeightedClauses$Search", "logHave", "[I", true)
  | 5 => ("WeightedClauses$Search", "logValues", "[I", true)
  | 6 => ("WeightedClauses$Search", "logBest", "[J", true)
  | 7 => ("WeightedClauses$Search", "formula", "LWeightedClauses$Formula;", true)
  | 8 => ("WeightedClauses$Search", "bounds", "LWeightedClauses$Bounds;", true)
  | 9 => ("WeightedClauses$Search", "waitingHave", "[I", true)
  | 10 => ("WeightedClauses$Search", "waitingValues", "[I", true)
  | _ => ("WeightedClauses$Search", "waitingCount", "I", false)
def tyX2 : Nat → FieldType := fun k => match k with
  | 0 => .int
  | 1 => .int
  | 2 => .long
  | 3 => .int
  | 4 => .array .int
  | 5 => .array .int
  | 6 => .array .long
  | 7 => .object "WeightedClauses$Formula"
  | 8 => .object "WeightedClauses$Bounds"
  | 9 => .array .int
  | 10 => .array .int
  | _ => .int
theorem nX2 : ∀ a, a < 12 → ∀ b, b < 12 → a ≠ b → (TX2 a).2.1 ≠ (TX2 b).2.1 := by decide +kernel
theorem tyX2_ok : ∀ k, k < 12 → parseFieldDescriptor (TX2 k).2.2.1 = some (tyX2 k) := by decide +kernel
def RX3 : String := "WeightedClauses"
def TX3 : u_T := fun k => match k with
  | 0 => ("WeightedClauses", "formula", "LWeightedClauses$Formula;", true)
  | 1 => ("WeightedClauses", "bounds", "LWeightedClauses$Bounds;", true)
  | _ => ("WeightedClauses", "search", "LWeightedClauses$Search;", true)
def tyX3 : Nat → FieldType := fun k => match k with
  | 0 => .object "WeightedClauses$Formula"
  | 1 => .object "WeightedClauses$Bounds"
  | _ => .object "WeightedClauses$Search"
theorem nX3 : ∀ a, a < 3 → ∀ b, b < 3 → a ≠ b → (TX3 a).2.1 ≠ (TX3 b).2.1 := by decide +kernel
theorem tyX3_ok : ∀ k, k < 3 → parseFieldDescriptor (TX3 k).2.2.1 = some (tyX3 k) := by decide +kernel
def RX4 : String := "WeightedClausesModel"
def TX4 : u_T := fun k => match k with
  | 0 => ("WeightedClausesModel", "code", "I", false)
  | 1 => ("WeightedClausesModel", "variables", "I", true)
  | 2 => ("WeightedClausesModel", "clauses", "I", false)
  | 3 => ("WeightedClausesModel", "yes", "[I", true)
  | 4 => ("WeightedClausesModel", "no", "[I", true)
  | 5 => ("WeightedClausesModel", "weights", "[I", true)
  | 6 => ("WeightedClausesModel", "hopeless", "Z", false)
  | 7 => ("WeightedClausesModel", "bound", "J", false)
  | 8 => ("WeightedClausesModel", "subsets", "I", false)
  | 9 => ("WeightedClausesModel", "subset", "[J", true)
  | 10 => ("WeightedClausesModel", "available", "[Z", true)
  | 11 => ("WeightedClausesModel", "reason", "[I", true)
  | 12 => ("WeightedClausesModel", "grownHave", "I", false)
  | 13 => ("WeightedClausesModel", "grownValues", "I", false)
  | 14 => ("WeightedClausesModel", "found", "Z", false)
  | 15 => ("WeightedClausesModel", "bestValues", "I", false)
  | 16 => ("WeightedClausesModel", "bestCost", "J", false)
  | 17 => ("WeightedClausesModel", "nodes", "I", false)
  | 18 => ("WeightedClausesModel", "logs", "I", false)
  | 19 => ("WeightedClausesModel", "logHave", "[I", true)
  | 20 => ("WeightedClausesModel", "logValues", "[I", true)
  | 21 => ("WeightedClausesModel", "logBest", "[J", true)
  | 22 => ("WeightedClausesModel", "waiting", "I", false)
  | 23 => ("WeightedClausesModel", "waitHave", "[I", true)
  | _ => ("WeightedClausesModel", "waitValues", "[I", true)
def tyX4 : Nat → FieldType := fun k => match k with
  | 0 => .int
  | 1 => .int
  | 2 => .int
  | 3 => .array .int
  | 4 => .array .int
  | 5 => .array .int
  | 6 => .boolean
  | 7 => .long
  | 8 => .int
  | 9 => .array .long
  | 10 => .array .boolean
  | 11 => .array .int
  | 12 => .int
  | 13 => .int
  | 14 => .boolean
  | 15 => .int
  | 16 => .long
  | 17 => .int
  | 18 => .int
  | 19 => .array .int
  | 20 => .array .int
  | 21 => .array .long
  | 22 => .int
  | 23 => .array .int
  | _ => .array .int
theorem nX4 : ∀ a, a < 25 → ∀ b, b < 25 → a ≠ b → (TX4 a).2.1 ≠ (TX4 b).2.1 := by decide +kernel
theorem tyX4_ok : ∀ k, k < 25 → parseFieldDescriptor (TX4 k).2.2.1 = some (tyX4 k) := by decide +kernel
def RL : String := "WeightedClausesLaw"
def RJ6 : String := "java/lang/Integer"
abbrev vwCl : List vw_C := [(RX0, TX0, 9), (RX1, TX1, 6), (RX2, TX2, 12), (RX3, TX3, 3), (RX4, TX4, 25)]
abbrev cX0_init : ByteArray := prog_2_method_1_code
def yX0_init : MethodName := ⟨RX0, "<init>", "(LWeightedClauses$Formula;)V"⟩
def wsX0_init : List Cond := .code yX0_init cX0_init 2 none :: xtb
abbrev cX0_boundOf : ByteArray := prog_2_method_2_code
def yX0_boundOf : MethodName := ⟨RX0, "boundOf", "(II)J"⟩
def wsX0_boundOf : List Cond := .code yX0_boundOf cX0_boundOf 9 (some .long) :: xtb
abbrev cX0_subsetAt : ByteArray := prog_2_method_3_code
def yX0_subsetAt : MethodName := ⟨RX0, "subsetAt", "(I)J"⟩
def wsX0_subsetAt : List Cond := .code yX0_subsetAt cX0_subsetAt 2 (some .long) :: xtb
abbrev cX0_nextSubset : ByteArray := prog_2_method_4_code
def yX0_nextSubset : MethodName := ⟨RX0, "nextSubset", "(II)J"⟩
def wsX0_nextSubset : List Cond := .code yX0_nextSubset cX0_nextSubset 6 (some .long) :: xtb
abbrev cX0_isAvailable : ByteArray := prog_2_method_5_code
def yX0_isAvailable : MethodName := ⟨RX0, "isAvailable", "(I)Z"⟩
def wsX0_isAvailable : List Cond := .code yX0_isAvailable cX0_isAvailable 2 (some .boolean) :: xtb
abbrev cX0_firstFalseClause : ByteArray := prog_2_method_6_code
def yX0_firstFalseClause : MethodName := ⟨RX0, "firstFalseClause", "()I"⟩
def wsX0_firstFalseClause : List Cond := .code yX0_firstFalseClause cX0_firstFalseClause 2 (some .int) :: xtb
abbrev cX0_firstUnitClause : ByteArray := prog_2_method_7_code
def yX0_firstUnitClause : MethodName := ⟨RX0, "firstUnitClause", "()I"⟩
def wsX0_firstUnitClause : List Cond := .code yX0_firstUnitClause cX0_firstUnitClause 3 (some .int) :: xtb
abbrev cX0_growBy : ByteArray := prog_2_method_8_code
def yX0_growBy : MethodName := ⟨RX0, "growBy", "(I)V"⟩
def wsX0_growBy : List Cond := .code yX0_growBy cX0_growBy 3 none :: xtb
abbrev cX0_subsetBehind : ByteArray := prog_2_method_9_code
def yX0_subsetBehind : MethodName := ⟨RX0, "subsetBehind", "(I)J"⟩
def wsX0_subsetBehind : List Cond := .code yX0_subsetBehind cX0_subsetBehind 6 (some .long) :: xtb
abbrev cX1_init : ByteArray := prog_3_method_1_code
def yX1_init : MethodName := ⟨RX1, "<init>", "(I)V"⟩
def wsX1_init : List Cond := .code yX1_init cX1_init 2 none :: xtb
abbrev cX1_add : ByteArray := prog_3_method_2_code
def yX1_add : MethodName := ⟨RX1, "add", "(III)I"⟩
def wsX1_add : List Cond := .code yX1_add cX1_add 5 (some .int) :: xtb
abbrev cX1_removeLast : ByteArray := prog_3_method_3_code
def yX1_removeLast : MethodName := ⟨RX1, "removeLast", "()I"⟩
def wsX1_removeLast : List Cond := .code yX1_removeLast cX1_removeLast 1 (some .int) :: xtb
abbrev cX1_replaceWeight : ByteArray := prog_3_method_4_code
def yX1_replaceWeight : MethodName := ⟨RX1, "replaceWeight", "(II)I"⟩
def wsX1_replaceWeight : List Cond := .code yX1_replaceWeight cX1_replaceWeight 4 (some .int) :: xtb
abbrev cX1_variablesOf : ByteArray := prog_3_method_5_code
def yX1_variablesOf : MethodName := ⟨RX1, "variablesOf", "(I)I"⟩
def wsX1_variablesOf : List Cond := .code yX1_variablesOf cX1_variablesOf 2 (some .int) :: xtb
abbrev cX1_withoutValue : ByteArray := prog_3_method_6_code
def yX1_withoutValue : MethodName := ⟨RX1, "withoutValue", "(II)I"⟩
def wsX1_withoutValue : List Cond := .code yX1_withoutValue cX1_withoutValue 3 (some .int) :: xtb
abbrev cX1_literalsSayingTrue : ByteArray := prog_3_method_7_code
def yX1_literalsSayingTrue : MethodName := ⟨RX1, "literalsSayingTrue", "(I)I"⟩
def wsX1_literalsSayingTrue : List Cond := .code yX1_literalsSayingTrue cX1_literalsSayingTrue 2 (some .int) :: xtb
abbrev cX1_isTrue : ByteArray := prog_3_method_8_code
def yX1_isTrue : MethodName := ⟨RX1, "isTrue", "(III)Z"⟩
def wsX1_isTrue : List Cond := .code yX1_isTrue cX1_isTrue 4 (some .boolean) :: xtb
abbrev cX1_isFalse : ByteArray := prog_3_method_9_code
def yX1_isFalse : MethodName := ⟨RX1, "isFalse", "(III)Z"⟩
def wsX1_isFalse : List Cond := .code yX1_isFalse cX1_isFalse 5 (some .boolean) :: xtb
abbrev cX1_openClauses : ByteArray := prog_3_method_10_code
def yX1_openClauses : MethodName := ⟨RX1, "openClauses", "(II)J"⟩
def wsX1_openClauses : List Cond := .code yX1_openClauses cX1_openClauses 6 (some .long) :: xtb
abbrev cX1_costOf : ByteArray := prog_3_method_11_code
def yX1_costOf : MethodName := ⟨RX1, "costOf", "(II)J"⟩
def wsX1_costOf : List Cond := .code yX1_costOf cX1_costOf 6 (some .long) :: xtb
abbrev cX1_lightestWeight : ByteArray := prog_3_method_12_code
def yX1_lightestWeight : MethodName := ⟨RX1, "lightestWeight", "(J)I"⟩
def wsX1_lightestWeight : List Cond := .code yX1_lightestWeight cX1_lightestWeight 6 (some .int) :: xtb
abbrev cX1_firstLiteral : ByteArray := prog_3_method_13_code
def yX1_firstLiteral : MethodName := ⟨RX1, "firstLiteral", "(II)I"⟩
def wsX1_firstLiteral : List Cond := .code yX1_firstLiteral cX1_firstLiteral 10 (some .int) :: xtb
abbrev cX1_countHolding : ByteArray := prog_3_method_14_code
def yX1_countHolding : MethodName := ⟨RX1, "countHolding", "([IIJ)I"⟩
def wsX1_countHolding : List Cond := .code yX1_countHolding cX1_countHolding 7 (some .int) :: xtb
abbrev cX2_init : ByteArray := prog_4_method_1_code
def yX2_init : MethodName := ⟨RX2, "<init>", "(LWeightedClauses$Formula;LWeightedClauses$Bounds;)V"⟩
def wsX2_init : List Cond := .code yX2_init cX2_init 4 none :: xtb
abbrev cX2_forget : ByteArray := prog_4_method_2_code
def yX2_forget : MethodName := ⟨RX2, "forget", "()V"⟩
def wsX2_forget : List Cond := .code yX2_forget cX2_forget 1 none :: xtb
abbrev cX2_run : ByteArray := prog_4_method_3_code
def yX2_run : MethodName := ⟨RX2, "run", "()V"⟩
def wsX2_run : List Cond := .code yX2_run cX2_run 2 none :: xtb
abbrev cX2_hasBest : ByteArray := prog_4_method_4_code
def yX2_hasBest : MethodName := ⟨RX2, "hasBest", "()Z"⟩
def wsX2_hasBest : List Cond := .code yX2_hasBest cX2_hasBest 1 (some .boolean) :: xtb
abbrev cX2_isLogged : ByteArray := prog_4_method_5_code
def yX2_isLogged : MethodName := ⟨RX2, "isLogged", "(I)Z"⟩
def wsX2_isLogged : List Cond := .code yX2_isLogged cX2_isLogged 2 (some .boolean) :: xtb
abbrev cX2_putWaiting : ByteArray := prog_4_method_6_code
def yX2_putWaiting : MethodName := ⟨RX2, "putWaiting", "(II)V"⟩
def wsX2_putWaiting : List Cond := .code yX2_putWaiting cX2_putWaiting 3 none :: xtb
abbrev cX2_visit : ByteArray := prog_4_method_7_code
def yX2_visit : MethodName := ⟨RX2, "visit", "(II)V"⟩
def wsX2_visit : List Cond := .code yX2_visit cX2_visit 3 none :: xtb
abbrev cX2_visitLeaf : ByteArray := prog_4_method_8_code
def yX2_visitLeaf : MethodName := ⟨RX2, "visitLeaf", "(I)V"⟩
def wsX2_visitLeaf : List Cond := .code yX2_visitLeaf cX2_visitLeaf 4 none :: xtb
abbrev cX2_isGivenUp : ByteArray := prog_4_method_9_code
def yX2_isGivenUp : MethodName := ⟨RX2, "isGivenUp", "(J)Z"⟩
def wsX2_isGivenUp : List Cond := .code yX2_isGivenUp cX2_isGivenUp 3 (some .boolean) :: xtb
abbrev cX2_putIntoLog : ByteArray := prog_4_method_10_code
def yX2_putIntoLog : MethodName := ⟨RX2, "putIntoLog", "(II)V"⟩
def wsX2_putIntoLog : List Cond := .code yX2_putIntoLog cX2_putIntoLog 3 none :: xtb
abbrev cX2_branch : ByteArray := prog_4_method_11_code
def yX2_branch : MethodName := ⟨RX2, "branch", "(II)V"⟩
def wsX2_branch : List Cond := .code yX2_branch cX2_branch 7 none :: xtb
abbrev cX3_init : ByteArray := prog_1_method_1_code
def yX3_init : MethodName := ⟨RX3, "<init>", "(I)V"⟩
def wsX3_init : List Cond := .code yX3_init cX3_init 2 none :: xtb
abbrev cX3_variables : ByteArray := prog_1_method_2_code
def yX3_variables : MethodName := ⟨RX3, "variables", "()I"⟩
def wsX3_variables : List Cond := .code yX3_variables cX3_variables 1 (some .int) :: xtb
abbrev cX3_clause : ByteArray := prog_1_method_3_code
def yX3_clause : MethodName := ⟨RX3, "clause", "(IIIII)I"⟩
def wsX3_clause : List Cond := .code yX3_clause cX3_clause 8 (some .int) :: xtb
abbrev cX3_drop : ByteArray := prog_1_method_4_code
def yX3_drop : MethodName := ⟨RX3, "drop", "()I"⟩
def wsX3_drop : List Cond := .code yX3_drop cX3_drop 1 (some .int) :: xtb
abbrev cX3_weigh : ByteArray := prog_1_method_5_code
def yX3_weigh : MethodName := ⟨RX3, "weigh", "(II)I"⟩
def wsX3_weigh : List Cond := .code yX3_weigh cX3_weigh 3 (some .int) :: xtb
abbrev cX3_clauses : ByteArray := prog_1_method_6_code
def yX3_clauses : MethodName := ⟨RX3, "clauses", "()I"⟩
def wsX3_clauses : List Cond := .code yX3_clauses cX3_clauses 1 (some .int) :: xtb
abbrev cX3_cost : ByteArray := prog_1_method_7_code
def yX3_cost : MethodName := ⟨RX3, "cost", "(II)J"⟩
def wsX3_cost : List Cond := .code yX3_cost cX3_cost 3 (some .long) :: xtb
abbrev cX3_bound : ByteArray := prog_1_method_8_code
def yX3_bound : MethodName := ⟨RX3, "bound", "(II)J"⟩
def wsX3_bound : List Cond := .code yX3_bound cX3_bound 3 (some .long) :: xtb
abbrev cX3_subset : ByteArray := prog_1_method_9_code
def yX3_subset : MethodName := ⟨RX3, "subset", "(III)J"⟩
def wsX3_subset : List Cond := .code yX3_subset cX3_subset 4 (some .long) :: xtb
abbrev cX3_first : ByteArray := prog_1_method_10_code
def yX3_first : MethodName := ⟨RX3, "first", "(II)I"⟩
def wsX3_first : List Cond := .code yX3_first cX3_first 3 (some .int) :: xtb
abbrev cX3_solve : ByteArray := prog_1_method_11_code
def yX3_solve : MethodName := ⟨RX3, "solve", "()J"⟩
def wsX3_solve : List Cond := .code yX3_solve cX3_solve 1 (some .long) :: xtb
abbrev cX3_value : ByteArray := prog_1_method_12_code
def yX3_value : MethodName := ⟨RX3, "value", "(I)I"⟩
def wsX3_value : List Cond := .code yX3_value cX3_value 2 (some .int) :: xtb
abbrev cX3_nodes : ByteArray := prog_1_method_13_code
def yX3_nodes : MethodName := ⟨RX3, "nodes", "()I"⟩
def wsX3_nodes : List Cond := .code yX3_nodes cX3_nodes 1 (some .int) :: xtb
abbrev cX3_logged : ByteArray := prog_1_method_14_code
def yX3_logged : MethodName := ⟨RX3, "logged", "()I"⟩
def wsX3_logged : List Cond := .code yX3_logged cX3_logged 1 (some .int) :: xtb
abbrev cX3_log : ByteArray := prog_1_method_15_code
def yX3_log : MethodName := ⟨RX3, "log", "(II)I"⟩
def wsX3_log : List Cond := .code yX3_log cX3_log 3 (some .int) :: xtb
abbrev cX3_best : ByteArray := prog_1_method_16_code
def yX3_best : MethodName := ⟨RX3, "best", "(I)J"⟩
def wsX3_best : List Cond := .code yX3_best cX3_best 2 (some .long) :: xtb
abbrev cX3_isWeight : ByteArray := prog_1_method_17_code
def yX3_isWeight : MethodName := ⟨RX3, "isWeight", "(I)Z"⟩
def wsX3_isWeight : List Cond := .code yX3_isWeight cX3_isWeight 1 (some .boolean) :: xtb
abbrev cX3_isState : ByteArray := prog_1_method_18_code
def yX3_isState : MethodName := ⟨RX3, "isState", "(II)Z"⟩
def wsX3_isState : List Cond := .code yX3_isState cX3_isState 3 (some .boolean) :: xtb
abbrev cX3_areLiterals : ByteArray := prog_1_method_19_code
def yX3_areLiterals : MethodName := ⟨RX3, "areLiterals", "(IIII)Z"⟩
def wsX3_areLiterals : List Cond := .code yX3_areLiterals cX3_areLiterals 7 (some .boolean) :: xtb
abbrev cX3_isLiteralOrAbsent : ByteArray := prog_1_method_20_code
def yX3_isLiteralOrAbsent : MethodName := ⟨RX3, "isLiteralOrAbsent", "(I)Z"⟩
def wsX3_isLiteralOrAbsent : List Cond := .code yX3_isLiteralOrAbsent cX3_isLiteralOrAbsent 2 (some .boolean) :: xtb
abbrev cX3_countIfPresent : ByteArray := prog_1_method_21_code
def yX3_countIfPresent : MethodName := ⟨RX3, "countIfPresent", "(I)I"⟩
def wsX3_countIfPresent : List Cond := .code yX3_countIfPresent cX3_countIfPresent 1 (some .int) :: xtb
abbrev cX3_variableBit : ByteArray := prog_1_method_22_code
def yX3_variableBit : MethodName := ⟨RX3, "variableBit", "(I)I"⟩
def wsX3_variableBit : List Cond := .code yX3_variableBit cX3_variableBit 1 (some .int) :: xtb
abbrev cX3_bitIfTrue : ByteArray := prog_1_method_23_code
def yX3_bitIfTrue : MethodName := ⟨RX3, "bitIfTrue", "(I)I"⟩
def wsX3_bitIfTrue : List Cond := .code yX3_bitIfTrue cX3_bitIfTrue 1 (some .int) :: xtb
abbrev cX3_bitIfFalse : ByteArray := prog_1_method_24_code
def yX3_bitIfFalse : MethodName := ⟨RX3, "bitIfFalse", "(I)I"⟩
def wsX3_bitIfFalse : List Cond := .code yX3_bitIfFalse cX3_bitIfFalse 1 (some .int) :: xtb
abbrev cX4_init : ByteArray := prog_6_method_1_code
def yX4_init : MethodName := ⟨RX4, "<init>", "(I)V"⟩
def wsX4_init : List Cond := .code yX4_init cX4_init 2 none :: xtb
abbrev cX4_thrown : ByteArray := prog_6_method_2_code
def yX4_thrown : MethodName := ⟨RX4, "thrown", "()I"⟩
def wsX4_thrown : List Cond := .code yX4_thrown cX4_thrown 1 (some .int) :: xtb
abbrev cX4_variables : ByteArray := prog_6_method_3_code
def yX4_variables : MethodName := ⟨RX4, "variables", "()I"⟩
def wsX4_variables : List Cond := .code yX4_variables cX4_variables 1 (some .int) :: xtb
abbrev cX4_forget : ByteArray := prog_6_method_4_code
def yX4_forget : MethodName := ⟨RX4, "forget", "()V"⟩
def wsX4_forget : List Cond := .code yX4_forget cX4_forget 1 none :: xtb
abbrev cX4_noLiteral : ByteArray := prog_6_method_5_code
def yX4_noLiteral : MethodName := ⟨RX4, "noLiteral", "(I)Z"⟩
def wsX4_noLiteral : List Cond := .code yX4_noLiteral cX4_noLiteral 2 (some .boolean) :: xtb
abbrev cX4_says : ByteArray := prog_6_method_6_code
def yX4_says : MethodName := ⟨RX4, "says", "(II)I"⟩
def wsX4_says : List Cond := .code yX4_says cX4_says 2 (some .int) :: xtb
abbrev cX4_count : ByteArray := prog_6_method_7_code
def yX4_count : MethodName := ⟨RX4, "count", "(I)I"⟩
def wsX4_count : List Cond := .code yX4_count cX4_count 3 (some .int) :: xtb
abbrev cX4_clause : ByteArray := prog_6_method_8_code
def yX4_clause : MethodName := ⟨RX4, "clause", "(IIIII)I"⟩
def wsX4_clause : List Cond := .code yX4_clause cX4_clause 10 (some .int) :: xtb
abbrev cX4_drop : ByteArray := prog_6_method_9_code
def yX4_drop : MethodName := ⟨RX4, "drop", "()I"⟩
def wsX4_drop : List Cond := .code yX4_drop cX4_drop 1 (some .int) :: xtb
abbrev cX4_weigh : ByteArray := prog_6_method_10_code
def yX4_weigh : MethodName := ⟨RX4, "weigh", "(II)I"⟩
def wsX4_weigh : List Cond := .code yX4_weigh cX4_weigh 4 (some .int) :: xtb
abbrev cX4_clauses : ByteArray := prog_6_method_11_code
def yX4_clauses : MethodName := ⟨RX4, "clauses", "()I"⟩
def wsX4_clauses : List Cond := .code yX4_clauses cX4_clauses 1 (some .int) :: xtb
abbrev cX4_noState : ByteArray := prog_6_method_12_code
def yX4_noState : MethodName := ⟨RX4, "noState", "(II)Z"⟩
def wsX4_noState : List Cond := .code yX4_noState cX4_noState 3 (some .boolean) :: xtb
abbrev cX4_isTrue : ByteArray := prog_6_method_13_code
def yX4_isTrue : MethodName := ⟨RX4, "isTrue", "(III)Z"⟩
def wsX4_isTrue : List Cond := .code yX4_isTrue cX4_isTrue 4 (some .boolean) :: xtb
abbrev cX4_isFalse : ByteArray := prog_6_method_14_code
def yX4_isFalse : MethodName := ⟨RX4, "isFalse", "(III)Z"⟩
def wsX4_isFalse : List Cond := .code yX4_isFalse cX4_isFalse 4 (some .boolean) :: xtb
abbrev cX4_isOpen : ByteArray := prog_6_method_15_code
def yX4_isOpen : MethodName := ⟨RX4, "isOpen", "(III)Z"⟩
def wsX4_isOpen : List Cond := .code yX4_isOpen cX4_isOpen 4 (some .boolean) :: xtb
abbrev cX4_costOf : ByteArray := prog_6_method_16_code
def yX4_costOf : MethodName := ⟨RX4, "costOf", "(II)J"⟩
def wsX4_costOf : List Cond := .code yX4_costOf cX4_costOf 6 (some .long) :: xtb
abbrev cX4_breaks : ByteArray := prog_6_method_17_code
def yX4_breaks : MethodName := ⟨RX4, "breaks", "(II)Z"⟩
def wsX4_breaks : List Cond := .code yX4_breaks cX4_breaks 5 (some .boolean) :: xtb
abbrev cX4_cost : ByteArray := prog_6_method_18_code
def yX4_cost : MethodName := ⟨RX4, "cost", "(II)J"⟩
def wsX4_cost : List Cond := .code yX4_cost cX4_cost 3 (some .long) :: xtb
abbrev cX4_broken : ByteArray := prog_6_method_19_code
def yX4_broken : MethodName := ⟨RX4, "broken", "()I"⟩
def wsX4_broken : List Cond := .code yX4_broken cX4_broken 2 (some .int) :: xtb
abbrev cX4_single : ByteArray := prog_6_method_20_code
def yX4_single : MethodName := ⟨RX4, "single", "()I"⟩
def wsX4_single : List Cond := .code yX4_single cX4_single 2 (some .int) :: xtb
abbrev cX4_grow : ByteArray := prog_6_method_21_code
def yX4_grow : MethodName := ⟨RX4, "grow", "(II)I"⟩
def wsX4_grow : List Cond := .code yX4_grow cX4_grow 7 (some .int) :: xtb
abbrev cX4_gather : ByteArray := prog_6_method_22_code
def yX4_gather : MethodName := ⟨RX4, "gather", "(I)J"⟩
def wsX4_gather : List Cond := .code yX4_gather cX4_gather 10 (some .long) :: xtb
abbrev cX4_reckon : ByteArray := prog_6_method_23_code
def yX4_reckon : MethodName := ⟨RX4, "reckon", "(II)V"⟩
def wsX4_reckon : List Cond := .code yX4_reckon cX4_reckon 9 none :: xtb
abbrev cX4_bound : ByteArray := prog_6_method_24_code
def yX4_bound : MethodName := ⟨RX4, "bound", "(II)J"⟩
def wsX4_bound : List Cond := .code yX4_bound cX4_bound 3 (some .long) :: xtb
abbrev cX4_subset : ByteArray := prog_6_method_25_code
def yX4_subset : MethodName := ⟨RX4, "subset", "(III)J"⟩
def wsX4_subset : List Cond := .code yX4_subset cX4_subset 4 (some .long) :: xtb
abbrev cX4_firstOf : ByteArray := prog_6_method_26_code
def yX4_firstOf : MethodName := ⟨RX4, "firstOf", "(II)I"⟩
def wsX4_firstOf : List Cond := .code yX4_firstOf cX4_firstOf 10 (some .int) :: xtb
abbrev cX4_first : ByteArray := prog_6_method_27_code
def yX4_first : MethodName := ⟨RX4, "first", "(II)I"⟩
def wsX4_first : List Cond := .code yX4_first cX4_first 3 (some .int) :: xtb
abbrev cX4_line : ByteArray := prog_6_method_28_code
def yX4_line : MethodName := ⟨RX4, "line", "(II)V"⟩
def wsX4_line : List Cond := .code yX4_line cX4_line 3 none :: xtb
abbrev cX4_node : ByteArray := prog_6_method_29_code
def yX4_node : MethodName := ⟨RX4, "node", "(II)V"⟩
def wsX4_node : List Cond := .code yX4_node cX4_node 5 none :: xtb
abbrev cX4_solve : ByteArray := prog_6_method_30_code
def yX4_solve : MethodName := ⟨RX4, "solve", "()J"⟩
def wsX4_solve : List Cond := .code yX4_solve cX4_solve 1 (some .long) :: xtb
abbrev cX4_value : ByteArray := prog_6_method_31_code
def yX4_value : MethodName := ⟨RX4, "value", "(I)I"⟩
def wsX4_value : List Cond := .code yX4_value cX4_value 2 (some .int) :: xtb
abbrev cX4_nodes : ByteArray := prog_6_method_32_code
def yX4_nodes : MethodName := ⟨RX4, "nodes", "()I"⟩
def wsX4_nodes : List Cond := .code yX4_nodes cX4_nodes 1 (some .int) :: xtb
abbrev cX4_logged : ByteArray := prog_6_method_33_code
def yX4_logged : MethodName := ⟨RX4, "logged", "()I"⟩
def wsX4_logged : List Cond := .code yX4_logged cX4_logged 1 (some .int) :: xtb
abbrev cX4_log : ByteArray := prog_6_method_34_code
def yX4_log : MethodName := ⟨RX4, "log", "(II)I"⟩
def wsX4_log : List Cond := .code yX4_log cX4_log 3 (some .int) :: xtb
abbrev cX4_best : ByteArray := prog_6_method_35_code
def yX4_best : MethodName := ⟨RX4, "best", "(I)J"⟩
def wsX4_best : List Cond := .code yX4_best cX4_best 2 (some .long) :: xtb
abbrev cL_cell : ByteArray := method_2_code
def yL_cell : MethodName := ⟨RL, "cell", "([II)I"⟩
def wsL_cell : List Cond := .code yL_cell cL_cell 2 (some .int) :: xtb
abbrev cL_clause : ByteArray := method_3_code
def yL_clause : MethodName := ⟨RL, "clause", "(LWeightedClauses;IIIII[J)I"⟩
def wsL_clause : List Cond := .codeWith yL_clause cL_clause 8 (some .int) [(0, 16, 19, 13), (0, 16, 23, 15)] :: xtb
abbrev cL_weigh : ByteArray := method_4_code
def yL_weigh : MethodName := ⟨RL, "weigh", "(LWeightedClauses;II[J)I"⟩
def wsL_weigh : List Cond := .codeWith yL_weigh cL_weigh 5 (some .int) [(0, 10, 13, 13)] :: xtb
abbrev cL_cost : ByteArray := method_5_code
def yL_cost : MethodName := ⟨RL, "cost", "(LWeightedClauses;II[J)I"⟩
def wsL_cost : List Cond := .codeWith yL_cost cL_cost 5 (some .int) [(0, 9, 12, 13)] :: xtb
abbrev cL_bound : ByteArray := method_6_code
def yL_bound : MethodName := ⟨RL, "bound", "(LWeightedClauses;II[J)I"⟩
def wsL_bound : List Cond := .codeWith yL_bound cL_bound 5 (some .int) [(0, 9, 12, 13)] :: xtb
abbrev cL_subset : ByteArray := method_7_code
def yL_subset : MethodName := ⟨RL, "subset", "(LWeightedClauses;III[J)I"⟩
def wsL_subset : List Cond := .codeWith yL_subset cL_subset 6 (some .int) [(0, 11, 14, 13)] :: xtb
abbrev cL_first : ByteArray := method_8_code
def yL_first : MethodName := ⟨RL, "first", "(LWeightedClauses;II[J)I"⟩
def wsL_first : List Cond := .codeWith yL_first cL_first 5 (some .int) [(0, 10, 13, 13)] :: xtb
abbrev cL_law : ByteArray := code
abbrev cJ6_bitCount : ByteArray := prog_10_method_49_code
def yJ6_bitCount : MethodName := ⟨RJ6, "bitCount", "(I)I"⟩
def wsJ6_bitCount : List Cond := .code yJ6_bitCount cJ6_bitCount 1 (some .int) :: xtb
theorem inX0 : ∀ w ∈ u_ws RX0 TX0 9, w ∈ xtb := by decide +kernel
theorem inX1 : ∀ w ∈ u_ws RX1 TX1 6, w ∈ xtb := by decide +kernel
theorem inX2 : ∀ w ∈ u_ws RX2 TX2 12, w ∈ xtb := by decide +kernel
theorem inX3 : ∀ w ∈ u_ws RX3 TX3 3, w ∈ xtb := by decide +kernel
theorem inX4 : ∀ w ∈ u_ws RX4 TX4 25, w ∈ xtb := by decide +kernel
