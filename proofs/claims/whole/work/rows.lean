section
-- ===== PART A: goes FIRST, ahead of the names: the tables' words, and 'selects' of the private methods out of them =====
/-- a private method of a class that the tables say can be made, by its rows of tables_1 -/
def lw_okq (q : MethodName × Nat) : Prop := (q.1.cls ≠ "java/lang/invoke/MethodHandle" ∧ q.1.cls ≠ "java/lang/invoke/VarHandle") ∧ Cond.instantiable q.1.cls q.2 ∈ tables_1 ∧ Cond.privateMethod q.1 ∈ tables_1 ∧ Cond.instanceMethod q.1 ∈ tables_1
theorem lw_p0 : lw_okq (⟨"WeightedClauses$Search", "putWaiting", "(II)V"⟩, 12) := ⟨⟨by decide +kernel, by decide +kernel⟩, List.mem_of_getElem? (i := 95) (by decide +kernel), List.mem_of_getElem? (i := 186) (by decide +kernel), List.mem_of_getElem? (i := 187) (by decide +kernel)⟩
theorem lw_p1 : lw_okq (⟨"WeightedClauses$Search", "visit", "(II)V"⟩, 12) := ⟨⟨by decide +kernel, by decide +kernel⟩, List.mem_of_getElem? (i := 95) (by decide +kernel), List.mem_of_getElem? (i := 190) (by decide +kernel), List.mem_of_getElem? (i := 191) (by decide +kernel)⟩
theorem lw_p2 : lw_okq (⟨"WeightedClauses$Search", "visitLeaf", "(I)V"⟩, 12) := ⟨⟨by decide +kernel, by decide +kernel⟩, List.mem_of_getElem? (i := 95) (by decide +kernel), List.mem_of_getElem? (i := 194) (by decide +kernel), List.mem_of_getElem? (i := 195) (by decide +kernel)⟩
theorem lw_p3 : lw_okq (⟨"WeightedClauses$Bounds", "nextSubset", "(II)J"⟩, 9) := ⟨⟨by decide +kernel, by decide +kernel⟩, List.mem_of_getElem? (i := 60) (by decide +kernel), List.mem_of_getElem? (i := 230) (by decide +kernel), List.mem_of_getElem? (i := 231) (by decide +kernel)⟩
theorem lw_p4 : lw_okq (⟨"WeightedClauses$Bounds", "firstFalseClause", "()I"⟩, 9) := ⟨⟨by decide +kernel, by decide +kernel⟩, List.mem_of_getElem? (i := 60) (by decide +kernel), List.mem_of_getElem? (i := 234) (by decide +kernel), List.mem_of_getElem? (i := 235) (by decide +kernel)⟩
theorem lw_p5 : lw_okq (⟨"WeightedClauses$Bounds", "isAvailable", "(I)Z"⟩, 9) := ⟨⟨by decide +kernel, by decide +kernel⟩, List.mem_of_getElem? (i := 60) (by decide +kernel), List.mem_of_getElem? (i := 238) (by decide +kernel), List.mem_of_getElem? (i := 239) (by decide +kernel)⟩
theorem lw_p6 : lw_okq (⟨"WeightedClauses$Bounds", "subsetBehind", "(I)J"⟩, 9) := ⟨⟨by decide +kernel, by decide +kernel⟩, List.mem_of_getElem? (i := 60) (by decide +kernel), List.mem_of_getElem? (i := 243) (by decide +kernel), List.mem_of_getElem? (i := 244) (by decide +kernel)⟩
theorem lw_p7 : lw_okq (⟨"WeightedClauses$Bounds", "firstUnitClause", "()I"⟩, 9) := ⟨⟨by decide +kernel, by decide +kernel⟩, List.mem_of_getElem? (i := 60) (by decide +kernel), List.mem_of_getElem? (i := 251) (by decide +kernel), List.mem_of_getElem? (i := 252) (by decide +kernel)⟩
theorem lw_p8 : lw_okq (⟨"WeightedClauses$Bounds", "growBy", "(I)V"⟩, 9) := ⟨⟨by decide +kernel, by decide +kernel⟩, List.mem_of_getElem? (i := 60) (by decide +kernel), List.mem_of_getElem? (i := 263) (by decide +kernel), List.mem_of_getElem? (i := 264) (by decide +kernel)⟩
theorem lw_p9 : lw_okq (⟨"WeightedClauses$Search", "isGivenUp", "(J)Z"⟩, 12) := ⟨⟨by decide +kernel, by decide +kernel⟩, List.mem_of_getElem? (i := 95) (by decide +kernel), List.mem_of_getElem? (i := 276) (by decide +kernel), List.mem_of_getElem? (i := 277) (by decide +kernel)⟩
theorem lw_p10 : lw_okq (⟨"WeightedClauses$Search", "putIntoLog", "(II)V"⟩, 12) := ⟨⟨by decide +kernel, by decide +kernel⟩, List.mem_of_getElem? (i := 95) (by decide +kernel), List.mem_of_getElem? (i := 280) (by decide +kernel), List.mem_of_getElem? (i := 281) (by decide +kernel)⟩
theorem lw_p11 : lw_okq (⟨"WeightedClauses$Search", "branch", "(II)V"⟩, 12) := ⟨⟨by decide +kernel, by decide +kernel⟩, List.mem_of_getElem? (i := 95) (by decide +kernel), List.mem_of_getElem? (i := 284) (by decide +kernel), List.mem_of_getElem? (i := 285) (by decide +kernel)⟩
theorem lw_p12 : lw_okq (⟨"WeightedClauses$Formula", "countHolding", "([IIJ)I"⟩, 6) := ⟨⟨by decide +kernel, by decide +kernel⟩, List.mem_of_getElem? (i := 22) (by decide +kernel), List.mem_of_getElem? (i := 293) (by decide +kernel), List.mem_of_getElem? (i := 294) (by decide +kernel)⟩
theorem lw_p13 : lw_okq (⟨"WeightedClauses", "areLiterals", "(IIII)Z"⟩, 3) := ⟨⟨by decide +kernel, by decide +kernel⟩, List.mem_of_getElem? (i := 14) (by decide +kernel), List.mem_of_getElem? (i := 340) (by decide +kernel), List.mem_of_getElem? (i := 341) (by decide +kernel)⟩
theorem lw_p14 : lw_okq (⟨"WeightedClauses", "isLiteralOrAbsent", "(I)Z"⟩, 3) := ⟨⟨by decide +kernel, by decide +kernel⟩, List.mem_of_getElem? (i := 14) (by decide +kernel), List.mem_of_getElem? (i := 344) (by decide +kernel), List.mem_of_getElem? (i := 345) (by decide +kernel)⟩
theorem lw_p15 : lw_okq (⟨"java/lang/Throwable", "fillInStackTrace", "(I)Ljava/lang/Throwable;"⟩, 6) := ⟨⟨by decide +kernel, by decide +kernel⟩, List.mem_of_getElem? (i := 398) (by decide +kernel), List.mem_of_getElem? (i := 396) (by decide +kernel), List.mem_of_getElem? (i := 397) (by decide +kernel)⟩
def lw_privs_1 : List (MethodName × Nat) := [(⟨"WeightedClauses$Search", "putWaiting", "(II)V"⟩, 12), (⟨"WeightedClauses$Search", "visit", "(II)V"⟩, 12), (⟨"WeightedClauses$Search", "visitLeaf", "(I)V"⟩, 12), (⟨"WeightedClauses$Bounds", "nextSubset", "(II)J"⟩, 9), (⟨"WeightedClauses$Bounds", "firstFalseClause", "()I"⟩, 9), (⟨"WeightedClauses$Bounds", "isAvailable", "(I)Z"⟩, 9), (⟨"WeightedClauses$Bounds", "subsetBehind", "(I)J"⟩, 9), (⟨"WeightedClauses$Bounds", "firstUnitClause", "()I"⟩, 9), (⟨"WeightedClauses$Bounds", "growBy", "(I)V"⟩, 9), (⟨"WeightedClauses$Search", "isGivenUp", "(J)Z"⟩, 12), (⟨"WeightedClauses$Search", "putIntoLog", "(II)V"⟩, 12), (⟨"WeightedClauses$Search", "branch", "(II)V"⟩, 12), (⟨"WeightedClauses$Formula", "countHolding", "([IIJ)I"⟩, 6), (⟨"WeightedClauses", "areLiterals", "(IIII)Z"⟩, 3), (⟨"WeightedClauses", "isLiteralOrAbsent", "(I)Z"⟩, 3), (⟨"java/lang/Throwable", "fillInStackTrace", "(I)Ljava/lang/Throwable;"⟩, 6)]
theorem lw_r1 : ∀ q ∈ lw_privs_1, lw_okq q := List.forall_mem_cons.mpr ⟨lw_p0, List.forall_mem_cons.mpr ⟨lw_p1, List.forall_mem_cons.mpr ⟨lw_p2, List.forall_mem_cons.mpr ⟨lw_p3, List.forall_mem_cons.mpr ⟨lw_p4, List.forall_mem_cons.mpr ⟨lw_p5, List.forall_mem_cons.mpr ⟨lw_p6, List.forall_mem_cons.mpr ⟨lw_p7, List.forall_mem_cons.mpr ⟨lw_p8, List.forall_mem_cons.mpr ⟨lw_p9, List.forall_mem_cons.mpr ⟨lw_p10, List.forall_mem_cons.mpr ⟨lw_p11, List.forall_mem_cons.mpr ⟨lw_p12, List.forall_mem_cons.mpr ⟨lw_p13, List.forall_mem_cons.mpr ⟨lw_p14, List.forall_mem_cons.mpr ⟨lw_p15, fun _ h => absurd h List.not_mem_nil⟩⟩⟩⟩⟩⟩⟩⟩⟩⟩⟩⟩⟩⟩⟩⟩
theorem lw_p16 : lw_okq (⟨"WeightedClauses", "isState", "(II)Z"⟩, 3) := ⟨⟨by decide +kernel, by decide +kernel⟩, List.mem_of_getElem? (i := 14) (by decide +kernel), List.mem_of_getElem? (i := 460) (by decide +kernel), List.mem_of_getElem? (i := 461) (by decide +kernel)⟩
theorem lw_p17 : lw_okq (⟨"WeightedClausesModel", "noLiteral", "(I)Z"⟩, 25) := ⟨⟨by decide +kernel, by decide +kernel⟩, List.mem_of_getElem? (i := 492) (by decide +kernel), List.mem_of_getElem? (i := 588) (by decide +kernel), List.mem_of_getElem? (i := 589) (by decide +kernel)⟩
theorem lw_p18 : lw_okq (⟨"WeightedClausesModel", "forget", "()V"⟩, 25) := ⟨⟨by decide +kernel, by decide +kernel⟩, List.mem_of_getElem? (i := 492) (by decide +kernel), List.mem_of_getElem? (i := 598) (by decide +kernel), List.mem_of_getElem? (i := 599) (by decide +kernel)⟩
theorem lw_p19 : lw_okq (⟨"WeightedClausesModel", "noState", "(II)Z"⟩, 25) := ⟨⟨by decide +kernel, by decide +kernel⟩, List.mem_of_getElem? (i := 492) (by decide +kernel), List.mem_of_getElem? (i := 618) (by decide +kernel), List.mem_of_getElem? (i := 619) (by decide +kernel)⟩
theorem lw_p20 : lw_okq (⟨"WeightedClausesModel", "breaks", "(II)Z"⟩, 25) := ⟨⟨by decide +kernel, by decide +kernel⟩, List.mem_of_getElem? (i := 492) (by decide +kernel), List.mem_of_getElem? (i := 622) (by decide +kernel), List.mem_of_getElem? (i := 623) (by decide +kernel)⟩
theorem lw_p21 : lw_okq (⟨"WeightedClausesModel", "isFalse", "(III)Z"⟩, 25) := ⟨⟨by decide +kernel, by decide +kernel⟩, List.mem_of_getElem? (i := 492) (by decide +kernel), List.mem_of_getElem? (i := 626) (by decide +kernel), List.mem_of_getElem? (i := 627) (by decide +kernel)⟩
theorem lw_p22 : lw_okq (⟨"WeightedClausesModel", "isTrue", "(III)Z"⟩, 25) := ⟨⟨by decide +kernel, by decide +kernel⟩, List.mem_of_getElem? (i := 492) (by decide +kernel), List.mem_of_getElem? (i := 630) (by decide +kernel), List.mem_of_getElem? (i := 631) (by decide +kernel)⟩
theorem lw_p23 : lw_okq (⟨"WeightedClausesModel", "costOf", "(II)J"⟩, 25) := ⟨⟨by decide +kernel, by decide +kernel⟩, List.mem_of_getElem? (i := 492) (by decide +kernel), List.mem_of_getElem? (i := 635) (by decide +kernel), List.mem_of_getElem? (i := 636) (by decide +kernel)⟩
theorem lw_p24 : lw_okq (⟨"WeightedClausesModel", "reckon", "(II)V"⟩, 25) := ⟨⟨by decide +kernel, by decide +kernel⟩, List.mem_of_getElem? (i := 492) (by decide +kernel), List.mem_of_getElem? (i := 643) (by decide +kernel), List.mem_of_getElem? (i := 644) (by decide +kernel)⟩
theorem lw_p25 : lw_okq (⟨"WeightedClausesModel", "isOpen", "(III)Z"⟩, 25) := ⟨⟨by decide +kernel, by decide +kernel⟩, List.mem_of_getElem? (i := 492) (by decide +kernel), List.mem_of_getElem? (i := 647) (by decide +kernel), List.mem_of_getElem? (i := 648) (by decide +kernel)⟩
theorem lw_p26 : lw_okq (⟨"WeightedClausesModel", "grow", "(II)I"⟩, 25) := ⟨⟨by decide +kernel, by decide +kernel⟩, List.mem_of_getElem? (i := 492) (by decide +kernel), List.mem_of_getElem? (i := 651) (by decide +kernel), List.mem_of_getElem? (i := 652) (by decide +kernel)⟩
theorem lw_p27 : lw_okq (⟨"WeightedClausesModel", "broken", "()I"⟩, 25) := ⟨⟨by decide +kernel, by decide +kernel⟩, List.mem_of_getElem? (i := 492) (by decide +kernel), List.mem_of_getElem? (i := 655) (by decide +kernel), List.mem_of_getElem? (i := 656) (by decide +kernel)⟩
theorem lw_p28 : lw_okq (⟨"WeightedClausesModel", "single", "()I"⟩, 25) := ⟨⟨by decide +kernel, by decide +kernel⟩, List.mem_of_getElem? (i := 492) (by decide +kernel), List.mem_of_getElem? (i := 659) (by decide +kernel), List.mem_of_getElem? (i := 660) (by decide +kernel)⟩
theorem lw_p29 : lw_okq (⟨"WeightedClausesModel", "gather", "(I)J"⟩, 25) := ⟨⟨by decide +kernel, by decide +kernel⟩, List.mem_of_getElem? (i := 492) (by decide +kernel), List.mem_of_getElem? (i := 663) (by decide +kernel), List.mem_of_getElem? (i := 664) (by decide +kernel)⟩
theorem lw_p30 : lw_okq (⟨"WeightedClausesModel", "firstOf", "(II)I"⟩, 25) := ⟨⟨by decide +kernel, by decide +kernel⟩, List.mem_of_getElem? (i := 492) (by decide +kernel), List.mem_of_getElem? (i := 675) (by decide +kernel), List.mem_of_getElem? (i := 676) (by decide +kernel)⟩
theorem lw_p31 : lw_okq (⟨"WeightedClausesModel", "line", "(II)V"⟩, 25) := ⟨⟨by decide +kernel, by decide +kernel⟩, List.mem_of_getElem? (i := 492) (by decide +kernel), List.mem_of_getElem? (i := 683) (by decide +kernel), List.mem_of_getElem? (i := 684) (by decide +kernel)⟩
def lw_privs_2 : List (MethodName × Nat) := [(⟨"WeightedClauses", "isState", "(II)Z"⟩, 3), (⟨"WeightedClausesModel", "noLiteral", "(I)Z"⟩, 25), (⟨"WeightedClausesModel", "forget", "()V"⟩, 25), (⟨"WeightedClausesModel", "noState", "(II)Z"⟩, 25), (⟨"WeightedClausesModel", "breaks", "(II)Z"⟩, 25), (⟨"WeightedClausesModel", "isFalse", "(III)Z"⟩, 25), (⟨"WeightedClausesModel", "isTrue", "(III)Z"⟩, 25), (⟨"WeightedClausesModel", "costOf", "(II)J"⟩, 25), (⟨"WeightedClausesModel", "reckon", "(II)V"⟩, 25), (⟨"WeightedClausesModel", "isOpen", "(III)Z"⟩, 25), (⟨"WeightedClausesModel", "grow", "(II)I"⟩, 25), (⟨"WeightedClausesModel", "broken", "()I"⟩, 25), (⟨"WeightedClausesModel", "single", "()I"⟩, 25), (⟨"WeightedClausesModel", "gather", "(I)J"⟩, 25), (⟨"WeightedClausesModel", "firstOf", "(II)I"⟩, 25), (⟨"WeightedClausesModel", "line", "(II)V"⟩, 25)]
theorem lw_r2 : ∀ q ∈ lw_privs_2, lw_okq q := List.forall_mem_cons.mpr ⟨lw_p16, List.forall_mem_cons.mpr ⟨lw_p17, List.forall_mem_cons.mpr ⟨lw_p18, List.forall_mem_cons.mpr ⟨lw_p19, List.forall_mem_cons.mpr ⟨lw_p20, List.forall_mem_cons.mpr ⟨lw_p21, List.forall_mem_cons.mpr ⟨lw_p22, List.forall_mem_cons.mpr ⟨lw_p23, List.forall_mem_cons.mpr ⟨lw_p24, List.forall_mem_cons.mpr ⟨lw_p25, List.forall_mem_cons.mpr ⟨lw_p26, List.forall_mem_cons.mpr ⟨lw_p27, List.forall_mem_cons.mpr ⟨lw_p28, List.forall_mem_cons.mpr ⟨lw_p29, List.forall_mem_cons.mpr ⟨lw_p30, List.forall_mem_cons.mpr ⟨lw_p31, fun _ h => absurd h List.not_mem_nil⟩⟩⟩⟩⟩⟩⟩⟩⟩⟩⟩⟩⟩⟩⟩⟩
theorem lw_p32 : lw_okq (⟨"WeightedClausesModel", "node", "(II)V"⟩, 25) := ⟨⟨by decide +kernel, by decide +kernel⟩, List.mem_of_getElem? (i := 492) (by decide +kernel), List.mem_of_getElem? (i := 687) (by decide +kernel), List.mem_of_getElem? (i := 688) (by decide +kernel)⟩
def lw_privs_3 : List (MethodName × Nat) := [(⟨"WeightedClausesModel", "node", "(II)V"⟩, 25)]
theorem lw_r3 : ∀ q ∈ lw_privs_3, lw_okq q := List.forall_mem_cons.mpr ⟨lw_p32, fun _ h => absurd h List.not_mem_nil⟩
def lw_privs : List (MethodName × Nat) := lw_privs_1 ++ (lw_privs_2 ++ (lw_privs_3))
def lw_tbl : List Cond := k2_sels lw_privs ++ tables_1
theorem lw_privs_ok : ∀ q ∈ lw_privs, lw_okq q := by
  show ∀ q ∈ lw_privs_1 ++ (lw_privs_2 ++ (lw_privs_3)), lw_okq q
  exact List.forall_mem_append.mpr ⟨lw_r1, List.forall_mem_append.mpr ⟨lw_r2, lw_r3⟩⟩
/-- the words that stay true while the tables only warm -/
def xtb : List Cond := lw_tbl.filter goodWord
theorem xtb_good (w : Cond) (h : w ∈ xtb) : (w.onTables && w.keeps) = true ∨ ∃ ty, w = .arrayClass ty := good_of_word (List.mem_filter.mp h).2
theorem xtb_in {w : Cond} (h : w ∈ xtb) : w ∈ lw_tbl := (List.mem_filter.mp h).1
theorem xtb_of {w : Cond} (k : Nat) (h : lw_tbl[k]? = some w) (hg : goodWord w = true) : w ∈ xtb := List.mem_filter.mpr ⟨List.mem_of_getElem? h, hg⟩
/-! names, fields, word lists (by my own program, out of the claim's texts) -/
def RX0 : String := "WeightedClauses$Bounds"
def TX0 : u_T := fun k => match k with
  | 0 => ("WeightedClauses$Bounds", "formula", "LWeightedClauses$Formula;", true)
  | 1 => ("WeightedClauses$Bounds", "subsets", "[J", true)
  | 2 => ("WeightedClauses$Bounds", "subsetCount", "I", false)
  | 3 => ("WeightedClauses$Bounds", "available", "J", false)
  | 4 => ("WeightedClauses$Bounds", "grownHave", "I", false)
  | 5 => ("WeightedClauses$Bounds", "grownValues", "I", false)
  | 6 => ("WeightedClauses$Bounds", "stepVariable", "[I", true)
  | 7 => ("WeightedClauses$Bounds", "stepReason", "[I", true)
  | _ => ("WeightedClauses$Bounds", "stepCount", "I", false)
def tyX0 : Nat → FieldType := fun k => match k with
  | 0 => .object "WeightedClauses$Formula"
  | 1 => .array .long
  | 2 => .int
  | 3 => .long
  | 4 => .int
  | 5 => .int
  | 6 => .array .int
  | 7 => .array .int
  | _ => .int
theorem nX0 : ∀ a, a < 9 → ∀ b, b < 9 → a ≠ b → (TX0 a).2.1 ≠ (TX0 b).2.1 := by decide +kernel
theorem tyX0_ok : ∀ k, k < 9 → parseFieldDescriptor (TX0 k).2.2.1 = some (tyX0 k) := by decide +kernel
def RX1 : String := "WeightedClauses$Formula"
def TX1 : u_T := fun k => match k with
  | 0 => ("WeightedClauses$Formula", "variableCount", "I", true)
  | 1 => ("WeightedClauses$Formula", "allVariables", "I", true)
  | 2 => ("WeightedClauses$Formula", "clauseCount", "I", false)
  | 3 => ("WeightedClauses$Formula", "makesTrue", "[I", true)
  | 4 => ("WeightedClauses$Formula", "makesFalse", "[I", true)
  | _ => ("WeightedClauses$Formula", "weights", "[I", true)
def tyX1 : Nat → FieldType := fun k => match k with
  | 0 => .int
  | 1 => .int
  | 2 => .int
  | 3 => .array .int
  | 4 => .array .int
  | _ => .array .int
theorem nX1 : ∀ a, a < 6 → ∀ b, b < 6 → a ≠ b → (TX1 a).2.1 ≠ (TX1 b).2.1 := by decide +kernel
theorem tyX1_ok : ∀ k, k < 6 → parseFieldDescriptor (TX1 k).2.2.1 = some (tyX1 k) := by decide +kernel
def RX2 : String := "WeightedClauses$Search"
def TX2 : u_T := fun k => match k with
  | 0 => ("WeightedClauses$Search", "nodeCount", "I", false)
  | 1 => ("WeightedClauses$Search", "logCount", "I", false)
  | 2 => ("WeightedClauses$Search", "bestCost", "J", false)
  | 3 => ("WeightedClauses$Search", "bestValues", "I", false)
  | 4 => ("WeightedClauses$Search", "logHave", "[I", true)
  | 5 => ("WeightedClauses$Search", "logValues", "[I", true)
  | 6 => ("WeightedClauses$Search", "logBest", "[J", true)
  | 7 => ("WeightedClauses$Search", "formula", "LWeightedClauses$Formula;", true)
  | 8 => ("WeightedClauses$Search", "bounds", "LWeightedClauses$Bounds;", true)
  | 9 => ("WeightedClauses$Search", "waitingHave", "[I", true)
  | 10 => ("WeightedClauses$Search", "waitingValues", "[I", true)
  | _ => ("WeightedClauses$Search", "waitingCount", "I", false)
def tyX2 : Nat → FieldType := fun k => match k with
  | 0 => .int
  | 1 => .int
  | 2 => .long
  | 3 => .int
  | 4 => .array .int
  | 5 => .array .int
  | 6 => .array .long
  | 7 => .object "WeightedClauses$Formula"
  | 8 => .object "WeightedClauses$Bounds"
  | 9 => .array .int
  | 10 => .array .int
  | _ => .int
theorem nX2 : ∀ a, a < 12 → ∀ b, b < 12 → a ≠ b → (TX2 a).2.1 ≠ (TX2 b).2.1 := by decide +kernel
theorem tyX2_ok : ∀ k, k < 12 → parseFieldDescriptor (TX2 k).2.2.1 = some (tyX2 k) := by decide +kernel
def RX3 : String := "WeightedClauses"
def TX3 : u_T := fun k => match k with
  | 0 => ("WeightedClauses", "formula", "LWeightedClauses$Formula;", true)
  | 1 => ("WeightedClauses", "bounds", "LWeightedClauses$Bounds;", true)
  | _ => ("WeightedClauses", "search", "LWeightedClauses$Search;", true)
def tyX3 : Nat → FieldType := fun k => match k with
  | 0 => .object "WeightedClauses$Formula"
  | 1 => .object "WeightedClauses$Bounds"
  | _ => .object "WeightedClauses$Search"
theorem nX3 : ∀ a, a < 3 → ∀ b, b < 3 → a ≠ b → (TX3 a).2.1 ≠ (TX3 b).2.1 := by decide +kernel
theorem tyX3_ok : ∀ k, k < 3 → parseFieldDescriptor (TX3 k).2.2.1 = some (tyX3 k) := by decide +kernel
def RX4 : String := "WeightedClausesModel"
def TX4 : u_T := fun k => match k with
  | 0 => ("WeightedClausesModel", "code", "I", false)
  | 1 => ("WeightedClausesModel", "variables", "I", true)
  | 2 => ("WeightedClausesModel", "clauses", "I", false)
  | 3 => ("WeightedClausesModel", "yes", "[I", true)
  | 4 => ("WeightedClausesModel", "no", "[I", true)
  | 5 => ("WeightedClausesModel", "weights", "[I", true)
  | 6 => ("WeightedClausesModel", "hopeless", "Z", false)
  | 7 => ("WeightedClausesModel", "bound", "J", false)
  | 8 => ("WeightedClausesModel", "subsets", "I", false)
  | 9 => ("WeightedClausesModel", "subset", "[J", true)
  | 10 => ("WeightedClausesModel", "available", "[Z", true)
  | 11 => ("WeightedClausesModel", "reason", "[I", true)
  | 12 => ("WeightedClausesModel", "grownHave", "I", false)
  | 13 => ("WeightedClausesModel", "grownValues", "I", false)
  | 14 => ("WeightedClausesModel", "found", "Z", false)
  | 15 => ("WeightedClausesModel", "bestValues", "I", false)
  | 16 => ("WeightedClausesModel", "bestCost", "J", false)
  | 17 => ("WeightedClausesModel", "nodes", "I", false)
  | 18 => ("WeightedClausesModel", "logs", "I", false)
  | 19 => ("WeightedClausesModel", "logHave", "[I", true)
  | 20 => ("WeightedClausesModel", "logValues", "[I", true)
  | 21 => ("WeightedClausesModel", "logBest", "[J", true)
  | 22 => ("WeightedClausesModel", "waiting", "I", false)
  | 23 => ("WeightedClausesModel", "waitHave", "[I", true)
  | _ => ("WeightedClausesModel", "waitValues", "[I", true)
def tyX4 : Nat → FieldType := fun k => match k with
  | 0 => .int
  | 1 => .int
  | 2 => .int
  | 3 => .array .int
  | 4 => .array .int
  | 5 => .array .int
  | 6 => .boolean
  | 7 => .long
  | 8 => .int
  | 9 => .array .long
  | 10 => .array .boolean
  | 11 => .array .int
  | 12 => .int
  | 13 => .int
  | 14 => .boolean
  | 15 => .int
  | 16 => .long
  | 17 => .int
  | 18 => .int
  | 19 => .array .int
  | 20 => .array .int
  | 21 => .array .long
  | 22 => .int
  | 23 => .array .int
  | _ => .array .int
theorem nX4 : ∀ a, a < 25 → ∀ b, b < 25 → a ≠ b → (TX4 a).2.1 ≠ (TX4 b).2.1 := by decide +kernel
theorem tyX4_ok : ∀ k, k < 25 → parseFieldDescriptor (TX4 k).2.2.1 = some (tyX4 k) := by decide +kernel
def RL : String := "WeightedClausesLaw"
def RJ6 : String := "java/lang/Integer"
abbrev vwCl : List vw_C := [(RX0, TX0, 9), (RX1, TX1, 6), (RX2, TX2, 12), (RX3, TX3, 3), (RX4, TX4, 25)]
abbrev cX0_init : ByteArray := prog_2_method_1_code
def yX0_init : MethodName := ⟨RX0, "<init>", "(LWeightedClauses$Formula;)V"⟩
def wsX0_init : List Cond := .code yX0_init cX0_init 2 none :: xtb
abbrev cX0_boundOf : ByteArray := prog_2_method_2_code
def yX0_boundOf : MethodName := ⟨RX0, "boundOf", "(II)J"⟩
def wsX0_boundOf : List Cond := .code yX0_boundOf cX0_boundOf 9 (some .long) :: xtb
abbrev cX0_subsetAt : ByteArray := prog_2_method_3_code
def yX0_subsetAt : MethodName := ⟨RX0, "subsetAt", "(I)J"⟩
def wsX0_subsetAt : List Cond := .code yX0_subsetAt cX0_subsetAt 2 (some .long) :: xtb
abbrev cX0_nextSubset : ByteArray := prog_2_method_4_code
def yX0_nextSubset : MethodName := ⟨RX0, "nextSubset", "(II)J"⟩
def wsX0_nextSubset : List Cond := .code yX0_nextSubset cX0_nextSubset 6 (some .long) :: xtb
abbrev cX0_isAvailable : ByteArray := prog_2_method_5_code
def yX0_isAvailable : MethodName := ⟨RX0, "isAvailable", "(I)Z"⟩
def wsX0_isAvailable : List Cond := .code yX0_isAvailable cX0_isAvailable 2 (some .boolean) :: xtb
abbrev cX0_firstFalseClause : ByteArray := prog_2_method_6_code
def yX0_firstFalseClause : MethodName := ⟨RX0, "firstFalseClause", "()I"⟩
def wsX0_firstFalseClause : List Cond := .code yX0_firstFalseClause cX0_firstFalseClause 2 (some .int) :: xtb
abbrev cX0_firstUnitClause : ByteArray := prog_2_method_7_code
def yX0_firstUnitClause : MethodName := ⟨RX0, "firstUnitClause", "()I"⟩
def wsX0_firstUnitClause : List Cond := .code yX0_firstUnitClause cX0_firstUnitClause 3 (some .int) :: xtb
abbrev cX0_growBy : ByteArray := prog_2_method_8_code
def yX0_growBy : MethodName := ⟨RX0, "growBy", "(I)V"⟩
def wsX0_growBy : List Cond := .code yX0_growBy cX0_growBy 3 none :: xtb
abbrev cX0_subsetBehind : ByteArray := prog_2_method_9_code
def yX0_subsetBehind : MethodName := ⟨RX0, "subsetBehind", "(I)J"⟩
def wsX0_subsetBehind : List Cond := .code yX0_subsetBehind cX0_subsetBehind 6 (some .long) :: xtb
abbrev cX1_init : ByteArray := prog_3_method_1_code
def yX1_init : MethodName := ⟨RX1, "<init>", "(I)V"⟩
def wsX1_init : List Cond := .code yX1_init cX1_init 2 none :: xtb
abbrev cX1_add : ByteArray := prog_3_method_2_code
def yX1_add : MethodName := ⟨RX1, "add", "(III)I"⟩
def wsX1_add : List Cond := .code yX1_add cX1_add 5 (some .int) :: xtb
abbrev cX1_removeLast : ByteArray := prog_3_method_3_code
def yX1_removeLast : MethodName := ⟨RX1, "removeLast", "()I"⟩
def wsX1_removeLast : List Cond := .code yX1_removeLast cX1_removeLast 1 (some .int) :: xtb
abbrev cX1_replaceWeight : ByteArray := prog_3_method_4_code
def yX1_replaceWeight : MethodName := ⟨RX1, "replaceWeight", "(II)I"⟩
def wsX1_replaceWeight : List Cond := .code yX1_replaceWeight cX1_replaceWeight 4 (some .int) :: xtb
abbrev cX1_variablesOf : ByteArray := prog_3_method_5_code
def yX1_variablesOf : MethodName := ⟨RX1, "variablesOf", "(I)I"⟩
def wsX1_variablesOf : List Cond := .code yX1_variablesOf cX1_variablesOf 2 (some .int) :: xtb
abbrev cX1_withoutValue : ByteArray := prog_3_method_6_code
def yX1_withoutValue : MethodName := ⟨RX1, "withoutValue", "(II)I"⟩
def wsX1_withoutValue : List Cond := .code yX1_withoutValue cX1_withoutValue 3 (some .int) :: xtb
abbrev cX1_literalsSayingTrue : ByteArray := prog_3_method_7_code
def yX1_literalsSayingTrue : MethodName := ⟨RX1, "literalsSayingTrue", "(I)I"⟩
def wsX1_literalsSayingTrue : List Cond := .code yX1_literalsSayingTrue cX1_literalsSayingTrue 2 (some .int) :: xtb
abbrev cX1_isTrue : ByteArray := prog_3_method_8_code
def yX1_isTrue : MethodName := ⟨RX1, "isTrue", "(III)Z"⟩
def wsX1_isTrue : List Cond := .code yX1_isTrue cX1_isTrue 4 (some .boolean) :: xtb
abbrev cX1_isFalse : ByteArray := prog_3_method_9_code
def yX1_isFalse : MethodName := ⟨RX1, "isFalse", "(III)Z"⟩
def wsX1_isFalse : List Cond := .code yX1_isFalse cX1_isFalse 5 (some .boolean) :: xtb
abbrev cX1_openClauses : ByteArray := prog_3_method_10_code
def yX1_openClauses : MethodName := ⟨RX1, "openClauses", "(II)J"⟩
def wsX1_openClauses : List Cond := .code yX1_openClauses cX1_openClauses 6 (some .long) :: xtb
abbrev cX1_costOf : ByteArray := prog_3_method_11_code
def yX1_costOf : MethodName := ⟨RX1, "costOf", "(II)J"⟩
def wsX1_costOf : List Cond := .code yX1_costOf cX1_costOf 6 (some .long) :: xtb
abbrev cX1_lightestWeight : ByteArray := prog_3_method_12_code
def yX1_lightestWeight : MethodName := ⟨RX1, "lightestWeight", "(J)I"⟩
def wsX1_lightestWeight : List Cond := .code yX1_lightestWeight cX1_lightestWeight 6 (some .int) :: xtb
abbrev cX1_firstLiteral : ByteArray := prog_3_method_13_code
def yX1_firstLiteral : MethodName := ⟨RX1, "firstLiteral", "(II)I"⟩
def wsX1_firstLiteral : List Cond := .code yX1_firstLiteral cX1_firstLiteral 10 (some .int) :: xtb
abbrev cX1_countHolding : ByteArray := prog_3_method_14_code
def yX1_countHolding : MethodName := ⟨RX1, "countHolding", "([IIJ)I"⟩
def wsX1_countHolding : List Cond := .code yX1_countHolding cX1_countHolding 7 (some .int) :: xtb
abbrev cX2_init : ByteArray := prog_4_method_1_code
def yX2_init : MethodName := ⟨RX2, "<init>", "(LWeightedClauses$Formula;LWeightedClauses$Bounds;)V"⟩
def wsX2_init : List Cond := .code yX2_init cX2_init 4 none :: xtb
abbrev cX2_forget : ByteArray := prog_4_method_2_code
def yX2_forget : MethodName := ⟨RX2, "forget", "()V"⟩
def wsX2_forget : List Cond := .code yX2_forget cX2_forget 1 none :: xtb
abbrev cX2_run : ByteArray := prog_4_method_3_code
def yX2_run : MethodName := ⟨RX2, "run", "()V"⟩
def wsX2_run : List Cond := .code yX2_run cX2_run 2 none :: xtb
abbrev cX2_hasBest : ByteArray := prog_4_method_4_code
def yX2_hasBest : MethodName := ⟨RX2, "hasBest", "()Z"⟩
def wsX2_hasBest : List Cond := .code yX2_hasBest cX2_hasBest 1 (some .boolean) :: xtb
abbrev cX2_isLogged : ByteArray := prog_4_method_5_code
def yX2_isLogged : MethodName := ⟨RX2, "isLogged", "(I)Z"⟩
def wsX2_isLogged : List Cond := .code yX2_isLogged cX2_isLogged 2 (some .boolean) :: xtb
abbrev cX2_putWaiting : ByteArray := prog_4_method_6_code
def yX2_putWaiting : MethodName := ⟨RX2, "putWaiting", "(II)V"⟩
def wsX2_putWaiting : List Cond := .code yX2_putWaiting cX2_putWaiting 3 none :: xtb
abbrev cX2_visit : ByteArray := prog_4_method_7_code
def yX2_visit : MethodName := ⟨RX2, "visit", "(II)V"⟩
def wsX2_visit : List Cond := .code yX2_visit cX2_visit 3 none :: xtb
abbrev cX2_visitLeaf : ByteArray := prog_4_method_8_code
def yX2_visitLeaf : MethodName := ⟨RX2, "visitLeaf", "(I)V"⟩
def wsX2_visitLeaf : List Cond := .code yX2_visitLeaf cX2_visitLeaf 4 none :: xtb
abbrev cX2_isGivenUp : ByteArray := prog_4_method_9_code
def yX2_isGivenUp : MethodName := ⟨RX2, "isGivenUp", "(J)Z"⟩
def wsX2_isGivenUp : List Cond := .code yX2_isGivenUp cX2_isGivenUp 3 (some .boolean) :: xtb
abbrev cX2_putIntoLog : ByteArray := prog_4_method_10_code
def yX2_putIntoLog : MethodName := ⟨RX2, "putIntoLog", "(II)V"⟩
def wsX2_putIntoLog : List Cond := .code yX2_putIntoLog cX2_putIntoLog 3 none :: xtb
abbrev cX2_branch : ByteArray := prog_4_method_11_code
def yX2_branch : MethodName := ⟨RX2, "branch", "(II)V"⟩
def wsX2_branch : List Cond := .code yX2_branch cX2_branch 7 none :: xtb
abbrev cX3_init : ByteArray := prog_1_method_1_code
def yX3_init : MethodName := ⟨RX3, "<init>", "(I)V"⟩
def wsX3_init : List Cond := .code yX3_init cX3_init 2 none :: xtb
abbrev cX3_variables : ByteArray := prog_1_method_2_code
def yX3_variables : MethodName := ⟨RX3, "variables", "()I"⟩
def wsX3_variables : List Cond := .code yX3_variables cX3_variables 1 (some .int) :: xtb
abbrev cX3_clause : ByteArray := prog_1_method_3_code
def yX3_clause : MethodName := ⟨RX3, "clause", "(IIIII)I"⟩
def wsX3_clause : List Cond := .code yX3_clause cX3_clause 8 (some .int) :: xtb
abbrev cX3_drop : ByteArray := prog_1_method_4_code
def yX3_drop : MethodName := ⟨RX3, "drop", "()I"⟩
def wsX3_drop : List Cond := .code yX3_drop cX3_drop 1 (some .int) :: xtb
abbrev cX3_weigh : ByteArray := prog_1_method_5_code
def yX3_weigh : MethodName := ⟨RX3, "weigh", "(II)I"⟩
def wsX3_weigh : List Cond := .code yX3_weigh cX3_weigh 3 (some .int) :: xtb
abbrev cX3_clauses : ByteArray := prog_1_method_6_code
def yX3_clauses : MethodName := ⟨RX3, "clauses", "()I"⟩
def wsX3_clauses : List Cond := .code yX3_clauses cX3_clauses 1 (some .int) :: xtb
abbrev cX3_cost : ByteArray := prog_1_method_7_code
def yX3_cost : MethodName := ⟨RX3, "cost", "(II)J"⟩
def wsX3_cost : List Cond := .code yX3_cost cX3_cost 3 (some .long) :: xtb
abbrev cX3_bound : ByteArray := prog_1_method_8_code
def yX3_bound : MethodName := ⟨RX3, "bound", "(II)J"⟩
def wsX3_bound : List Cond := .code yX3_bound cX3_bound 3 (some .long) :: xtb
abbrev cX3_subset : ByteArray := prog_1_method_9_code
def yX3_subset : MethodName := ⟨RX3, "subset", "(III)J"⟩
def wsX3_subset : List Cond := .code yX3_subset cX3_subset 4 (some .long) :: xtb
abbrev cX3_first : ByteArray := prog_1_method_10_code
def yX3_first : MethodName := ⟨RX3, "first", "(II)I"⟩
def wsX3_first : List Cond := .code yX3_first cX3_first 3 (some .int) :: xtb
abbrev cX3_solve : ByteArray := prog_1_method_11_code
def yX3_solve : MethodName := ⟨RX3, "solve", "()J"⟩
def wsX3_solve : List Cond := .code yX3_solve cX3_solve 1 (some .long) :: xtb
abbrev cX3_value : ByteArray := prog_1_method_12_code
def yX3_value : MethodName := ⟨RX3, "value", "(I)I"⟩
def wsX3_value : List Cond := .code yX3_value cX3_value 2 (some .int) :: xtb
abbrev cX3_nodes : ByteArray := prog_1_method_13_code
def yX3_nodes : MethodName := ⟨RX3, "nodes", "()I"⟩
def wsX3_nodes : List Cond := .code yX3_nodes cX3_nodes 1 (some .int) :: xtb
abbrev cX3_logged : ByteArray := prog_1_method_14_code
def yX3_logged : MethodName := ⟨RX3, "logged", "()I"⟩
def wsX3_logged : List Cond := .code yX3_logged cX3_logged 1 (some .int) :: xtb
abbrev cX3_log : ByteArray := prog_1_method_15_code
def yX3_log : MethodName := ⟨RX3, "log", "(II)I"⟩
def wsX3_log : List Cond := .code yX3_log cX3_log 3 (some .int) :: xtb
abbrev cX3_best : ByteArray := prog_1_method_16_code
def yX3_best : MethodName := ⟨RX3, "best", "(I)J"⟩
def wsX3_best : List Cond := .code yX3_best cX3_best 2 (some .long) :: xtb
abbrev cX3_isWeight : ByteArray := prog_1_method_17_code
def yX3_isWeight : MethodName := ⟨RX3, "isWeight", "(I)Z"⟩
def wsX3_isWeight : List Cond := .code yX3_isWeight cX3_isWeight 1 (some .boolean) :: xtb
abbrev cX3_isState : ByteArray := prog_1_method_18_code
def yX3_isState : MethodName := ⟨RX3, "isState", "(II)Z"⟩
def wsX3_isState : List Cond := .code yX3_isState cX3_isState 3 (some .boolean) :: xtb
abbrev cX3_areLiterals : ByteArray := prog_1_method_19_code
def yX3_areLiterals : MethodName := ⟨RX3, "areLiterals", "(IIII)Z"⟩
def wsX3_areLiterals : List Cond := .code yX3_areLiterals cX3_areLiterals 7 (some .boolean) :: xtb
abbrev cX3_isLiteralOrAbsent : ByteArray := prog_1_method_20_code
def yX3_isLiteralOrAbsent : MethodName := ⟨RX3, "isLiteralOrAbsent", "(I)Z"⟩
def wsX3_isLiteralOrAbsent : List Cond := .code yX3_isLiteralOrAbsent cX3_isLiteralOrAbsent 2 (some .boolean) :: xtb
abbrev cX3_countIfPresent : ByteArray := prog_1_method_21_code
def yX3_countIfPresent : MethodName := ⟨RX3, "countIfPresent", "(I)I"⟩
def wsX3_countIfPresent : List Cond := .code yX3_countIfPresent cX3_countIfPresent 1 (some .int) :: xtb
abbrev cX3_variableBit : ByteArray := prog_1_method_22_code
def yX3_variableBit : MethodName := ⟨RX3, "variableBit", "(I)I"⟩
def wsX3_variableBit : List Cond := .code yX3_variableBit cX3_variableBit 1 (some .int) :: xtb
abbrev cX3_bitIfTrue : ByteArray := prog_1_method_23_code
def yX3_bitIfTrue : MethodName := ⟨RX3, "bitIfTrue", "(I)I"⟩
def wsX3_bitIfTrue : List Cond := .code yX3_bitIfTrue cX3_bitIfTrue 1 (some .int) :: xtb
abbrev cX3_bitIfFalse : ByteArray := prog_1_method_24_code
def yX3_bitIfFalse : MethodName := ⟨RX3, "bitIfFalse", "(I)I"⟩
def wsX3_bitIfFalse : List Cond := .code yX3_bitIfFalse cX3_bitIfFalse 1 (some .int) :: xtb
abbrev cX4_init : ByteArray := prog_6_method_1_code
def yX4_init : MethodName := ⟨RX4, "<init>", "(I)V"⟩
def wsX4_init : List Cond := .code yX4_init cX4_init 2 none :: xtb
abbrev cX4_thrown : ByteArray := prog_6_method_2_code
def yX4_thrown : MethodName := ⟨RX4, "thrown", "()I"⟩
def wsX4_thrown : List Cond := .code yX4_thrown cX4_thrown 1 (some .int) :: xtb
abbrev cX4_variables : ByteArray := prog_6_method_3_code
def yX4_variables : MethodName := ⟨RX4, "variables", "()I"⟩
def wsX4_variables : List Cond := .code yX4_variables cX4_variables 1 (some .int) :: xtb
abbrev cX4_forget : ByteArray := prog_6_method_4_code
def yX4_forget : MethodName := ⟨RX4, "forget", "()V"⟩
def wsX4_forget : List Cond := .code yX4_forget cX4_forget 1 none :: xtb
abbrev cX4_noLiteral : ByteArray := prog_6_method_5_code
def yX4_noLiteral : MethodName := ⟨RX4, "noLiteral", "(I)Z"⟩
def wsX4_noLiteral : List Cond := .code yX4_noLiteral cX4_noLiteral 2 (some .boolean) :: xtb
abbrev cX4_says : ByteArray := prog_6_method_6_code
def yX4_says : MethodName := ⟨RX4, "says", "(II)I"⟩
def wsX4_says : List Cond := .code yX4_says cX4_says 2 (some .int) :: xtb
abbrev cX4_count : ByteArray := prog_6_method_7_code
def yX4_count : MethodName := ⟨RX4, "count", "(I)I"⟩
def wsX4_count : List Cond := .code yX4_count cX4_count 3 (some .int) :: xtb
abbrev cX4_clause : ByteArray := prog_6_method_8_code
def yX4_clause : MethodName := ⟨RX4, "clause", "(IIIII)I"⟩
def wsX4_clause : List Cond := .code yX4_clause cX4_clause 10 (some .int) :: xtb
abbrev cX4_drop : ByteArray := prog_6_method_9_code
def yX4_drop : MethodName := ⟨RX4, "drop", "()I"⟩
def wsX4_drop : List Cond := .code yX4_drop cX4_drop 1 (some .int) :: xtb
abbrev cX4_weigh : ByteArray := prog_6_method_10_code
def yX4_weigh : MethodName := ⟨RX4, "weigh", "(II)I"⟩
def wsX4_weigh : List Cond := .code yX4_weigh cX4_weigh 4 (some .int) :: xtb
abbrev cX4_clauses : ByteArray := prog_6_method_11_code
def yX4_clauses : MethodName := ⟨RX4, "clauses", "()I"⟩
def wsX4_clauses : List Cond := .code yX4_clauses cX4_clauses 1 (some .int) :: xtb
abbrev cX4_noState : ByteArray := prog_6_method_12_code
def yX4_noState : MethodName := ⟨RX4, "noState", "(II)Z"⟩
def wsX4_noState : List Cond := .code yX4_noState cX4_noState 3 (some .boolean) :: xtb
abbrev cX4_isTrue : ByteArray := prog_6_method_13_code
def yX4_isTrue : MethodName := ⟨RX4, "isTrue", "(III)Z"⟩
def wsX4_isTrue : List Cond := .code yX4_isTrue cX4_isTrue 4 (some .boolean) :: xtb
abbrev cX4_isFalse : ByteArray := prog_6_method_14_code
def yX4_isFalse : MethodName := ⟨RX4, "isFalse", "(III)Z"⟩
def wsX4_isFalse : List Cond := .code yX4_isFalse cX4_isFalse 4 (some .boolean) :: xtb
abbrev cX4_isOpen : ByteArray := prog_6_method_15_code
def yX4_isOpen : MethodName := ⟨RX4, "isOpen", "(III)Z"⟩
def wsX4_isOpen : List Cond := .code yX4_isOpen cX4_isOpen 4 (some .boolean) :: xtb
abbrev cX4_costOf : ByteArray := prog_6_method_16_code
def yX4_costOf : MethodName := ⟨RX4, "costOf", "(II)J"⟩
def wsX4_costOf : List Cond := .code yX4_costOf cX4_costOf 6 (some .long) :: xtb
abbrev cX4_breaks : ByteArray := prog_6_method_17_code
def yX4_breaks : MethodName := ⟨RX4, "breaks", "(II)Z"⟩
def wsX4_breaks : List Cond := .code yX4_breaks cX4_breaks 5 (some .boolean) :: xtb
abbrev cX4_cost : ByteArray := prog_6_method_18_code
def yX4_cost : MethodName := ⟨RX4, "cost", "(II)J"⟩
def wsX4_cost : List Cond := .code yX4_cost cX4_cost 3 (some .long) :: xtb
abbrev cX4_broken : ByteArray := prog_6_method_19_code
def yX4_broken : MethodName := ⟨RX4, "broken", "()I"⟩
def wsX4_broken : List Cond := .code yX4_broken cX4_broken 2 (some .int) :: xtb
abbrev cX4_single : ByteArray := prog_6_method_20_code
def yX4_single : MethodName := ⟨RX4, "single", "()I"⟩
def wsX4_single : List Cond := .code yX4_single cX4_single 2 (some .int) :: xtb
abbrev cX4_grow : ByteArray := prog_6_method_21_code
def yX4_grow : MethodName := ⟨RX4, "grow", "(II)I"⟩
def wsX4_grow : List Cond := .code yX4_grow cX4_grow 7 (some .int) :: xtb
abbrev cX4_gather : ByteArray := prog_6_method_22_code
def yX4_gather : MethodName := ⟨RX4, "gather", "(I)J"⟩
def wsX4_gather : List Cond := .code yX4_gather cX4_gather 10 (some .long) :: xtb
abbrev cX4_reckon : ByteArray := prog_6_method_23_code
def yX4_reckon : MethodName := ⟨RX4, "reckon", "(II)V"⟩
def wsX4_reckon : List Cond := .code yX4_reckon cX4_reckon 9 none :: xtb
abbrev cX4_bound : ByteArray := prog_6_method_24_code
def yX4_bound : MethodName := ⟨RX4, "bound", "(II)J"⟩
def wsX4_bound : List Cond := .code yX4_bound cX4_bound 3 (some .long) :: xtb
abbrev cX4_subset : ByteArray := prog_6_method_25_code
def yX4_subset : MethodName := ⟨RX4, "subset", "(III)J"⟩
def wsX4_subset : List Cond := .code yX4_subset cX4_subset 4 (some .long) :: xtb
abbrev cX4_firstOf : ByteArray := prog_6_method_26_code
def yX4_firstOf : MethodName := ⟨RX4, "firstOf", "(II)I"⟩
def wsX4_firstOf : List Cond := .code yX4_firstOf cX4_firstOf 10 (some .int) :: xtb
abbrev cX4_first : ByteArray := prog_6_method_27_code
def yX4_first : MethodName := ⟨RX4, "first", "(II)I"⟩
def wsX4_first : List Cond := .code yX4_first cX4_first 3 (some .int) :: xtb
abbrev cX4_line : ByteArray := prog_6_method_28_code
def yX4_line : MethodName := ⟨RX4, "line", "(II)V"⟩
def wsX4_line : List Cond := .code yX4_line cX4_line 3 none :: xtb
abbrev cX4_node : ByteArray := prog_6_method_29_code
def yX4_node : MethodName := ⟨RX4, "node", "(II)V"⟩
def wsX4_node : List Cond := .code yX4_node cX4_node 5 none :: xtb
abbrev cX4_solve : ByteArray := prog_6_method_30_code
def yX4_solve : MethodName := ⟨RX4, "solve", "()J"⟩
def wsX4_solve : List Cond := .code yX4_solve cX4_solve 1 (some .long) :: xtb
abbrev cX4_value : ByteArray := prog_6_method_31_code
def yX4_value : MethodName := ⟨RX4, "value", "(I)I"⟩
def wsX4_value : List Cond := .code yX4_value cX4_value 2 (some .int) :: xtb
abbrev cX4_nodes : ByteArray := prog_6_method_32_code
def yX4_nodes : MethodName := ⟨RX4, "nodes", "()I"⟩
def wsX4_nodes : List Cond := .code yX4_nodes cX4_nodes 1 (some .int) :: xtb
abbrev cX4_logged : ByteArray := prog_6_method_33_code
def yX4_logged : MethodName := ⟨RX4, "logged", "()I"⟩
def wsX4_logged : List Cond := .code yX4_logged cX4_logged 1 (some .int) :: xtb
abbrev cX4_log : ByteArray := prog_6_method_34_code
def yX4_log : MethodName := ⟨RX4, "log", "(II)I"⟩
def wsX4_log : List Cond := .code yX4_log cX4_log 3 (some .int) :: xtb
abbrev cX4_best : ByteArray := prog_6_method_35_code
def yX4_best : MethodName := ⟨RX4, "best", "(I)J"⟩
def wsX4_best : List Cond := .code yX4_best cX4_best 2 (some .long) :: xtb
abbrev cL_cell : ByteArray := method_2_code
def yL_cell : MethodName := ⟨RL, "cell", "([II)I"⟩
def wsL_cell : List Cond := .code yL_cell cL_cell 2 (some .int) :: xtb
abbrev cL_clause : ByteArray := method_3_code
def yL_clause : MethodName := ⟨RL, "clause", "(LWeightedClauses;IIIII[J)I"⟩
def wsL_clause : List Cond := .codeWith yL_clause cL_clause 8 (some .int) [(0, 16, 19, 13), (0, 16, 23, 15)] :: xtb
abbrev cL_weigh : ByteArray := method_4_code
def yL_weigh : MethodName := ⟨RL, "weigh", "(LWeightedClauses;II[J)I"⟩
def wsL_weigh : List Cond := .codeWith yL_weigh cL_weigh 5 (some .int) [(0, 10, 13, 13)] :: xtb
abbrev cL_cost : ByteArray := method_5_code
def yL_cost : MethodName := ⟨RL, "cost", "(LWeightedClauses;II[J)I"⟩
def wsL_cost : List Cond := .codeWith yL_cost cL_cost 5 (some .int) [(0, 9, 12, 13)] :: xtb
abbrev cL_bound : ByteArray := method_6_code
def yL_bound : MethodName := ⟨RL, "bound", "(LWeightedClauses;II[J)I"⟩
def wsL_bound : List Cond := .codeWith yL_bound cL_bound 5 (some .int) [(0, 9, 12, 13)] :: xtb
abbrev cL_subset : ByteArray := method_7_code
def yL_subset : MethodName := ⟨RL, "subset", "(LWeightedClauses;III[J)I"⟩
def wsL_subset : List Cond := .codeWith yL_subset cL_subset 6 (some .int) [(0, 11, 14, 13)] :: xtb
abbrev cL_first : ByteArray := method_8_code
def yL_first : MethodName := ⟨RL, "first", "(LWeightedClauses;II[J)I"⟩
def wsL_first : List Cond := .codeWith yL_first cL_first 5 (some .int) [(0, 10, 13, 13)] :: xtb
abbrev cL_law : ByteArray := code
abbrev cJ6_bitCount : ByteArray := prog_10_method_49_code
def yJ6_bitCount : MethodName := ⟨RJ6, "bitCount", "(I)I"⟩
def wsJ6_bitCount : List Cond := .code yJ6_bitCount cJ6_bitCount 1 (some .int) :: xtb
theorem inX0 : ∀ w ∈ u_ws RX0 TX0 9, w ∈ xtb := by decide +kernel
theorem inX1 : ∀ w ∈ u_ws RX1 TX1 6, w ∈ xtb := by decide +kernel
theorem inX2 : ∀ w ∈ u_ws RX2 TX2 12, w ∈ xtb := by decide +kernel
theorem inX3 : ∀ w ∈ u_ws RX3 TX3 3, w ∈ xtb := by decide +kernel
theorem inX4 : ∀ w ∈ u_ws RX4 TX4 25, w ∈ xtb := by decide +kernel
end
section
theorem dX0_init_0 : decode cX0_init 0 = .ok (.aload_n 0, 1) := by decide +kernel
theorem dX0_init_1 : decode cX0_init 1 = .ok (.invokespecial 3, 3) := by decide +kernel
theorem dX0_init_4 : decode cX0_init 4 = .ok (.aload_n 0, 1) := by decide +kernel
theorem dX0_init_5 : decode cX0_init 5 = .ok (.bipush 40, 2) := by decide +kernel
theorem dX0_init_7 : decode cX0_init 7 = .ok (.newarray .long, 2) := by decide +kernel
theorem dX0_init_9 : decode cX0_init 9 = .ok (.putfield 9, 3) := by decide +kernel
theorem dX0_init_12 : decode cX0_init 12 = .ok (.aload_n 0, 1) := by decide +kernel
theorem dX0_init_13 : decode cX0_init 13 = .ok (.bipush 10, 2) := by decide +kernel
theorem dX0_init_15 : decode cX0_init 15 = .ok (.newarray .int, 2) := by decide +kernel
theorem dX0_init_17 : decode cX0_init 17 = .ok (.putfield 15, 3) := by decide +kernel
theorem dX0_init_20 : decode cX0_init 20 = .ok (.aload_n 0, 1) := by decide +kernel
theorem dX0_init_21 : decode cX0_init 21 = .ok (.bipush 10, 2) := by decide +kernel
theorem dX0_init_23 : decode cX0_init 23 = .ok (.newarray .int, 2) := by decide +kernel
theorem dX0_init_25 : decode cX0_init 25 = .ok (.putfield 19, 3) := by decide +kernel
theorem dX0_init_28 : decode cX0_init 28 = .ok (.aload_n 0, 1) := by decide +kernel
theorem dX0_init_29 : decode cX0_init 29 = .ok (.aload_n 1, 1) := by decide +kernel
theorem dX0_init_30 : decode cX0_init 30 = .ok (.putfield 22, 3) := by decide +kernel
theorem dX0_init_33 : decode cX0_init 33 = .ok (.return_, 1) := by decide +kernel
theorem dX0_boundOf_0 : decode cX0_boundOf 0 = .ok (.aload_n 0, 1) := by decide +kernel
theorem dX0_boundOf_1 : decode cX0_boundOf 1 = .ok (.iconst 0, 1) := by decide +kernel
theorem dX0_boundOf_2 : decode cX0_boundOf 2 = .ok (.putfield 26, 3) := by decide +kernel
theorem dX0_boundOf_5 : decode cX0_boundOf 5 = .ok (.aload_n 0, 1) := by decide +kernel
theorem dX0_boundOf_6 : decode cX0_boundOf 6 = .ok (.getfield 22, 3) := by decide +kernel
theorem dX0_boundOf_9 : decode cX0_boundOf 9 = .ok (.iload_n 1, 1) := by decide +kernel
theorem dX0_boundOf_10 : decode cX0_boundOf 10 = .ok (.iload_n 2, 1) := by decide +kernel
theorem dX0_boundOf_11 : decode cX0_boundOf 11 = .ok (.invokevirtual 30, 3) := by decide +kernel
theorem dX0_boundOf_14 : decode cX0_boundOf 14 = .ok (.lstore_n 3, 1) := by decide +kernel
theorem dX0_boundOf_15 : decode cX0_boundOf 15 = .ok (.lload_n 3, 1) := by decide +kernel
theorem dX0_boundOf_16 : decode cX0_boundOf 16 = .ok (.ldc2_w 36, 3) := by decide +kernel
theorem dX0_boundOf_19 : decode cX0_boundOf 19 = .ok (.lcmp, 1) := by decide +kernel
theorem dX0_boundOf_20 : decode cX0_boundOf 20 = .ok (.ifCond .ne 7, 3) := by decide +kernel
theorem dX0_boundOf_23 : decode cX0_boundOf 23 = .ok (.ldc2_w 36, 3) := by decide +kernel
theorem dX0_boundOf_26 : decode cX0_boundOf 26 = .ok (.lreturn, 1) := by decide +kernel
theorem dX0_boundOf_27 : decode cX0_boundOf 27 = .ok (.aload_n 0, 1) := by decide +kernel
theorem dX0_boundOf_28 : decode cX0_boundOf 28 = .ok (.aload_n 0, 1) := by decide +kernel
theorem dX0_boundOf_29 : decode cX0_boundOf 29 = .ok (.getfield 22, 3) := by decide +kernel
theorem dX0_boundOf_32 : decode cX0_boundOf 32 = .ok (.iload_n 1, 1) := by decide +kernel
theorem dX0_boundOf_33 : decode cX0_boundOf 33 = .ok (.iload_n 2, 1) := by decide +kernel
theorem dX0_boundOf_34 : decode cX0_boundOf 34 = .ok (.invokevirtual 38, 3) := by decide +kernel
theorem dX0_boundOf_37 : decode cX0_boundOf 37 = .ok (.putfield 41, 3) := by decide +kernel
theorem dX0_boundOf_40 : decode cX0_boundOf 40 = .ok (.iconst 0, 1) := by decide +kernel
theorem dX0_boundOf_41 : decode cX0_boundOf 41 = .ok (.istore 5, 2) := by decide +kernel
theorem dX0_boundOf_43 : decode cX0_boundOf 43 = .ok (.iload 5, 2) := by decide +kernel
theorem dX0_boundOf_45 : decode cX0_boundOf 45 = .ok (.bipush 40, 2) := by decide +kernel
theorem dX0_boundOf_47 : decode cX0_boundOf 47 = .ok (.if_icmp .ge 84, 3) := by decide +kernel
theorem dX0_boundOf_50 : decode cX0_boundOf 50 = .ok (.aload_n 0, 1) := by decide +kernel
theorem dX0_boundOf_51 : decode cX0_boundOf 51 = .ok (.iload_n 1, 1) := by decide +kernel
theorem dX0_boundOf_52 : decode cX0_boundOf 52 = .ok (.iload_n 2, 1) := by decide +kernel
theorem dX0_boundOf_53 : decode cX0_boundOf 53 = .ok (.invokevirtual 45, 3) := by decide +kernel
theorem dX0_boundOf_56 : decode cX0_boundOf 56 = .ok (.lstore 6, 2) := by decide +kernel
theorem dX0_boundOf_58 : decode cX0_boundOf 58 = .ok (.lload 6, 2) := by decide +kernel
theorem dX0_boundOf_60 : decode cX0_boundOf 60 = .ok (.lconst 0, 1) := by decide +kernel
theorem dX0_boundOf_61 : decode cX0_boundOf 61 = .ok (.lcmp, 1) := by decide +kernel
theorem dX0_boundOf_62 : decode cX0_boundOf 62 = .ok (.ifCond .ne 5, 3) := by decide +kernel
theorem dX0_boundOf_65 : decode cX0_boundOf 65 = .ok (.lload_n 3, 1) := by decide +kernel
theorem dX0_boundOf_66 : decode cX0_boundOf 66 = .ok (.lreturn, 1) := by decide +kernel
theorem dX0_boundOf_67 : decode cX0_boundOf 67 = .ok (.aload_n 0, 1) := by decide +kernel
theorem dX0_boundOf_68 : decode cX0_boundOf 68 = .ok (.getfield 9, 3) := by decide +kernel
theorem dX0_boundOf_71 : decode cX0_boundOf 71 = .ok (.iload 5, 2) := by decide +kernel
theorem dX0_boundOf_73 : decode cX0_boundOf 73 = .ok (.lload 6, 2) := by decide +kernel
theorem dX0_boundOf_75 : decode cX0_boundOf 75 = .ok (.lastore, 1) := by decide +kernel
theorem dX0_boundOf_76 : decode cX0_boundOf 76 = .ok (.aload_n 0, 1) := by decide +kernel
theorem dX0_boundOf_77 : decode cX0_boundOf 77 = .ok (.iload 5, 2) := by decide +kernel
theorem dX0_boundOf_79 : decode cX0_boundOf 79 = .ok (.iconst 1, 1) := by decide +kernel
theorem dX0_boundOf_80 : decode cX0_boundOf 80 = .ok (.iadd, 1) := by decide +kernel
theorem dX0_boundOf_81 : decode cX0_boundOf 81 = .ok (.putfield 26, 3) := by decide +kernel
theorem dX0_boundOf_84 : decode cX0_boundOf 84 = .ok (.aload_n 0, 1) := by decide +kernel
theorem dX0_boundOf_85 : decode cX0_boundOf 85 = .ok (.getfield 22, 3) := by decide +kernel
theorem dX0_boundOf_88 : decode cX0_boundOf 88 = .ok (.lload 6, 2) := by decide +kernel
theorem dX0_boundOf_90 : decode cX0_boundOf 90 = .ok (.invokevirtual 48, 3) := by decide +kernel
theorem dX0_boundOf_93 : decode cX0_boundOf 93 = .ok (.istore 8, 2) := by decide +kernel
theorem dX0_boundOf_95 : decode cX0_boundOf 95 = .ok (.iload 8, 2) := by decide +kernel
theorem dX0_boundOf_97 : decode cX0_boundOf 97 = .ok (.ifCond .ne 7, 3) := by decide +kernel
theorem dX0_boundOf_100 : decode cX0_boundOf 100 = .ok (.ldc2_w 36, 3) := by decide +kernel
theorem dX0_boundOf_103 : decode cX0_boundOf 103 = .ok (.lreturn, 1) := by decide +kernel
theorem dX0_boundOf_104 : decode cX0_boundOf 104 = .ok (.lload_n 3, 1) := by decide +kernel
theorem dX0_boundOf_105 : decode cX0_boundOf 105 = .ok (.iload 8, 2) := by decide +kernel
theorem dX0_boundOf_107 : decode cX0_boundOf 107 = .ok (.i2l, 1) := by decide +kernel
theorem dX0_boundOf_108 : decode cX0_boundOf 108 = .ok (.ladd, 1) := by decide +kernel
theorem dX0_boundOf_109 : decode cX0_boundOf 109 = .ok (.lstore_n 3, 1) := by decide +kernel
theorem dX0_boundOf_110 : decode cX0_boundOf 110 = .ok (.aload_n 0, 1) := by decide +kernel
theorem dX0_boundOf_111 : decode cX0_boundOf 111 = .ok (.dup, 1) := by decide +kernel
theorem dX0_boundOf_112 : decode cX0_boundOf 112 = .ok (.getfield 41, 3) := by decide +kernel
theorem dX0_boundOf_115 : decode cX0_boundOf 115 = .ok (.lload 6, 2) := by decide +kernel
theorem dX0_boundOf_117 : decode cX0_boundOf 117 = .ok (.ldc2_w 52, 3) := by decide +kernel
theorem dX0_boundOf_120 : decode cX0_boundOf 120 = .ok (.lxor, 1) := by decide +kernel
theorem dX0_boundOf_121 : decode cX0_boundOf 121 = .ok (.land, 1) := by decide +kernel
theorem dX0_boundOf_122 : decode cX0_boundOf 122 = .ok (.putfield 41, 3) := by decide +kernel
theorem dX0_boundOf_125 : decode cX0_boundOf 125 = .ok (.iinc 5 1, 3) := by decide +kernel
theorem dX0_boundOf_128 : decode cX0_boundOf 128 = .ok (.goto (-85), 3) := by decide +kernel
theorem dX0_boundOf_131 : decode cX0_boundOf 131 = .ok (.lload_n 3, 1) := by decide +kernel
theorem dX0_boundOf_132 : decode cX0_boundOf 132 = .ok (.lreturn, 1) := by decide +kernel
theorem dX0_subsetAt_0 : decode cX0_subsetAt 0 = .ok (.iload_n 1, 1) := by decide +kernel
theorem dX0_subsetAt_1 : decode cX0_subsetAt 1 = .ok (.ifCond .lt 20, 3) := by decide +kernel
theorem dX0_subsetAt_4 : decode cX0_subsetAt 4 = .ok (.iload_n 1, 1) := by decide +kernel
theorem dX0_subsetAt_5 : decode cX0_subsetAt 5 = .ok (.aload_n 0, 1) := by decide +kernel
theorem dX0_subsetAt_6 : decode cX0_subsetAt 6 = .ok (.getfield 26, 3) := by decide +kernel
theorem dX0_subsetAt_9 : decode cX0_subsetAt 9 = .ok (.if_icmp .ge 12, 3) := by decide +kernel
theorem dX0_subsetAt_12 : decode cX0_subsetAt 12 = .ok (.aload_n 0, 1) := by decide +kernel
theorem dX0_subsetAt_13 : decode cX0_subsetAt 13 = .ok (.getfield 9, 3) := by decide +kernel
theorem dX0_subsetAt_16 : decode cX0_subsetAt 16 = .ok (.iload_n 1, 1) := by decide +kernel
theorem dX0_subsetAt_17 : decode cX0_subsetAt 17 = .ok (.laload, 1) := by decide +kernel
theorem dX0_subsetAt_18 : decode cX0_subsetAt 18 = .ok (.goto 4, 3) := by decide +kernel
theorem dX0_subsetAt_21 : decode cX0_subsetAt 21 = .ok (.lconst 0, 1) := by decide +kernel
theorem dX0_subsetAt_22 : decode cX0_subsetAt 22 = .ok (.lreturn, 1) := by decide +kernel
theorem dX0_nextSubset_0 : decode cX0_nextSubset 0 = .ok (.aload_n 0, 1) := by decide +kernel
theorem dX0_nextSubset_1 : decode cX0_nextSubset 1 = .ok (.iload_n 1, 1) := by decide +kernel
theorem dX0_nextSubset_2 : decode cX0_nextSubset 2 = .ok (.putfield 54, 3) := by decide +kernel
theorem dX0_nextSubset_5 : decode cX0_nextSubset 5 = .ok (.aload_n 0, 1) := by decide +kernel
theorem dX0_nextSubset_6 : decode cX0_nextSubset 6 = .ok (.iload_n 2, 1) := by decide +kernel
theorem dX0_nextSubset_7 : decode cX0_nextSubset 7 = .ok (.putfield 57, 3) := by decide +kernel
theorem dX0_nextSubset_10 : decode cX0_nextSubset 10 = .ok (.aload_n 0, 1) := by decide +kernel
theorem dX0_nextSubset_11 : decode cX0_nextSubset 11 = .ok (.iconst 0, 1) := by decide +kernel
theorem dX0_nextSubset_12 : decode cX0_nextSubset 12 = .ok (.putfield 60, 3) := by decide +kernel
theorem dX0_nextSubset_15 : decode cX0_nextSubset 15 = .ok (.iconst 0, 1) := by decide +kernel
theorem dX0_nextSubset_16 : decode cX0_nextSubset 16 = .ok (.istore_n 3, 1) := by decide +kernel
theorem dX0_nextSubset_17 : decode cX0_nextSubset 17 = .ok (.iload_n 3, 1) := by decide +kernel
theorem dX0_nextSubset_18 : decode cX0_nextSubset 18 = .ok (.bipush 10, 2) := by decide +kernel
theorem dX0_nextSubset_20 : decode cX0_nextSubset 20 = .ok (.if_icmp .gt 48, 3) := by decide +kernel
theorem dX0_nextSubset_23 : decode cX0_nextSubset 23 = .ok (.aload_n 0, 1) := by decide +kernel
theorem dX0_nextSubset_24 : decode cX0_nextSubset 24 = .ok (.invokevirtual 63, 3) := by decide +kernel
theorem dX0_nextSubset_27 : decode cX0_nextSubset 27 = .ok (.istore 4, 2) := by decide +kernel
theorem dX0_nextSubset_29 : decode cX0_nextSubset 29 = .ok (.iload 4, 2) := by decide +kernel
theorem dX0_nextSubset_31 : decode cX0_nextSubset 31 = .ok (.iconst (-1), 1) := by decide +kernel
theorem dX0_nextSubset_32 : decode cX0_nextSubset 32 = .ok (.if_icmp .eq 10, 3) := by decide +kernel
theorem dX0_nextSubset_35 : decode cX0_nextSubset 35 = .ok (.aload_n 0, 1) := by decide +kernel
theorem dX0_nextSubset_36 : decode cX0_nextSubset 36 = .ok (.iload 4, 2) := by decide +kernel
theorem dX0_nextSubset_38 : decode cX0_nextSubset 38 = .ok (.invokevirtual 67, 3) := by decide +kernel
theorem dX0_nextSubset_41 : decode cX0_nextSubset 41 = .ok (.lreturn, 1) := by decide +kernel
theorem dX0_nextSubset_42 : decode cX0_nextSubset 42 = .ok (.aload_n 0, 1) := by decide +kernel
theorem dX0_nextSubset_43 : decode cX0_nextSubset 43 = .ok (.invokevirtual 71, 3) := by decide +kernel
theorem dX0_nextSubset_46 : decode cX0_nextSubset 46 = .ok (.istore 5, 2) := by decide +kernel
theorem dX0_nextSubset_48 : decode cX0_nextSubset 48 = .ok (.iload 5, 2) := by decide +kernel
theorem dX0_nextSubset_50 : decode cX0_nextSubset 50 = .ok (.iconst (-1), 1) := by decide +kernel
theorem dX0_nextSubset_51 : decode cX0_nextSubset 51 = .ok (.if_icmp .ne 5, 3) := by decide +kernel
theorem dX0_nextSubset_54 : decode cX0_nextSubset 54 = .ok (.lconst 0, 1) := by decide +kernel
theorem dX0_nextSubset_55 : decode cX0_nextSubset 55 = .ok (.lreturn, 1) := by decide +kernel
theorem dX0_nextSubset_56 : decode cX0_nextSubset 56 = .ok (.aload_n 0, 1) := by decide +kernel
theorem dX0_nextSubset_57 : decode cX0_nextSubset 57 = .ok (.iload 5, 2) := by decide +kernel
theorem dX0_nextSubset_59 : decode cX0_nextSubset 59 = .ok (.invokevirtual 74, 3) := by decide +kernel
theorem dX0_nextSubset_62 : decode cX0_nextSubset 62 = .ok (.iinc 3 1, 3) := by decide +kernel
theorem dX0_nextSubset_65 : decode cX0_nextSubset 65 = .ok (.goto (-48), 3) := by decide +kernel
theorem dX0_nextSubset_68 : decode cX0_nextSubset 68 = .ok (.lconst 0, 1) := by decide +kernel
theorem dX0_nextSubset_69 : decode cX0_nextSubset 69 = .ok (.lreturn, 1) := by decide +kernel
theorem dX0_isAvailable_0 : decode cX0_isAvailable 0 = .ok (.aload_n 0, 1) := by decide +kernel
theorem dX0_isAvailable_1 : decode cX0_isAvailable 1 = .ok (.getfield 41, 3) := by decide +kernel
theorem dX0_isAvailable_4 : decode cX0_isAvailable 4 = .ok (.iload_n 1, 1) := by decide +kernel
theorem dX0_isAvailable_5 : decode cX0_isAvailable 5 = .ok (.lshr, 1) := by decide +kernel
theorem dX0_isAvailable_6 : decode cX0_isAvailable 6 = .ok (.lconst 1, 1) := by decide +kernel
theorem dX0_isAvailable_7 : decode cX0_isAvailable 7 = .ok (.land, 1) := by decide +kernel
theorem dX0_isAvailable_8 : decode cX0_isAvailable 8 = .ok (.lconst 0, 1) := by decide +kernel
theorem dX0_isAvailable_9 : decode cX0_isAvailable 9 = .ok (.lcmp, 1) := by decide +kernel
theorem dX0_isAvailable_10 : decode cX0_isAvailable 10 = .ok (.ifCond .eq 7, 3) := by decide +kernel
theorem dX0_isAvailable_13 : decode cX0_isAvailable 13 = .ok (.iconst 1, 1) := by decide +kernel
theorem dX0_isAvailable_14 : decode cX0_isAvailable 14 = .ok (.goto 4, 3) := by decide +kernel
theorem dX0_isAvailable_17 : decode cX0_isAvailable 17 = .ok (.iconst 0, 1) := by decide +kernel
theorem dX0_isAvailable_18 : decode cX0_isAvailable 18 = .ok (.ireturn, 1) := by decide +kernel
theorem dX0_firstFalseClause_0 : decode cX0_firstFalseClause 0 = .ok (.iconst 0, 1) := by decide +kernel
theorem dX0_firstFalseClause_1 : decode cX0_firstFalseClause 1 = .ok (.istore_n 1, 1) := by decide +kernel
theorem dX0_firstFalseClause_2 : decode cX0_firstFalseClause 2 = .ok (.iload_n 1, 1) := by decide +kernel
theorem dX0_firstFalseClause_3 : decode cX0_firstFalseClause 3 = .ok (.aload_n 0, 1) := by decide +kernel
theorem dX0_firstFalseClause_4 : decode cX0_firstFalseClause 4 = .ok (.getfield 22, 3) := by decide +kernel
theorem dX0_firstFalseClause_7 : decode cX0_firstFalseClause 7 = .ok (.getfield 78, 3) := by decide +kernel
theorem dX0_firstFalseClause_10 : decode cX0_firstFalseClause 10 = .ok (.if_icmp .ge 38, 3) := by decide +kernel
theorem dX0_firstFalseClause_13 : decode cX0_firstFalseClause 13 = .ok (.aload_n 0, 1) := by decide +kernel
theorem dX0_firstFalseClause_14 : decode cX0_firstFalseClause 14 = .ok (.iload_n 1, 1) := by decide +kernel
theorem dX0_firstFalseClause_15 : decode cX0_firstFalseClause 15 = .ok (.invokevirtual 81, 3) := by decide +kernel
theorem dX0_firstFalseClause_18 : decode cX0_firstFalseClause 18 = .ok (.ifCond .eq 24, 3) := by decide +kernel
theorem dX0_firstFalseClause_21 : decode cX0_firstFalseClause 21 = .ok (.aload_n 0, 1) := by decide +kernel
theorem dX0_firstFalseClause_22 : decode cX0_firstFalseClause 22 = .ok (.getfield 22, 3) := by decide +kernel
theorem dX0_firstFalseClause_25 : decode cX0_firstFalseClause 25 = .ok (.iload_n 1, 1) := by decide +kernel
theorem dX0_firstFalseClause_26 : decode cX0_firstFalseClause 26 = .ok (.aload_n 0, 1) := by decide +kernel
theorem dX0_firstFalseClause_27 : decode cX0_firstFalseClause 27 = .ok (.getfield 54, 3) := by decide +kernel
theorem dX0_firstFalseClause_30 : decode cX0_firstFalseClause 30 = .ok (.aload_n 0, 1) := by decide +kernel
theorem dX0_firstFalseClause_31 : decode cX0_firstFalseClause 31 = .ok (.getfield 57, 3) := by decide +kernel
theorem dX0_firstFalseClause_34 : decode cX0_firstFalseClause 34 = .ok (.invokevirtual 85, 3) := by decide +kernel
theorem dX0_firstFalseClause_37 : decode cX0_firstFalseClause 37 = .ok (.ifCond .eq 5, 3) := by decide +kernel
theorem dX0_firstFalseClause_40 : decode cX0_firstFalseClause 40 = .ok (.iload_n 1, 1) := by decide +kernel
theorem dX0_firstFalseClause_41 : decode cX0_firstFalseClause 41 = .ok (.ireturn, 1) := by decide +kernel
theorem dX0_firstFalseClause_42 : decode cX0_firstFalseClause 42 = .ok (.iinc 1 1, 3) := by decide +kernel
theorem dX0_firstFalseClause_45 : decode cX0_firstFalseClause 45 = .ok (.goto (-43), 3) := by decide +kernel
theorem dX0_firstFalseClause_48 : decode cX0_firstFalseClause 48 = .ok (.iconst (-1), 1) := by decide +kernel
theorem dX0_firstFalseClause_49 : decode cX0_firstFalseClause 49 = .ok (.ireturn, 1) := by decide +kernel
theorem dX0_firstUnitClause_0 : decode cX0_firstUnitClause 0 = .ok (.iconst 0, 1) := by decide +kernel
theorem dX0_firstUnitClause_1 : decode cX0_firstUnitClause 1 = .ok (.istore_n 1, 1) := by decide +kernel
theorem dX0_firstUnitClause_2 : decode cX0_firstUnitClause 2 = .ok (.iload_n 1, 1) := by decide +kernel
theorem dX0_firstUnitClause_3 : decode cX0_firstUnitClause 3 = .ok (.aload_n 0, 1) := by decide +kernel
theorem dX0_firstUnitClause_4 : decode cX0_firstUnitClause 4 = .ok (.getfield 22, 3) := by decide +kernel
theorem dX0_firstUnitClause_7 : decode cX0_firstUnitClause 7 = .ok (.getfield 78, 3) := by decide +kernel
theorem dX0_firstUnitClause_10 : decode cX0_firstUnitClause 10 = .ok (.if_icmp .ge 67, 3) := by decide +kernel
theorem dX0_firstUnitClause_13 : decode cX0_firstUnitClause 13 = .ok (.aload_n 0, 1) := by decide +kernel
theorem dX0_firstUnitClause_14 : decode cX0_firstUnitClause 14 = .ok (.getfield 22, 3) := by decide +kernel
theorem dX0_firstUnitClause_17 : decode cX0_firstUnitClause 17 = .ok (.iload_n 1, 1) := by decide +kernel
theorem dX0_firstUnitClause_18 : decode cX0_firstUnitClause 18 = .ok (.aload_n 0, 1) := by decide +kernel
theorem dX0_firstUnitClause_19 : decode cX0_firstUnitClause 19 = .ok (.getfield 54, 3) := by decide +kernel
theorem dX0_firstUnitClause_22 : decode cX0_firstUnitClause 22 = .ok (.invokevirtual 89, 3) := by decide +kernel
theorem dX0_firstUnitClause_25 : decode cX0_firstUnitClause 25 = .ok (.invokestatic 93, 3) := by decide +kernel
theorem dX0_firstUnitClause_28 : decode cX0_firstUnitClause 28 = .ok (.iconst 1, 1) := by decide +kernel
theorem dX0_firstUnitClause_29 : decode cX0_firstUnitClause 29 = .ok (.if_icmp .ne 7, 3) := by decide +kernel
theorem dX0_firstUnitClause_32 : decode cX0_firstUnitClause 32 = .ok (.iconst 1, 1) := by decide +kernel
theorem dX0_firstUnitClause_33 : decode cX0_firstUnitClause 33 = .ok (.goto 4, 3) := by decide +kernel
theorem dX0_firstUnitClause_36 : decode cX0_firstUnitClause 36 = .ok (.iconst 0, 1) := by decide +kernel
theorem dX0_firstUnitClause_37 : decode cX0_firstUnitClause 37 = .ok (.istore_n 2, 1) := by decide +kernel
theorem dX0_firstUnitClause_38 : decode cX0_firstUnitClause 38 = .ok (.iload_n 2, 1) := by decide +kernel
theorem dX0_firstUnitClause_39 : decode cX0_firstUnitClause 39 = .ok (.ifCond .eq 32, 3) := by decide +kernel
theorem dX0_firstUnitClause_42 : decode cX0_firstUnitClause 42 = .ok (.aload_n 0, 1) := by decide +kernel
theorem dX0_firstUnitClause_43 : decode cX0_firstUnitClause 43 = .ok (.iload_n 1, 1) := by decide +kernel
theorem dX0_firstUnitClause_44 : decode cX0_firstUnitClause 44 = .ok (.invokevirtual 81, 3) := by decide +kernel
theorem dX0_firstUnitClause_47 : decode cX0_firstUnitClause 47 = .ok (.ifCond .eq 24, 3) := by decide +kernel
theorem dX0_firstUnitClause_50 : decode cX0_firstUnitClause 50 = .ok (.aload_n 0, 1) := by decide +kernel
theorem dX0_firstUnitClause_51 : decode cX0_firstUnitClause 51 = .ok (.getfield 22, 3) := by decide +kernel
theorem dX0_firstUnitClause_54 : decode cX0_firstUnitClause 54 = .ok (.iload_n 1, 1) := by decide +kernel
theorem dX0_firstUnitClause_55 : decode cX0_firstUnitClause 55 = .ok (.aload_n 0, 1) := by decide +kernel
theorem dX0_firstUnitClause_56 : decode cX0_firstUnitClause 56 = .ok (.getfield 54, 3) := by decide +kernel
theorem dX0_firstUnitClause_59 : decode cX0_firstUnitClause 59 = .ok (.aload_n 0, 1) := by decide +kernel
theorem dX0_firstUnitClause_60 : decode cX0_firstUnitClause 60 = .ok (.getfield 57, 3) := by decide +kernel
theorem dX0_firstUnitClause_63 : decode cX0_firstUnitClause 63 = .ok (.invokevirtual 99, 3) := by decide +kernel
theorem dX0_firstUnitClause_66 : decode cX0_firstUnitClause 66 = .ok (.ifCond .ne 5, 3) := by decide +kernel
theorem dX0_firstUnitClause_69 : decode cX0_firstUnitClause 69 = .ok (.iload_n 1, 1) := by decide +kernel
theorem dX0_firstUnitClause_70 : decode cX0_firstUnitClause 70 = .ok (.ireturn, 1) := by decide +kernel
theorem dX0_firstUnitClause_71 : decode cX0_firstUnitClause 71 = .ok (.iinc 1 1, 3) := by decide +kernel
theorem dX0_firstUnitClause_74 : decode cX0_firstUnitClause 74 = .ok (.goto (-72), 3) := by decide +kernel
theorem dX0_firstUnitClause_77 : decode cX0_firstUnitClause 77 = .ok (.iconst (-1), 1) := by decide +kernel
theorem dX0_firstUnitClause_78 : decode cX0_firstUnitClause 78 = .ok (.ireturn, 1) := by decide +kernel
theorem dX0_growBy_0 : decode cX0_growBy 0 = .ok (.aload_n 0, 1) := by decide +kernel
theorem dX0_growBy_1 : decode cX0_growBy 1 = .ok (.getfield 60, 3) := by decide +kernel
theorem dX0_growBy_4 : decode cX0_growBy 4 = .ok (.bipush 10, 2) := by decide +kernel
theorem dX0_growBy_6 : decode cX0_growBy 6 = .ok (.if_icmp .lt 4, 3) := by decide +kernel
theorem dX0_growBy_9 : decode cX0_growBy 9 = .ok (.return_, 1) := by decide +kernel
theorem dX0_growBy_10 : decode cX0_growBy 10 = .ok (.aload_n 0, 1) := by decide +kernel
theorem dX0_growBy_11 : decode cX0_growBy 11 = .ok (.getfield 22, 3) := by decide +kernel
theorem dX0_growBy_14 : decode cX0_growBy 14 = .ok (.iload_n 1, 1) := by decide +kernel
theorem dX0_growBy_15 : decode cX0_growBy 15 = .ok (.aload_n 0, 1) := by decide +kernel
theorem dX0_growBy_16 : decode cX0_growBy 16 = .ok (.getfield 54, 3) := by decide +kernel
theorem dX0_growBy_19 : decode cX0_growBy 19 = .ok (.invokevirtual 89, 3) := by decide +kernel
theorem dX0_growBy_22 : decode cX0_growBy 22 = .ok (.istore_n 2, 1) := by decide +kernel
theorem dX0_growBy_23 : decode cX0_growBy 23 = .ok (.aload_n 0, 1) := by decide +kernel
theorem dX0_growBy_24 : decode cX0_growBy 24 = .ok (.dup, 1) := by decide +kernel
theorem dX0_growBy_25 : decode cX0_growBy 25 = .ok (.getfield 54, 3) := by decide +kernel
theorem dX0_growBy_28 : decode cX0_growBy 28 = .ok (.iload_n 2, 1) := by decide +kernel
theorem dX0_growBy_29 : decode cX0_growBy 29 = .ok (.ior, 1) := by decide +kernel
theorem dX0_growBy_30 : decode cX0_growBy 30 = .ok (.putfield 54, 3) := by decide +kernel
theorem dX0_growBy_33 : decode cX0_growBy 33 = .ok (.aload_n 0, 1) := by decide +kernel
theorem dX0_growBy_34 : decode cX0_growBy 34 = .ok (.dup, 1) := by decide +kernel
theorem dX0_growBy_35 : decode cX0_growBy 35 = .ok (.getfield 57, 3) := by decide +kernel
theorem dX0_growBy_38 : decode cX0_growBy 38 = .ok (.iload_n 2, 1) := by decide +kernel
theorem dX0_growBy_39 : decode cX0_growBy 39 = .ok (.aload_n 0, 1) := by decide +kernel
theorem dX0_growBy_40 : decode cX0_growBy 40 = .ok (.getfield 22, 3) := by decide +kernel
theorem dX0_growBy_43 : decode cX0_growBy 43 = .ok (.iload_n 1, 1) := by decide +kernel
theorem dX0_growBy_44 : decode cX0_growBy 44 = .ok (.invokevirtual 102, 3) := by decide +kernel
theorem dX0_growBy_47 : decode cX0_growBy 47 = .ok (.iand, 1) := by decide +kernel
theorem dX0_growBy_48 : decode cX0_growBy 48 = .ok (.ior, 1) := by decide +kernel
theorem dX0_growBy_49 : decode cX0_growBy 49 = .ok (.putfield 57, 3) := by decide +kernel
theorem dX0_growBy_52 : decode cX0_growBy 52 = .ok (.aload_n 0, 1) := by decide +kernel
theorem dX0_growBy_53 : decode cX0_growBy 53 = .ok (.getfield 15, 3) := by decide +kernel
theorem dX0_growBy_56 : decode cX0_growBy 56 = .ok (.aload_n 0, 1) := by decide +kernel
theorem dX0_growBy_57 : decode cX0_growBy 57 = .ok (.getfield 60, 3) := by decide +kernel
theorem dX0_growBy_60 : decode cX0_growBy 60 = .ok (.iload_n 2, 1) := by decide +kernel
theorem dX0_growBy_61 : decode cX0_growBy 61 = .ok (.iastore, 1) := by decide +kernel
theorem dX0_growBy_62 : decode cX0_growBy 62 = .ok (.aload_n 0, 1) := by decide +kernel
end
section
theorem dX0_growBy_63 : decode cX0_growBy 63 = .ok (.getfield 19, 3) := by decide +kernel
theorem dX0_growBy_66 : decode cX0_growBy 66 = .ok (.aload_n 0, 1) := by decide +kernel
theorem dX0_growBy_67 : decode cX0_growBy 67 = .ok (.getfield 60, 3) := by decide +kernel
theorem dX0_growBy_70 : decode cX0_growBy 70 = .ok (.iload_n 1, 1) := by decide +kernel
theorem dX0_growBy_71 : decode cX0_growBy 71 = .ok (.iastore, 1) := by decide +kernel
theorem dX0_growBy_72 : decode cX0_growBy 72 = .ok (.aload_n 0, 1) := by decide +kernel
theorem dX0_growBy_73 : decode cX0_growBy 73 = .ok (.dup, 1) := by decide +kernel
theorem dX0_growBy_74 : decode cX0_growBy 74 = .ok (.getfield 60, 3) := by decide +kernel
theorem dX0_growBy_77 : decode cX0_growBy 77 = .ok (.iconst 1, 1) := by decide +kernel
theorem dX0_growBy_78 : decode cX0_growBy 78 = .ok (.iadd, 1) := by decide +kernel
theorem dX0_growBy_79 : decode cX0_growBy 79 = .ok (.putfield 60, 3) := by decide +kernel
theorem dX0_growBy_82 : decode cX0_growBy 82 = .ok (.return_, 1) := by decide +kernel
theorem dX0_subsetBehind_0 : decode cX0_subsetBehind 0 = .ok (.lconst 1, 1) := by decide +kernel
theorem dX0_subsetBehind_1 : decode cX0_subsetBehind 1 = .ok (.iload_n 1, 1) := by decide +kernel
theorem dX0_subsetBehind_2 : decode cX0_subsetBehind 2 = .ok (.lshl, 1) := by decide +kernel
theorem dX0_subsetBehind_3 : decode cX0_subsetBehind 3 = .ok (.lstore_n 2, 1) := by decide +kernel
theorem dX0_subsetBehind_4 : decode cX0_subsetBehind 4 = .ok (.aload_n 0, 1) := by decide +kernel
theorem dX0_subsetBehind_5 : decode cX0_subsetBehind 5 = .ok (.getfield 22, 3) := by decide +kernel
theorem dX0_subsetBehind_8 : decode cX0_subsetBehind 8 = .ok (.iload_n 1, 1) := by decide +kernel
theorem dX0_subsetBehind_9 : decode cX0_subsetBehind 9 = .ok (.invokevirtual 105, 3) := by decide +kernel
theorem dX0_subsetBehind_12 : decode cX0_subsetBehind 12 = .ok (.istore 4, 2) := by decide +kernel
theorem dX0_subsetBehind_14 : decode cX0_subsetBehind 14 = .ok (.aload_n 0, 1) := by decide +kernel
theorem dX0_subsetBehind_15 : decode cX0_subsetBehind 15 = .ok (.getfield 60, 3) := by decide +kernel
theorem dX0_subsetBehind_18 : decode cX0_subsetBehind 18 = .ok (.iconst 1, 1) := by decide +kernel
theorem dX0_subsetBehind_19 : decode cX0_subsetBehind 19 = .ok (.isub, 1) := by decide +kernel
theorem dX0_subsetBehind_20 : decode cX0_subsetBehind 20 = .ok (.istore 5, 2) := by decide +kernel
theorem dX0_subsetBehind_22 : decode cX0_subsetBehind 22 = .ok (.iload 5, 2) := by decide +kernel
theorem dX0_subsetBehind_24 : decode cX0_subsetBehind 24 = .ok (.ifCond .lt 53, 3) := by decide +kernel
theorem dX0_subsetBehind_27 : decode cX0_subsetBehind 27 = .ok (.iload 4, 2) := by decide +kernel
theorem dX0_subsetBehind_29 : decode cX0_subsetBehind 29 = .ok (.aload_n 0, 1) := by decide +kernel
theorem dX0_subsetBehind_30 : decode cX0_subsetBehind 30 = .ok (.getfield 15, 3) := by decide +kernel
theorem dX0_subsetBehind_33 : decode cX0_subsetBehind 33 = .ok (.iload 5, 2) := by decide +kernel
theorem dX0_subsetBehind_35 : decode cX0_subsetBehind 35 = .ok (.iaload, 1) := by decide +kernel
theorem dX0_subsetBehind_36 : decode cX0_subsetBehind 36 = .ok (.iand, 1) := by decide +kernel
theorem dX0_subsetBehind_37 : decode cX0_subsetBehind 37 = .ok (.ifCond .eq 34, 3) := by decide +kernel
theorem dX0_subsetBehind_40 : decode cX0_subsetBehind 40 = .ok (.lload_n 2, 1) := by decide +kernel
theorem dX0_subsetBehind_41 : decode cX0_subsetBehind 41 = .ok (.lconst 1, 1) := by decide +kernel
theorem dX0_subsetBehind_42 : decode cX0_subsetBehind 42 = .ok (.aload_n 0, 1) := by decide +kernel
theorem dX0_subsetBehind_43 : decode cX0_subsetBehind 43 = .ok (.getfield 19, 3) := by decide +kernel
theorem dX0_subsetBehind_46 : decode cX0_subsetBehind 46 = .ok (.iload 5, 2) := by decide +kernel
theorem dX0_subsetBehind_48 : decode cX0_subsetBehind 48 = .ok (.iaload, 1) := by decide +kernel
theorem dX0_subsetBehind_49 : decode cX0_subsetBehind 49 = .ok (.lshl, 1) := by decide +kernel
theorem dX0_subsetBehind_50 : decode cX0_subsetBehind 50 = .ok (.lor, 1) := by decide +kernel
theorem dX0_subsetBehind_51 : decode cX0_subsetBehind 51 = .ok (.lstore_n 2, 1) := by decide +kernel
theorem dX0_subsetBehind_52 : decode cX0_subsetBehind 52 = .ok (.iload 4, 2) := by decide +kernel
theorem dX0_subsetBehind_54 : decode cX0_subsetBehind 54 = .ok (.aload_n 0, 1) := by decide +kernel
theorem dX0_subsetBehind_55 : decode cX0_subsetBehind 55 = .ok (.getfield 22, 3) := by decide +kernel
theorem dX0_subsetBehind_58 : decode cX0_subsetBehind 58 = .ok (.aload_n 0, 1) := by decide +kernel
theorem dX0_subsetBehind_59 : decode cX0_subsetBehind 59 = .ok (.getfield 19, 3) := by decide +kernel
theorem dX0_subsetBehind_62 : decode cX0_subsetBehind 62 = .ok (.iload 5, 2) := by decide +kernel
theorem dX0_subsetBehind_64 : decode cX0_subsetBehind 64 = .ok (.iaload, 1) := by decide +kernel
theorem dX0_subsetBehind_65 : decode cX0_subsetBehind 65 = .ok (.invokevirtual 105, 3) := by decide +kernel
theorem dX0_subsetBehind_68 : decode cX0_subsetBehind 68 = .ok (.ior, 1) := by decide +kernel
theorem dX0_subsetBehind_69 : decode cX0_subsetBehind 69 = .ok (.istore 4, 2) := by decide +kernel
theorem dX0_subsetBehind_71 : decode cX0_subsetBehind 71 = .ok (.iinc 5 (-1), 3) := by decide +kernel
theorem dX0_subsetBehind_74 : decode cX0_subsetBehind 74 = .ok (.goto (-52), 3) := by decide +kernel
theorem dX0_subsetBehind_77 : decode cX0_subsetBehind 77 = .ok (.lload_n 2, 1) := by decide +kernel
theorem dX0_subsetBehind_78 : decode cX0_subsetBehind 78 = .ok (.lreturn, 1) := by decide +kernel
theorem dX1_init_0 : decode cX1_init 0 = .ok (.aload_n 0, 1) := by decide +kernel
theorem dX1_init_1 : decode cX1_init 1 = .ok (.invokespecial 3, 3) := by decide +kernel
theorem dX1_init_4 : decode cX1_init 4 = .ok (.aload_n 0, 1) := by decide +kernel
theorem dX1_init_5 : decode cX1_init 5 = .ok (.bipush 40, 2) := by decide +kernel
theorem dX1_init_7 : decode cX1_init 7 = .ok (.newarray .int, 2) := by decide +kernel
theorem dX1_init_9 : decode cX1_init 9 = .ok (.putfield 9, 3) := by decide +kernel
theorem dX1_init_12 : decode cX1_init 12 = .ok (.aload_n 0, 1) := by decide +kernel
theorem dX1_init_13 : decode cX1_init 13 = .ok (.bipush 40, 2) := by decide +kernel
theorem dX1_init_15 : decode cX1_init 15 = .ok (.newarray .int, 2) := by decide +kernel
theorem dX1_init_17 : decode cX1_init 17 = .ok (.putfield 15, 3) := by decide +kernel
theorem dX1_init_20 : decode cX1_init 20 = .ok (.aload_n 0, 1) := by decide +kernel
theorem dX1_init_21 : decode cX1_init 21 = .ok (.bipush 40, 2) := by decide +kernel
theorem dX1_init_23 : decode cX1_init 23 = .ok (.newarray .int, 2) := by decide +kernel
theorem dX1_init_25 : decode cX1_init 25 = .ok (.putfield 18, 3) := by decide +kernel
theorem dX1_init_28 : decode cX1_init 28 = .ok (.aload_n 0, 1) := by decide +kernel
theorem dX1_init_29 : decode cX1_init 29 = .ok (.iload_n 1, 1) := by decide +kernel
theorem dX1_init_30 : decode cX1_init 30 = .ok (.putfield 21, 3) := by decide +kernel
theorem dX1_init_33 : decode cX1_init 33 = .ok (.aload_n 0, 1) := by decide +kernel
theorem dX1_init_34 : decode cX1_init 34 = .ok (.iconst 1, 1) := by decide +kernel
theorem dX1_init_35 : decode cX1_init 35 = .ok (.iload_n 1, 1) := by decide +kernel
theorem dX1_init_36 : decode cX1_init 36 = .ok (.ishl, 1) := by decide +kernel
theorem dX1_init_37 : decode cX1_init 37 = .ok (.iconst 1, 1) := by decide +kernel
theorem dX1_init_38 : decode cX1_init 38 = .ok (.isub, 1) := by decide +kernel
theorem dX1_init_39 : decode cX1_init 39 = .ok (.putfield 25, 3) := by decide +kernel
theorem dX1_init_42 : decode cX1_init 42 = .ok (.return_, 1) := by decide +kernel
theorem dX1_add_0 : decode cX1_add 0 = .ok (.aload_n 0, 1) := by decide +kernel
theorem dX1_add_1 : decode cX1_add 1 = .ok (.getfield 28, 3) := by decide +kernel
theorem dX1_add_4 : decode cX1_add 4 = .ok (.istore 4, 2) := by decide +kernel
theorem dX1_add_6 : decode cX1_add 6 = .ok (.iload 4, 2) := by decide +kernel
theorem dX1_add_8 : decode cX1_add 8 = .ok (.bipush 40, 2) := by decide +kernel
theorem dX1_add_10 : decode cX1_add 10 = .ok (.if_icmp .lt 5, 3) := by decide +kernel
theorem dX1_add_13 : decode cX1_add 13 = .ok (.iconst (-1), 1) := by decide +kernel
theorem dX1_add_14 : decode cX1_add 14 = .ok (.ireturn, 1) := by decide +kernel
theorem dX1_add_15 : decode cX1_add 15 = .ok (.aload_n 0, 1) := by decide +kernel
theorem dX1_add_16 : decode cX1_add 16 = .ok (.getfield 18, 3) := by decide +kernel
theorem dX1_add_19 : decode cX1_add 19 = .ok (.iload 4, 2) := by decide +kernel
theorem dX1_add_21 : decode cX1_add 21 = .ok (.iload_n 1, 1) := by decide +kernel
theorem dX1_add_22 : decode cX1_add 22 = .ok (.iastore, 1) := by decide +kernel
theorem dX1_add_23 : decode cX1_add 23 = .ok (.aload_n 0, 1) := by decide +kernel
theorem dX1_add_24 : decode cX1_add 24 = .ok (.getfield 9, 3) := by decide +kernel
theorem dX1_add_27 : decode cX1_add 27 = .ok (.iload 4, 2) := by decide +kernel
theorem dX1_add_29 : decode cX1_add 29 = .ok (.iload_n 2, 1) := by decide +kernel
theorem dX1_add_30 : decode cX1_add 30 = .ok (.iastore, 1) := by decide +kernel
theorem dX1_add_31 : decode cX1_add 31 = .ok (.aload_n 0, 1) := by decide +kernel
theorem dX1_add_32 : decode cX1_add 32 = .ok (.getfield 15, 3) := by decide +kernel
theorem dX1_add_35 : decode cX1_add 35 = .ok (.iload 4, 2) := by decide +kernel
theorem dX1_add_37 : decode cX1_add 37 = .ok (.iload_n 3, 1) := by decide +kernel
theorem dX1_add_38 : decode cX1_add 38 = .ok (.iastore, 1) := by decide +kernel
theorem dX1_add_39 : decode cX1_add 39 = .ok (.aload_n 0, 1) := by decide +kernel
theorem dX1_add_40 : decode cX1_add 40 = .ok (.iload 4, 2) := by decide +kernel
theorem dX1_add_42 : decode cX1_add 42 = .ok (.iconst 1, 1) := by decide +kernel
theorem dX1_add_43 : decode cX1_add 43 = .ok (.iadd, 1) := by decide +kernel
theorem dX1_add_44 : decode cX1_add 44 = .ok (.putfield 28, 3) := by decide +kernel
theorem dX1_add_47 : decode cX1_add 47 = .ok (.iload 4, 2) := by decide +kernel
theorem dX1_add_49 : decode cX1_add 49 = .ok (.ireturn, 1) := by decide +kernel
theorem dX1_removeLast_0 : decode cX1_removeLast 0 = .ok (.aload_n 0, 1) := by decide +kernel
theorem dX1_removeLast_1 : decode cX1_removeLast 1 = .ok (.iconst 0, 1) := by decide +kernel
theorem dX1_removeLast_2 : decode cX1_removeLast 2 = .ok (.aload_n 0, 1) := by decide +kernel
theorem dX1_removeLast_3 : decode cX1_removeLast 3 = .ok (.getfield 28, 3) := by decide +kernel
theorem dX1_removeLast_6 : decode cX1_removeLast 6 = .ok (.iconst 1, 1) := by decide +kernel
theorem dX1_removeLast_7 : decode cX1_removeLast 7 = .ok (.isub, 1) := by decide +kernel
theorem dX1_removeLast_8 : decode cX1_removeLast 8 = .ok (.invokestatic 31, 3) := by decide +kernel
theorem dX1_removeLast_11 : decode cX1_removeLast 11 = .ok (.putfield 28, 3) := by decide +kernel
theorem dX1_removeLast_14 : decode cX1_removeLast 14 = .ok (.aload_n 0, 1) := by decide +kernel
theorem dX1_removeLast_15 : decode cX1_removeLast 15 = .ok (.getfield 28, 3) := by decide +kernel
theorem dX1_removeLast_18 : decode cX1_removeLast 18 = .ok (.ireturn, 1) := by decide +kernel
theorem dX1_replaceWeight_0 : decode cX1_replaceWeight 0 = .ok (.aload_n 0, 1) := by decide +kernel
theorem dX1_replaceWeight_1 : decode cX1_replaceWeight 1 = .ok (.getfield 18, 3) := by decide +kernel
theorem dX1_replaceWeight_4 : decode cX1_replaceWeight 4 = .ok (.iload_n 1, 1) := by decide +kernel
theorem dX1_replaceWeight_5 : decode cX1_replaceWeight 5 = .ok (.iaload, 1) := by decide +kernel
theorem dX1_replaceWeight_6 : decode cX1_replaceWeight 6 = .ok (.istore_n 3, 1) := by decide +kernel
theorem dX1_replaceWeight_7 : decode cX1_replaceWeight 7 = .ok (.aload_n 0, 1) := by decide +kernel
theorem dX1_replaceWeight_8 : decode cX1_replaceWeight 8 = .ok (.getfield 18, 3) := by decide +kernel
theorem dX1_replaceWeight_11 : decode cX1_replaceWeight 11 = .ok (.iload_n 1, 1) := by decide +kernel
theorem dX1_replaceWeight_12 : decode cX1_replaceWeight 12 = .ok (.iload_n 2, 1) := by decide +kernel
theorem dX1_replaceWeight_13 : decode cX1_replaceWeight 13 = .ok (.iastore, 1) := by decide +kernel
theorem dX1_replaceWeight_14 : decode cX1_replaceWeight 14 = .ok (.iload_n 3, 1) := by decide +kernel
theorem dX1_replaceWeight_15 : decode cX1_replaceWeight 15 = .ok (.ireturn, 1) := by decide +kernel
theorem dX1_variablesOf_0 : decode cX1_variablesOf 0 = .ok (.aload_n 0, 1) := by decide +kernel
theorem dX1_variablesOf_1 : decode cX1_variablesOf 1 = .ok (.getfield 9, 3) := by decide +kernel
theorem dX1_variablesOf_4 : decode cX1_variablesOf 4 = .ok (.iload_n 1, 1) := by decide +kernel
theorem dX1_variablesOf_5 : decode cX1_variablesOf 5 = .ok (.iaload, 1) := by decide +kernel
theorem dX1_variablesOf_6 : decode cX1_variablesOf 6 = .ok (.aload_n 0, 1) := by decide +kernel
theorem dX1_variablesOf_7 : decode cX1_variablesOf 7 = .ok (.getfield 15, 3) := by decide +kernel
theorem dX1_variablesOf_10 : decode cX1_variablesOf 10 = .ok (.iload_n 1, 1) := by decide +kernel
theorem dX1_variablesOf_11 : decode cX1_variablesOf 11 = .ok (.iaload, 1) := by decide +kernel
theorem dX1_variablesOf_12 : decode cX1_variablesOf 12 = .ok (.ior, 1) := by decide +kernel
theorem dX1_variablesOf_13 : decode cX1_variablesOf 13 = .ok (.ireturn, 1) := by decide +kernel
theorem dX1_withoutValue_0 : decode cX1_withoutValue 0 = .ok (.aload_n 0, 1) := by decide +kernel
theorem dX1_withoutValue_1 : decode cX1_withoutValue 1 = .ok (.getfield 9, 3) := by decide +kernel
theorem dX1_withoutValue_4 : decode cX1_withoutValue 4 = .ok (.iload_n 1, 1) := by decide +kernel
theorem dX1_withoutValue_5 : decode cX1_withoutValue 5 = .ok (.iaload, 1) := by decide +kernel
theorem dX1_withoutValue_6 : decode cX1_withoutValue 6 = .ok (.aload_n 0, 1) := by decide +kernel
theorem dX1_withoutValue_7 : decode cX1_withoutValue 7 = .ok (.getfield 15, 3) := by decide +kernel
theorem dX1_withoutValue_10 : decode cX1_withoutValue 10 = .ok (.iload_n 1, 1) := by decide +kernel
theorem dX1_withoutValue_11 : decode cX1_withoutValue 11 = .ok (.iaload, 1) := by decide +kernel
theorem dX1_withoutValue_12 : decode cX1_withoutValue 12 = .ok (.ior, 1) := by decide +kernel
theorem dX1_withoutValue_13 : decode cX1_withoutValue 13 = .ok (.iload_n 2, 1) := by decide +kernel
theorem dX1_withoutValue_14 : decode cX1_withoutValue 14 = .ok (.iconst (-1), 1) := by decide +kernel
theorem dX1_withoutValue_15 : decode cX1_withoutValue 15 = .ok (.ixor, 1) := by decide +kernel
theorem dX1_withoutValue_16 : decode cX1_withoutValue 16 = .ok (.iand, 1) := by decide +kernel
theorem dX1_withoutValue_17 : decode cX1_withoutValue 17 = .ok (.ireturn, 1) := by decide +kernel
theorem dX1_literalsSayingTrue_0 : decode cX1_literalsSayingTrue 0 = .ok (.aload_n 0, 1) := by decide +kernel
theorem dX1_literalsSayingTrue_1 : decode cX1_literalsSayingTrue 1 = .ok (.getfield 9, 3) := by decide +kernel
theorem dX1_literalsSayingTrue_4 : decode cX1_literalsSayingTrue 4 = .ok (.iload_n 1, 1) := by decide +kernel
theorem dX1_literalsSayingTrue_5 : decode cX1_literalsSayingTrue 5 = .ok (.iaload, 1) := by decide +kernel
theorem dX1_literalsSayingTrue_6 : decode cX1_literalsSayingTrue 6 = .ok (.ireturn, 1) := by decide +kernel
theorem dX1_isTrue_0 : decode cX1_isTrue 0 = .ok (.aload_n 0, 1) := by decide +kernel
theorem dX1_isTrue_1 : decode cX1_isTrue 1 = .ok (.getfield 9, 3) := by decide +kernel
theorem dX1_isTrue_4 : decode cX1_isTrue 4 = .ok (.iload_n 1, 1) := by decide +kernel
theorem dX1_isTrue_5 : decode cX1_isTrue 5 = .ok (.iaload, 1) := by decide +kernel
theorem dX1_isTrue_6 : decode cX1_isTrue 6 = .ok (.iload_n 3, 1) := by decide +kernel
theorem dX1_isTrue_7 : decode cX1_isTrue 7 = .ok (.iand, 1) := by decide +kernel
theorem dX1_isTrue_8 : decode cX1_isTrue 8 = .ok (.ifCond .ne 18, 3) := by decide +kernel
theorem dX1_isTrue_11 : decode cX1_isTrue 11 = .ok (.aload_n 0, 1) := by decide +kernel
theorem dX1_isTrue_12 : decode cX1_isTrue 12 = .ok (.getfield 15, 3) := by decide +kernel
theorem dX1_isTrue_15 : decode cX1_isTrue 15 = .ok (.iload_n 1, 1) := by decide +kernel
theorem dX1_isTrue_16 : decode cX1_isTrue 16 = .ok (.iaload, 1) := by decide +kernel
theorem dX1_isTrue_17 : decode cX1_isTrue 17 = .ok (.iload_n 2, 1) := by decide +kernel
theorem dX1_isTrue_18 : decode cX1_isTrue 18 = .ok (.iand, 1) := by decide +kernel
theorem dX1_isTrue_19 : decode cX1_isTrue 19 = .ok (.iload_n 3, 1) := by decide +kernel
theorem dX1_isTrue_20 : decode cX1_isTrue 20 = .ok (.iconst (-1), 1) := by decide +kernel
theorem dX1_isTrue_21 : decode cX1_isTrue 21 = .ok (.ixor, 1) := by decide +kernel
theorem dX1_isTrue_22 : decode cX1_isTrue 22 = .ok (.iand, 1) := by decide +kernel
theorem dX1_isTrue_23 : decode cX1_isTrue 23 = .ok (.ifCond .eq 7, 3) := by decide +kernel
theorem dX1_isTrue_26 : decode cX1_isTrue 26 = .ok (.iconst 1, 1) := by decide +kernel
theorem dX1_isTrue_27 : decode cX1_isTrue 27 = .ok (.goto 4, 3) := by decide +kernel
theorem dX1_isTrue_30 : decode cX1_isTrue 30 = .ok (.iconst 0, 1) := by decide +kernel
theorem dX1_isTrue_31 : decode cX1_isTrue 31 = .ok (.ireturn, 1) := by decide +kernel
theorem dX1_isFalse_0 : decode cX1_isFalse 0 = .ok (.aload_n 0, 1) := by decide +kernel
theorem dX1_isFalse_1 : decode cX1_isFalse 1 = .ok (.getfield 9, 3) := by decide +kernel
theorem dX1_isFalse_4 : decode cX1_isFalse 4 = .ok (.iload_n 1, 1) := by decide +kernel
theorem dX1_isFalse_5 : decode cX1_isFalse 5 = .ok (.iaload, 1) := by decide +kernel
theorem dX1_isFalse_6 : decode cX1_isFalse 6 = .ok (.aload_n 0, 1) := by decide +kernel
theorem dX1_isFalse_7 : decode cX1_isFalse 7 = .ok (.getfield 15, 3) := by decide +kernel
theorem dX1_isFalse_10 : decode cX1_isFalse 10 = .ok (.iload_n 1, 1) := by decide +kernel
theorem dX1_isFalse_11 : decode cX1_isFalse 11 = .ok (.iaload, 1) := by decide +kernel
theorem dX1_isFalse_12 : decode cX1_isFalse 12 = .ok (.ior, 1) := by decide +kernel
theorem dX1_isFalse_13 : decode cX1_isFalse 13 = .ok (.istore 4, 2) := by decide +kernel
theorem dX1_isFalse_15 : decode cX1_isFalse 15 = .ok (.iload 4, 2) := by decide +kernel
theorem dX1_isFalse_17 : decode cX1_isFalse 17 = .ok (.iload_n 2, 1) := by decide +kernel
theorem dX1_isFalse_18 : decode cX1_isFalse 18 = .ok (.iconst (-1), 1) := by decide +kernel
theorem dX1_isFalse_19 : decode cX1_isFalse 19 = .ok (.ixor, 1) := by decide +kernel
theorem dX1_isFalse_20 : decode cX1_isFalse 20 = .ok (.iand, 1) := by decide +kernel
theorem dX1_isFalse_21 : decode cX1_isFalse 21 = .ok (.ifCond .ne 20, 3) := by decide +kernel
theorem dX1_isFalse_24 : decode cX1_isFalse 24 = .ok (.iload 4, 2) := by decide +kernel
theorem dX1_isFalse_26 : decode cX1_isFalse 26 = .ok (.iload_n 3, 1) := by decide +kernel
theorem dX1_isFalse_27 : decode cX1_isFalse 27 = .ok (.iand, 1) := by decide +kernel
theorem dX1_isFalse_28 : decode cX1_isFalse 28 = .ok (.aload_n 0, 1) := by decide +kernel
theorem dX1_isFalse_29 : decode cX1_isFalse 29 = .ok (.getfield 15, 3) := by decide +kernel
theorem dX1_isFalse_32 : decode cX1_isFalse 32 = .ok (.iload_n 1, 1) := by decide +kernel
theorem dX1_isFalse_33 : decode cX1_isFalse 33 = .ok (.iaload, 1) := by decide +kernel
theorem dX1_isFalse_34 : decode cX1_isFalse 34 = .ok (.if_icmp .ne 7, 3) := by decide +kernel
theorem dX1_isFalse_37 : decode cX1_isFalse 37 = .ok (.iconst 1, 1) := by decide +kernel
theorem dX1_isFalse_38 : decode cX1_isFalse 38 = .ok (.goto 4, 3) := by decide +kernel
theorem dX1_isFalse_41 : decode cX1_isFalse 41 = .ok (.iconst 0, 1) := by decide +kernel
theorem dX1_isFalse_42 : decode cX1_isFalse 42 = .ok (.ireturn, 1) := by decide +kernel
theorem dX1_openClauses_0 : decode cX1_openClauses 0 = .ok (.lconst 0, 1) := by decide +kernel
theorem dX1_openClauses_1 : decode cX1_openClauses 1 = .ok (.lstore_n 3, 1) := by decide +kernel
theorem dX1_openClauses_2 : decode cX1_openClauses 2 = .ok (.iconst 0, 1) := by decide +kernel
theorem dX1_openClauses_3 : decode cX1_openClauses 3 = .ok (.istore 5, 2) := by decide +kernel
theorem dX1_openClauses_5 : decode cX1_openClauses 5 = .ok (.iload 5, 2) := by decide +kernel
theorem dX1_openClauses_7 : decode cX1_openClauses 7 = .ok (.aload_n 0, 1) := by decide +kernel
theorem dX1_openClauses_8 : decode cX1_openClauses 8 = .ok (.getfield 28, 3) := by decide +kernel
theorem dX1_openClauses_11 : decode cX1_openClauses 11 = .ok (.if_icmp .ge 37, 3) := by decide +kernel
theorem dX1_openClauses_14 : decode cX1_openClauses 14 = .ok (.aload_n 0, 1) := by decide +kernel
theorem dX1_openClauses_15 : decode cX1_openClauses 15 = .ok (.iload 5, 2) := by decide +kernel
theorem dX1_openClauses_17 : decode cX1_openClauses 17 = .ok (.iload_n 1, 1) := by decide +kernel
theorem dX1_openClauses_18 : decode cX1_openClauses 18 = .ok (.invokevirtual 37, 3) := by decide +kernel
theorem dX1_openClauses_21 : decode cX1_openClauses 21 = .ok (.ifCond .eq 21, 3) := by decide +kernel
theorem dX1_openClauses_24 : decode cX1_openClauses 24 = .ok (.aload_n 0, 1) := by decide +kernel
theorem dX1_openClauses_25 : decode cX1_openClauses 25 = .ok (.iload 5, 2) := by decide +kernel
theorem dX1_openClauses_27 : decode cX1_openClauses 27 = .ok (.iload_n 1, 1) := by decide +kernel
theorem dX1_openClauses_28 : decode cX1_openClauses 28 = .ok (.iload_n 2, 1) := by decide +kernel
theorem dX1_openClauses_29 : decode cX1_openClauses 29 = .ok (.invokevirtual 40, 3) := by decide +kernel
theorem dX1_openClauses_32 : decode cX1_openClauses 32 = .ok (.ifCond .ne 10, 3) := by decide +kernel
theorem dX1_openClauses_35 : decode cX1_openClauses 35 = .ok (.lload_n 3, 1) := by decide +kernel
theorem dX1_openClauses_36 : decode cX1_openClauses 36 = .ok (.lconst 1, 1) := by decide +kernel
theorem dX1_openClauses_37 : decode cX1_openClauses 37 = .ok (.iload 5, 2) := by decide +kernel
theorem dX1_openClauses_39 : decode cX1_openClauses 39 = .ok (.lshl, 1) := by decide +kernel
theorem dX1_openClauses_40 : decode cX1_openClauses 40 = .ok (.lor, 1) := by decide +kernel
theorem dX1_openClauses_41 : decode cX1_openClauses 41 = .ok (.lstore_n 3, 1) := by decide +kernel
theorem dX1_openClauses_42 : decode cX1_openClauses 42 = .ok (.iinc 5 1, 3) := by decide +kernel
theorem dX1_openClauses_45 : decode cX1_openClauses 45 = .ok (.goto (-40), 3) := by decide +kernel
theorem dX1_openClauses_48 : decode cX1_openClauses 48 = .ok (.lload_n 3, 1) := by decide +kernel
theorem dX1_openClauses_49 : decode cX1_openClauses 49 = .ok (.lreturn, 1) := by decide +kernel
theorem dX1_costOf_0 : decode cX1_costOf 0 = .ok (.lconst 0, 1) := by decide +kernel
theorem dX1_costOf_1 : decode cX1_costOf 1 = .ok (.lstore_n 3, 1) := by decide +kernel
theorem dX1_costOf_2 : decode cX1_costOf 2 = .ok (.iconst 0, 1) := by decide +kernel
theorem dX1_costOf_3 : decode cX1_costOf 3 = .ok (.istore 5, 2) := by decide +kernel
theorem dX1_costOf_5 : decode cX1_costOf 5 = .ok (.iload 5, 2) := by decide +kernel
theorem dX1_costOf_7 : decode cX1_costOf 7 = .ok (.aload_n 0, 1) := by decide +kernel
theorem dX1_costOf_8 : decode cX1_costOf 8 = .ok (.getfield 28, 3) := by decide +kernel
theorem dX1_costOf_11 : decode cX1_costOf 11 = .ok (.if_icmp .ge 45, 3) := by decide +kernel
theorem dX1_costOf_14 : decode cX1_costOf 14 = .ok (.aload_n 0, 1) := by decide +kernel
theorem dX1_costOf_15 : decode cX1_costOf 15 = .ok (.iload 5, 2) := by decide +kernel
theorem dX1_costOf_17 : decode cX1_costOf 17 = .ok (.iload_n 1, 1) := by decide +kernel
theorem dX1_costOf_18 : decode cX1_costOf 18 = .ok (.iload_n 2, 1) := by decide +kernel
theorem dX1_costOf_19 : decode cX1_costOf 19 = .ok (.invokevirtual 44, 3) := by decide +kernel
theorem dX1_costOf_22 : decode cX1_costOf 22 = .ok (.ifCond .eq 28, 3) := by decide +kernel
theorem dX1_costOf_25 : decode cX1_costOf 25 = .ok (.aload_n 0, 1) := by decide +kernel
theorem dX1_costOf_26 : decode cX1_costOf 26 = .ok (.getfield 18, 3) := by decide +kernel
end
section
theorem dX1_costOf_29 : decode cX1_costOf 29 = .ok (.iload 5, 2) := by decide +kernel
theorem dX1_costOf_31 : decode cX1_costOf 31 = .ok (.iaload, 1) := by decide +kernel
theorem dX1_costOf_32 : decode cX1_costOf 32 = .ok (.ifCond .ne 7, 3) := by decide +kernel
theorem dX1_costOf_35 : decode cX1_costOf 35 = .ok (.ldc2_w 47, 3) := by decide +kernel
theorem dX1_costOf_38 : decode cX1_costOf 38 = .ok (.lreturn, 1) := by decide +kernel
theorem dX1_costOf_39 : decode cX1_costOf 39 = .ok (.lload_n 3, 1) := by decide +kernel
theorem dX1_costOf_40 : decode cX1_costOf 40 = .ok (.aload_n 0, 1) := by decide +kernel
theorem dX1_costOf_41 : decode cX1_costOf 41 = .ok (.getfield 18, 3) := by decide +kernel
theorem dX1_costOf_44 : decode cX1_costOf 44 = .ok (.iload 5, 2) := by decide +kernel
theorem dX1_costOf_46 : decode cX1_costOf 46 = .ok (.iaload, 1) := by decide +kernel
theorem dX1_costOf_47 : decode cX1_costOf 47 = .ok (.i2l, 1) := by decide +kernel
theorem dX1_costOf_48 : decode cX1_costOf 48 = .ok (.ladd, 1) := by decide +kernel
theorem dX1_costOf_49 : decode cX1_costOf 49 = .ok (.lstore_n 3, 1) := by decide +kernel
theorem dX1_costOf_50 : decode cX1_costOf 50 = .ok (.iinc 5 1, 3) := by decide +kernel
theorem dX1_costOf_53 : decode cX1_costOf 53 = .ok (.goto (-48), 3) := by decide +kernel
theorem dX1_costOf_56 : decode cX1_costOf 56 = .ok (.lload_n 3, 1) := by decide +kernel
theorem dX1_costOf_57 : decode cX1_costOf 57 = .ok (.lreturn, 1) := by decide +kernel
theorem dX1_lightestWeight_0 : decode cX1_lightestWeight 0 = .ok (.iconst 0, 1) := by decide +kernel
theorem dX1_lightestWeight_1 : decode cX1_lightestWeight 1 = .ok (.istore_n 3, 1) := by decide +kernel
theorem dX1_lightestWeight_2 : decode cX1_lightestWeight 2 = .ok (.iconst 0, 1) := by decide +kernel
theorem dX1_lightestWeight_3 : decode cX1_lightestWeight 3 = .ok (.istore 4, 2) := by decide +kernel
theorem dX1_lightestWeight_5 : decode cX1_lightestWeight 5 = .ok (.iload 4, 2) := by decide +kernel
theorem dX1_lightestWeight_7 : decode cX1_lightestWeight 7 = .ok (.aload_n 0, 1) := by decide +kernel
theorem dX1_lightestWeight_8 : decode cX1_lightestWeight 8 = .ok (.getfield 28, 3) := by decide +kernel
theorem dX1_lightestWeight_11 : decode cX1_lightestWeight 11 = .ok (.if_icmp .ge 65, 3) := by decide +kernel
theorem dX1_lightestWeight_14 : decode cX1_lightestWeight 14 = .ok (.lload_n 1, 1) := by decide +kernel
theorem dX1_lightestWeight_15 : decode cX1_lightestWeight 15 = .ok (.iload 4, 2) := by decide +kernel
theorem dX1_lightestWeight_17 : decode cX1_lightestWeight 17 = .ok (.lshr, 1) := by decide +kernel
theorem dX1_lightestWeight_18 : decode cX1_lightestWeight 18 = .ok (.lconst 1, 1) := by decide +kernel
theorem dX1_lightestWeight_19 : decode cX1_lightestWeight 19 = .ok (.land, 1) := by decide +kernel
theorem dX1_lightestWeight_20 : decode cX1_lightestWeight 20 = .ok (.lconst 0, 1) := by decide +kernel
theorem dX1_lightestWeight_21 : decode cX1_lightestWeight 21 = .ok (.lcmp, 1) := by decide +kernel
theorem dX1_lightestWeight_22 : decode cX1_lightestWeight 22 = .ok (.ifCond .eq 17, 3) := by decide +kernel
theorem dX1_lightestWeight_25 : decode cX1_lightestWeight 25 = .ok (.aload_n 0, 1) := by decide +kernel
theorem dX1_lightestWeight_26 : decode cX1_lightestWeight 26 = .ok (.getfield 18, 3) := by decide +kernel
theorem dX1_lightestWeight_29 : decode cX1_lightestWeight 29 = .ok (.iload 4, 2) := by decide +kernel
theorem dX1_lightestWeight_31 : decode cX1_lightestWeight 31 = .ok (.iaload, 1) := by decide +kernel
theorem dX1_lightestWeight_32 : decode cX1_lightestWeight 32 = .ok (.ifCond .eq 7, 3) := by decide +kernel
theorem dX1_lightestWeight_35 : decode cX1_lightestWeight 35 = .ok (.iconst 1, 1) := by decide +kernel
theorem dX1_lightestWeight_36 : decode cX1_lightestWeight 36 = .ok (.goto 4, 3) := by decide +kernel
theorem dX1_lightestWeight_39 : decode cX1_lightestWeight 39 = .ok (.iconst 0, 1) := by decide +kernel
theorem dX1_lightestWeight_40 : decode cX1_lightestWeight 40 = .ok (.istore 5, 2) := by decide +kernel
theorem dX1_lightestWeight_42 : decode cX1_lightestWeight 42 = .ok (.iload 5, 2) := by decide +kernel
theorem dX1_lightestWeight_44 : decode cX1_lightestWeight 44 = .ok (.ifCond .eq 26, 3) := by decide +kernel
theorem dX1_lightestWeight_47 : decode cX1_lightestWeight 47 = .ok (.iload_n 3, 1) := by decide +kernel
theorem dX1_lightestWeight_48 : decode cX1_lightestWeight 48 = .ok (.ifCond .eq 14, 3) := by decide +kernel
theorem dX1_lightestWeight_51 : decode cX1_lightestWeight 51 = .ok (.aload_n 0, 1) := by decide +kernel
theorem dX1_lightestWeight_52 : decode cX1_lightestWeight 52 = .ok (.getfield 18, 3) := by decide +kernel
theorem dX1_lightestWeight_55 : decode cX1_lightestWeight 55 = .ok (.iload 4, 2) := by decide +kernel
theorem dX1_lightestWeight_57 : decode cX1_lightestWeight 57 = .ok (.iaload, 1) := by decide +kernel
theorem dX1_lightestWeight_58 : decode cX1_lightestWeight 58 = .ok (.iload_n 3, 1) := by decide +kernel
theorem dX1_lightestWeight_59 : decode cX1_lightestWeight 59 = .ok (.if_icmp .ge 11, 3) := by decide +kernel
theorem dX1_lightestWeight_62 : decode cX1_lightestWeight 62 = .ok (.aload_n 0, 1) := by decide +kernel
theorem dX1_lightestWeight_63 : decode cX1_lightestWeight 63 = .ok (.getfield 18, 3) := by decide +kernel
theorem dX1_lightestWeight_66 : decode cX1_lightestWeight 66 = .ok (.iload 4, 2) := by decide +kernel
theorem dX1_lightestWeight_68 : decode cX1_lightestWeight 68 = .ok (.iaload, 1) := by decide +kernel
theorem dX1_lightestWeight_69 : decode cX1_lightestWeight 69 = .ok (.istore_n 3, 1) := by decide +kernel
theorem dX1_lightestWeight_70 : decode cX1_lightestWeight 70 = .ok (.iinc 4 1, 3) := by decide +kernel
theorem dX1_lightestWeight_73 : decode cX1_lightestWeight 73 = .ok (.goto (-68), 3) := by decide +kernel
theorem dX1_lightestWeight_76 : decode cX1_lightestWeight 76 = .ok (.iload_n 3, 1) := by decide +kernel
theorem dX1_lightestWeight_77 : decode cX1_lightestWeight 77 = .ok (.ireturn, 1) := by decide +kernel
theorem dX1_firstLiteral_0 : decode cX1_firstLiteral 0 = .ok (.aload_n 0, 1) := by decide +kernel
theorem dX1_firstLiteral_1 : decode cX1_firstLiteral 1 = .ok (.iload_n 1, 1) := by decide +kernel
theorem dX1_firstLiteral_2 : decode cX1_firstLiteral 2 = .ok (.iload_n 2, 1) := by decide +kernel
theorem dX1_firstLiteral_3 : decode cX1_firstLiteral 3 = .ok (.invokevirtual 49, 3) := by decide +kernel
theorem dX1_firstLiteral_6 : decode cX1_firstLiteral 6 = .ok (.lstore_n 3, 1) := by decide +kernel
theorem dX1_firstLiteral_7 : decode cX1_firstLiteral 7 = .ok (.iconst (-1), 1) := by decide +kernel
theorem dX1_firstLiteral_8 : decode cX1_firstLiteral 8 = .ok (.istore 5, 2) := by decide +kernel
theorem dX1_firstLiteral_10 : decode cX1_firstLiteral 10 = .ok (.iconst (-1), 1) := by decide +kernel
theorem dX1_firstLiteral_11 : decode cX1_firstLiteral 11 = .ok (.istore 6, 2) := by decide +kernel
theorem dX1_firstLiteral_13 : decode cX1_firstLiteral 13 = .ok (.iconst 0, 1) := by decide +kernel
theorem dX1_firstLiteral_14 : decode cX1_firstLiteral 14 = .ok (.istore 7, 2) := by decide +kernel
theorem dX1_firstLiteral_16 : decode cX1_firstLiteral 16 = .ok (.iload 7, 2) := by decide +kernel
theorem dX1_firstLiteral_18 : decode cX1_firstLiteral 18 = .ok (.aload_n 0, 1) := by decide +kernel
theorem dX1_firstLiteral_19 : decode cX1_firstLiteral 19 = .ok (.getfield 21, 3) := by decide +kernel
theorem dX1_firstLiteral_22 : decode cX1_firstLiteral 22 = .ok (.if_icmp .ge 83, 3) := by decide +kernel
theorem dX1_firstLiteral_25 : decode cX1_firstLiteral 25 = .ok (.aload_n 0, 1) := by decide +kernel
theorem dX1_firstLiteral_26 : decode cX1_firstLiteral 26 = .ok (.aload_n 0, 1) := by decide +kernel
theorem dX1_firstLiteral_27 : decode cX1_firstLiteral 27 = .ok (.getfield 9, 3) := by decide +kernel
theorem dX1_firstLiteral_30 : decode cX1_firstLiteral 30 = .ok (.iload 7, 2) := by decide +kernel
theorem dX1_firstLiteral_32 : decode cX1_firstLiteral 32 = .ok (.lload_n 3, 1) := by decide +kernel
theorem dX1_firstLiteral_33 : decode cX1_firstLiteral 33 = .ok (.invokevirtual 53, 3) := by decide +kernel
theorem dX1_firstLiteral_36 : decode cX1_firstLiteral 36 = .ok (.istore 8, 2) := by decide +kernel
theorem dX1_firstLiteral_38 : decode cX1_firstLiteral 38 = .ok (.aload_n 0, 1) := by decide +kernel
theorem dX1_firstLiteral_39 : decode cX1_firstLiteral 39 = .ok (.aload_n 0, 1) := by decide +kernel
theorem dX1_firstLiteral_40 : decode cX1_firstLiteral 40 = .ok (.getfield 15, 3) := by decide +kernel
theorem dX1_firstLiteral_43 : decode cX1_firstLiteral 43 = .ok (.iload 7, 2) := by decide +kernel
theorem dX1_firstLiteral_45 : decode cX1_firstLiteral 45 = .ok (.lload_n 3, 1) := by decide +kernel
theorem dX1_firstLiteral_46 : decode cX1_firstLiteral 46 = .ok (.invokevirtual 53, 3) := by decide +kernel
theorem dX1_firstLiteral_49 : decode cX1_firstLiteral 49 = .ok (.istore 9, 2) := by decide +kernel
theorem dX1_firstLiteral_51 : decode cX1_firstLiteral 51 = .ok (.iload_n 1, 1) := by decide +kernel
theorem dX1_firstLiteral_52 : decode cX1_firstLiteral 52 = .ok (.iload 7, 2) := by decide +kernel
theorem dX1_firstLiteral_54 : decode cX1_firstLiteral 54 = .ok (.ishr, 1) := by decide +kernel
theorem dX1_firstLiteral_55 : decode cX1_firstLiteral 55 = .ok (.iconst 1, 1) := by decide +kernel
theorem dX1_firstLiteral_56 : decode cX1_firstLiteral 56 = .ok (.iand, 1) := by decide +kernel
theorem dX1_firstLiteral_57 : decode cX1_firstLiteral 57 = .ok (.ifCond .ne 42, 3) := by decide +kernel
theorem dX1_firstLiteral_60 : decode cX1_firstLiteral 60 = .ok (.iload 8, 2) := by decide +kernel
theorem dX1_firstLiteral_62 : decode cX1_firstLiteral 62 = .ok (.iload 9, 2) := by decide +kernel
theorem dX1_firstLiteral_64 : decode cX1_firstLiteral 64 = .ok (.iadd, 1) := by decide +kernel
theorem dX1_firstLiteral_65 : decode cX1_firstLiteral 65 = .ok (.iload 6, 2) := by decide +kernel
theorem dX1_firstLiteral_67 : decode cX1_firstLiteral 67 = .ok (.if_icmp .le 32, 3) := by decide +kernel
theorem dX1_firstLiteral_70 : decode cX1_firstLiteral 70 = .ok (.iload 8, 2) := by decide +kernel
theorem dX1_firstLiteral_72 : decode cX1_firstLiteral 72 = .ok (.iload 9, 2) := by decide +kernel
theorem dX1_firstLiteral_74 : decode cX1_firstLiteral 74 = .ok (.iadd, 1) := by decide +kernel
theorem dX1_firstLiteral_75 : decode cX1_firstLiteral 75 = .ok (.istore 6, 2) := by decide +kernel
theorem dX1_firstLiteral_77 : decode cX1_firstLiteral 77 = .ok (.iload 9, 2) := by decide +kernel
theorem dX1_firstLiteral_79 : decode cX1_firstLiteral 79 = .ok (.iload 8, 2) := by decide +kernel
theorem dX1_firstLiteral_81 : decode cX1_firstLiteral 81 = .ok (.if_icmp .le 12, 3) := by decide +kernel
theorem dX1_firstLiteral_84 : decode cX1_firstLiteral 84 = .ok (.iconst 2, 1) := by decide +kernel
theorem dX1_firstLiteral_85 : decode cX1_firstLiteral 85 = .ok (.iload 7, 2) := by decide +kernel
theorem dX1_firstLiteral_87 : decode cX1_firstLiteral 87 = .ok (.imul, 1) := by decide +kernel
theorem dX1_firstLiteral_88 : decode cX1_firstLiteral 88 = .ok (.iconst 1, 1) := by decide +kernel
theorem dX1_firstLiteral_89 : decode cX1_firstLiteral 89 = .ok (.iadd, 1) := by decide +kernel
theorem dX1_firstLiteral_90 : decode cX1_firstLiteral 90 = .ok (.goto 7, 3) := by decide +kernel
theorem dX1_firstLiteral_93 : decode cX1_firstLiteral 93 = .ok (.iconst 2, 1) := by decide +kernel
theorem dX1_firstLiteral_94 : decode cX1_firstLiteral 94 = .ok (.iload 7, 2) := by decide +kernel
theorem dX1_firstLiteral_96 : decode cX1_firstLiteral 96 = .ok (.imul, 1) := by decide +kernel
theorem dX1_firstLiteral_97 : decode cX1_firstLiteral 97 = .ok (.istore 5, 2) := by decide +kernel
theorem dX1_firstLiteral_99 : decode cX1_firstLiteral 99 = .ok (.iinc 7 1, 3) := by decide +kernel
theorem dX1_firstLiteral_102 : decode cX1_firstLiteral 102 = .ok (.goto (-86), 3) := by decide +kernel
theorem dX1_firstLiteral_105 : decode cX1_firstLiteral 105 = .ok (.iload 5, 2) := by decide +kernel
theorem dX1_firstLiteral_107 : decode cX1_firstLiteral 107 = .ok (.ireturn, 1) := by decide +kernel
theorem dX1_countHolding_0 : decode cX1_countHolding 0 = .ok (.iconst 0, 1) := by decide +kernel
theorem dX1_countHolding_1 : decode cX1_countHolding 1 = .ok (.istore 5, 2) := by decide +kernel
theorem dX1_countHolding_3 : decode cX1_countHolding 3 = .ok (.iconst 0, 1) := by decide +kernel
theorem dX1_countHolding_4 : decode cX1_countHolding 4 = .ok (.istore 6, 2) := by decide +kernel
theorem dX1_countHolding_6 : decode cX1_countHolding 6 = .ok (.iload 6, 2) := by decide +kernel
theorem dX1_countHolding_8 : decode cX1_countHolding 8 = .ok (.aload_n 0, 1) := by decide +kernel
theorem dX1_countHolding_9 : decode cX1_countHolding 9 = .ok (.getfield 28, 3) := by decide +kernel
theorem dX1_countHolding_12 : decode cX1_countHolding 12 = .ok (.if_icmp .ge 34, 3) := by decide +kernel
theorem dX1_countHolding_15 : decode cX1_countHolding 15 = .ok (.lload_n 3, 1) := by decide +kernel
theorem dX1_countHolding_16 : decode cX1_countHolding 16 = .ok (.iload 6, 2) := by decide +kernel
theorem dX1_countHolding_18 : decode cX1_countHolding 18 = .ok (.lshr, 1) := by decide +kernel
theorem dX1_countHolding_19 : decode cX1_countHolding 19 = .ok (.lconst 1, 1) := by decide +kernel
theorem dX1_countHolding_20 : decode cX1_countHolding 20 = .ok (.land, 1) := by decide +kernel
theorem dX1_countHolding_21 : decode cX1_countHolding 21 = .ok (.lconst 0, 1) := by decide +kernel
theorem dX1_countHolding_22 : decode cX1_countHolding 22 = .ok (.lcmp, 1) := by decide +kernel
theorem dX1_countHolding_23 : decode cX1_countHolding 23 = .ok (.ifCond .eq 17, 3) := by decide +kernel
theorem dX1_countHolding_26 : decode cX1_countHolding 26 = .ok (.aload_n 1, 1) := by decide +kernel
theorem dX1_countHolding_27 : decode cX1_countHolding 27 = .ok (.iload 6, 2) := by decide +kernel
theorem dX1_countHolding_29 : decode cX1_countHolding 29 = .ok (.iaload, 1) := by decide +kernel
theorem dX1_countHolding_30 : decode cX1_countHolding 30 = .ok (.iload_n 2, 1) := by decide +kernel
theorem dX1_countHolding_31 : decode cX1_countHolding 31 = .ok (.ishr, 1) := by decide +kernel
theorem dX1_countHolding_32 : decode cX1_countHolding 32 = .ok (.iconst 1, 1) := by decide +kernel
theorem dX1_countHolding_33 : decode cX1_countHolding 33 = .ok (.iand, 1) := by decide +kernel
theorem dX1_countHolding_34 : decode cX1_countHolding 34 = .ok (.ifCond .eq 6, 3) := by decide +kernel
theorem dX1_countHolding_37 : decode cX1_countHolding 37 = .ok (.iinc 5 1, 3) := by decide +kernel
theorem dX1_countHolding_40 : decode cX1_countHolding 40 = .ok (.iinc 6 1, 3) := by decide +kernel
theorem dX1_countHolding_43 : decode cX1_countHolding 43 = .ok (.goto (-37), 3) := by decide +kernel
theorem dX1_countHolding_46 : decode cX1_countHolding 46 = .ok (.iload 5, 2) := by decide +kernel
theorem dX1_countHolding_48 : decode cX1_countHolding 48 = .ok (.ireturn, 1) := by decide +kernel
theorem dX2_init_0 : decode cX2_init 0 = .ok (.aload_n 0, 1) := by decide +kernel
theorem dX2_init_1 : decode cX2_init 1 = .ok (.invokespecial 3, 3) := by decide +kernel
theorem dX2_init_4 : decode cX2_init 4 = .ok (.aload_n 0, 1) := by decide +kernel
theorem dX2_init_5 : decode cX2_init 5 = .ok (.ldc2_w 9, 3) := by decide +kernel
theorem dX2_init_8 : decode cX2_init 8 = .ok (.putfield 11, 3) := by decide +kernel
theorem dX2_init_11 : decode cX2_init 11 = .ok (.aload_n 0, 1) := by decide +kernel
theorem dX2_init_12 : decode cX2_init 12 = .ok (.bipush 11, 2) := by decide +kernel
theorem dX2_init_14 : decode cX2_init 14 = .ok (.newarray .int, 2) := by decide +kernel
theorem dX2_init_16 : decode cX2_init 16 = .ok (.putfield 17, 3) := by decide +kernel
theorem dX2_init_19 : decode cX2_init 19 = .ok (.aload_n 0, 1) := by decide +kernel
theorem dX2_init_20 : decode cX2_init 20 = .ok (.bipush 11, 2) := by decide +kernel
theorem dX2_init_22 : decode cX2_init 22 = .ok (.newarray .int, 2) := by decide +kernel
theorem dX2_init_24 : decode cX2_init 24 = .ok (.putfield 21, 3) := by decide +kernel
theorem dX2_init_27 : decode cX2_init 27 = .ok (.aload_n 0, 1) := by decide +kernel
theorem dX2_init_28 : decode cX2_init 28 = .ok (.aload_n 1, 1) := by decide +kernel
theorem dX2_init_29 : decode cX2_init 29 = .ok (.putfield 24, 3) := by decide +kernel
theorem dX2_init_32 : decode cX2_init 32 = .ok (.aload_n 0, 1) := by decide +kernel
theorem dX2_init_33 : decode cX2_init 33 = .ok (.aload_n 2, 1) := by decide +kernel
theorem dX2_init_34 : decode cX2_init 34 = .ok (.putfield 28, 3) := by decide +kernel
theorem dX2_init_37 : decode cX2_init 37 = .ok (.iconst 1, 1) := by decide +kernel
theorem dX2_init_38 : decode cX2_init 38 = .ok (.aload_n 1, 1) := by decide +kernel
theorem dX2_init_39 : decode cX2_init 39 = .ok (.getfield 32, 3) := by decide +kernel
theorem dX2_init_42 : decode cX2_init 42 = .ok (.iconst 1, 1) := by decide +kernel
theorem dX2_init_43 : decode cX2_init 43 = .ok (.isub, 1) := by decide +kernel
theorem dX2_init_44 : decode cX2_init 44 = .ok (.ishl, 1) := by decide +kernel
theorem dX2_init_45 : decode cX2_init 45 = .ok (.istore_n 3, 1) := by decide +kernel
theorem dX2_init_46 : decode cX2_init 46 = .ok (.aload_n 0, 1) := by decide +kernel
theorem dX2_init_47 : decode cX2_init 47 = .ok (.iload_n 3, 1) := by decide +kernel
theorem dX2_init_48 : decode cX2_init 48 = .ok (.newarray .int, 2) := by decide +kernel
theorem dX2_init_50 : decode cX2_init 50 = .ok (.putfield 38, 3) := by decide +kernel
theorem dX2_init_53 : decode cX2_init 53 = .ok (.aload_n 0, 1) := by decide +kernel
theorem dX2_init_54 : decode cX2_init 54 = .ok (.iload_n 3, 1) := by decide +kernel
theorem dX2_init_55 : decode cX2_init 55 = .ok (.newarray .int, 2) := by decide +kernel
theorem dX2_init_57 : decode cX2_init 57 = .ok (.putfield 41, 3) := by decide +kernel
theorem dX2_init_60 : decode cX2_init 60 = .ok (.aload_n 0, 1) := by decide +kernel
theorem dX2_init_61 : decode cX2_init 61 = .ok (.iload_n 3, 1) := by decide +kernel
theorem dX2_init_62 : decode cX2_init 62 = .ok (.newarray .long, 2) := by decide +kernel
theorem dX2_init_64 : decode cX2_init 64 = .ok (.putfield 44, 3) := by decide +kernel
theorem dX2_init_67 : decode cX2_init 67 = .ok (.return_, 1) := by decide +kernel
theorem dX2_forget_0 : decode cX2_forget 0 = .ok (.aload_n 0, 1) := by decide +kernel
theorem dX2_forget_1 : decode cX2_forget 1 = .ok (.iconst 0, 1) := by decide +kernel
theorem dX2_forget_2 : decode cX2_forget 2 = .ok (.putfield 48, 3) := by decide +kernel
theorem dX2_forget_5 : decode cX2_forget 5 = .ok (.aload_n 0, 1) := by decide +kernel
theorem dX2_forget_6 : decode cX2_forget 6 = .ok (.iconst 0, 1) := by decide +kernel
theorem dX2_forget_7 : decode cX2_forget 7 = .ok (.putfield 51, 3) := by decide +kernel
theorem dX2_forget_10 : decode cX2_forget 10 = .ok (.aload_n 0, 1) := by decide +kernel
theorem dX2_forget_11 : decode cX2_forget 11 = .ok (.ldc2_w 9, 3) := by decide +kernel
theorem dX2_forget_14 : decode cX2_forget 14 = .ok (.putfield 11, 3) := by decide +kernel
theorem dX2_forget_17 : decode cX2_forget 17 = .ok (.aload_n 0, 1) := by decide +kernel
theorem dX2_forget_18 : decode cX2_forget 18 = .ok (.iconst 0, 1) := by decide +kernel
theorem dX2_forget_19 : decode cX2_forget 19 = .ok (.putfield 54, 3) := by decide +kernel
theorem dX2_forget_22 : decode cX2_forget 22 = .ok (.aload_n 0, 1) := by decide +kernel
theorem dX2_forget_23 : decode cX2_forget 23 = .ok (.iconst 0, 1) := by decide +kernel
theorem dX2_forget_24 : decode cX2_forget 24 = .ok (.putfield 57, 3) := by decide +kernel
theorem dX2_forget_27 : decode cX2_forget 27 = .ok (.return_, 1) := by decide +kernel
theorem dX2_run_0 : decode cX2_run 0 = .ok (.aload_n 0, 1) := by decide +kernel
theorem dX2_run_1 : decode cX2_run 1 = .ok (.invokevirtual 60, 3) := by decide +kernel
theorem dX2_run_4 : decode cX2_run 4 = .ok (.aload_n 0, 1) := by decide +kernel
theorem dX2_run_5 : decode cX2_run 5 = .ok (.iconst 0, 1) := by decide +kernel
theorem dX2_run_6 : decode cX2_run 6 = .ok (.iconst 0, 1) := by decide +kernel
theorem dX2_run_7 : decode cX2_run 7 = .ok (.invokevirtual 63, 3) := by decide +kernel
theorem dX2_run_10 : decode cX2_run 10 = .ok (.iconst 0, 1) := by decide +kernel
theorem dX2_run_11 : decode cX2_run 11 = .ok (.istore_n 1, 1) := by decide +kernel
theorem dX2_run_12 : decode cX2_run 12 = .ok (.iload_n 1, 1) := by decide +kernel
theorem dX2_run_13 : decode cX2_run 13 = .ok (.sipush 2048, 3) := by decide +kernel
theorem dX2_run_16 : decode cX2_run 16 = .ok (.if_icmp .ge 48, 3) := by decide +kernel
theorem dX2_run_19 : decode cX2_run 19 = .ok (.aload_n 0, 1) := by decide +kernel
theorem dX2_run_20 : decode cX2_run 20 = .ok (.getfield 57, 3) := by decide +kernel
theorem dX2_run_23 : decode cX2_run 23 = .ok (.ifCond .le 41, 3) := by decide +kernel
theorem dX2_run_26 : decode cX2_run 26 = .ok (.aload_n 0, 1) := by decide +kernel
theorem dX2_run_27 : decode cX2_run 27 = .ok (.dup, 1) := by decide +kernel
theorem dX2_run_28 : decode cX2_run 28 = .ok (.getfield 57, 3) := by decide +kernel
theorem dX2_run_31 : decode cX2_run 31 = .ok (.iconst 1, 1) := by decide +kernel
theorem dX2_run_32 : decode cX2_run 32 = .ok (.isub, 1) := by decide +kernel
theorem dX2_run_33 : decode cX2_run 33 = .ok (.putfield 57, 3) := by decide +kernel
theorem dX2_run_36 : decode cX2_run 36 = .ok (.aload_n 0, 1) := by decide +kernel
theorem dX2_run_37 : decode cX2_run 37 = .ok (.aload_n 0, 1) := by decide +kernel
theorem dX2_run_38 : decode cX2_run 38 = .ok (.getfield 17, 3) := by decide +kernel
theorem dX2_run_41 : decode cX2_run 41 = .ok (.aload_n 0, 1) := by decide +kernel
theorem dX2_run_42 : decode cX2_run 42 = .ok (.getfield 57, 3) := by decide +kernel
theorem dX2_run_45 : decode cX2_run 45 = .ok (.iaload, 1) := by decide +kernel
theorem dX2_run_46 : decode cX2_run 46 = .ok (.aload_n 0, 1) := by decide +kernel
theorem dX2_run_47 : decode cX2_run 47 = .ok (.getfield 21, 3) := by decide +kernel
theorem dX2_run_50 : decode cX2_run 50 = .ok (.aload_n 0, 1) := by decide +kernel
theorem dX2_run_51 : decode cX2_run 51 = .ok (.getfield 57, 3) := by decide +kernel
theorem dX2_run_54 : decode cX2_run 54 = .ok (.iaload, 1) := by decide +kernel
theorem dX2_run_55 : decode cX2_run 55 = .ok (.invokevirtual 67, 3) := by decide +kernel
theorem dX2_run_58 : decode cX2_run 58 = .ok (.iinc 1 1, 3) := by decide +kernel
theorem dX2_run_61 : decode cX2_run 61 = .ok (.goto (-49), 3) := by decide +kernel
theorem dX2_run_64 : decode cX2_run 64 = .ok (.return_, 1) := by decide +kernel
theorem dX2_hasBest_0 : decode cX2_hasBest 0 = .ok (.aload_n 0, 1) := by decide +kernel
theorem dX2_hasBest_1 : decode cX2_hasBest 1 = .ok (.getfield 11, 3) := by decide +kernel
theorem dX2_hasBest_4 : decode cX2_hasBest 4 = .ok (.ldc2_w 9, 3) := by decide +kernel
theorem dX2_hasBest_7 : decode cX2_hasBest 7 = .ok (.lcmp, 1) := by decide +kernel
theorem dX2_hasBest_8 : decode cX2_hasBest 8 = .ok (.ifCond .eq 7, 3) := by decide +kernel
theorem dX2_hasBest_11 : decode cX2_hasBest 11 = .ok (.iconst 1, 1) := by decide +kernel
theorem dX2_hasBest_12 : decode cX2_hasBest 12 = .ok (.goto 4, 3) := by decide +kernel
theorem dX2_hasBest_15 : decode cX2_hasBest 15 = .ok (.iconst 0, 1) := by decide +kernel
theorem dX2_hasBest_16 : decode cX2_hasBest 16 = .ok (.ireturn, 1) := by decide +kernel
theorem dX2_isLogged_0 : decode cX2_isLogged 0 = .ok (.iload_n 1, 1) := by decide +kernel
theorem dX2_isLogged_1 : decode cX2_isLogged 1 = .ok (.ifCond .lt 15, 3) := by decide +kernel
theorem dX2_isLogged_4 : decode cX2_isLogged 4 = .ok (.iload_n 1, 1) := by decide +kernel
theorem dX2_isLogged_5 : decode cX2_isLogged 5 = .ok (.aload_n 0, 1) := by decide +kernel
theorem dX2_isLogged_6 : decode cX2_isLogged 6 = .ok (.getfield 51, 3) := by decide +kernel
theorem dX2_isLogged_9 : decode cX2_isLogged 9 = .ok (.if_icmp .ge 7, 3) := by decide +kernel
theorem dX2_isLogged_12 : decode cX2_isLogged 12 = .ok (.iconst 1, 1) := by decide +kernel
theorem dX2_isLogged_13 : decode cX2_isLogged 13 = .ok (.goto 4, 3) := by decide +kernel
theorem dX2_isLogged_16 : decode cX2_isLogged 16 = .ok (.iconst 0, 1) := by decide +kernel
theorem dX2_isLogged_17 : decode cX2_isLogged 17 = .ok (.ireturn, 1) := by decide +kernel
end
section
theorem dX2_putWaiting_0 : decode cX2_putWaiting 0 = .ok (.aload_n 0, 1) := by decide +kernel
theorem dX2_putWaiting_1 : decode cX2_putWaiting 1 = .ok (.getfield 57, 3) := by decide +kernel
theorem dX2_putWaiting_4 : decode cX2_putWaiting 4 = .ok (.aload_n 0, 1) := by decide +kernel
theorem dX2_putWaiting_5 : decode cX2_putWaiting 5 = .ok (.getfield 17, 3) := by decide +kernel
theorem dX2_putWaiting_8 : decode cX2_putWaiting 8 = .ok (.arraylength, 1) := by decide +kernel
theorem dX2_putWaiting_9 : decode cX2_putWaiting 9 = .ok (.if_icmp .ge 33, 3) := by decide +kernel
theorem dX2_putWaiting_12 : decode cX2_putWaiting 12 = .ok (.aload_n 0, 1) := by decide +kernel
theorem dX2_putWaiting_13 : decode cX2_putWaiting 13 = .ok (.getfield 17, 3) := by decide +kernel
theorem dX2_putWaiting_16 : decode cX2_putWaiting 16 = .ok (.aload_n 0, 1) := by decide +kernel
theorem dX2_putWaiting_17 : decode cX2_putWaiting 17 = .ok (.getfield 57, 3) := by decide +kernel
theorem dX2_putWaiting_20 : decode cX2_putWaiting 20 = .ok (.iload_n 1, 1) := by decide +kernel
theorem dX2_putWaiting_21 : decode cX2_putWaiting 21 = .ok (.iastore, 1) := by decide +kernel
theorem dX2_putWaiting_22 : decode cX2_putWaiting 22 = .ok (.aload_n 0, 1) := by decide +kernel
theorem dX2_putWaiting_23 : decode cX2_putWaiting 23 = .ok (.getfield 21, 3) := by decide +kernel
theorem dX2_putWaiting_26 : decode cX2_putWaiting 26 = .ok (.aload_n 0, 1) := by decide +kernel
theorem dX2_putWaiting_27 : decode cX2_putWaiting 27 = .ok (.getfield 57, 3) := by decide +kernel
theorem dX2_putWaiting_30 : decode cX2_putWaiting 30 = .ok (.iload_n 2, 1) := by decide +kernel
theorem dX2_putWaiting_31 : decode cX2_putWaiting 31 = .ok (.iastore, 1) := by decide +kernel
theorem dX2_putWaiting_32 : decode cX2_putWaiting 32 = .ok (.aload_n 0, 1) := by decide +kernel
theorem dX2_putWaiting_33 : decode cX2_putWaiting 33 = .ok (.dup, 1) := by decide +kernel
theorem dX2_putWaiting_34 : decode cX2_putWaiting 34 = .ok (.getfield 57, 3) := by decide +kernel
theorem dX2_putWaiting_37 : decode cX2_putWaiting 37 = .ok (.iconst 1, 1) := by decide +kernel
theorem dX2_putWaiting_38 : decode cX2_putWaiting 38 = .ok (.iadd, 1) := by decide +kernel
theorem dX2_putWaiting_39 : decode cX2_putWaiting 39 = .ok (.putfield 57, 3) := by decide +kernel
theorem dX2_putWaiting_42 : decode cX2_putWaiting 42 = .ok (.return_, 1) := by decide +kernel
theorem dX2_visit_0 : decode cX2_visit 0 = .ok (.aload_n 0, 1) := by decide +kernel
theorem dX2_visit_1 : decode cX2_visit 1 = .ok (.dup, 1) := by decide +kernel
theorem dX2_visit_2 : decode cX2_visit 2 = .ok (.getfield 48, 3) := by decide +kernel
theorem dX2_visit_5 : decode cX2_visit 5 = .ok (.iconst 1, 1) := by decide +kernel
theorem dX2_visit_6 : decode cX2_visit 6 = .ok (.iadd, 1) := by decide +kernel
theorem dX2_visit_7 : decode cX2_visit 7 = .ok (.putfield 48, 3) := by decide +kernel
theorem dX2_visit_10 : decode cX2_visit 10 = .ok (.iload_n 1, 1) := by decide +kernel
theorem dX2_visit_11 : decode cX2_visit 11 = .ok (.aload_n 0, 1) := by decide +kernel
theorem dX2_visit_12 : decode cX2_visit 12 = .ok (.getfield 24, 3) := by decide +kernel
theorem dX2_visit_15 : decode cX2_visit 15 = .ok (.getfield 70, 3) := by decide +kernel
theorem dX2_visit_18 : decode cX2_visit 18 = .ok (.if_icmp .ne 11, 3) := by decide +kernel
theorem dX2_visit_21 : decode cX2_visit 21 = .ok (.aload_n 0, 1) := by decide +kernel
theorem dX2_visit_22 : decode cX2_visit 22 = .ok (.iload_n 2, 1) := by decide +kernel
theorem dX2_visit_23 : decode cX2_visit 23 = .ok (.invokevirtual 73, 3) := by decide +kernel
theorem dX2_visit_26 : decode cX2_visit 26 = .ok (.goto 34, 3) := by decide +kernel
theorem dX2_visit_29 : decode cX2_visit 29 = .ok (.aload_n 0, 1) := by decide +kernel
theorem dX2_visit_30 : decode cX2_visit 30 = .ok (.aload_n 0, 1) := by decide +kernel
theorem dX2_visit_31 : decode cX2_visit 31 = .ok (.getfield 28, 3) := by decide +kernel
theorem dX2_visit_34 : decode cX2_visit 34 = .ok (.iload_n 1, 1) := by decide +kernel
theorem dX2_visit_35 : decode cX2_visit 35 = .ok (.iload_n 2, 1) := by decide +kernel
theorem dX2_visit_36 : decode cX2_visit 36 = .ok (.invokevirtual 77, 3) := by decide +kernel
theorem dX2_visit_39 : decode cX2_visit 39 = .ok (.invokevirtual 83, 3) := by decide +kernel
theorem dX2_visit_42 : decode cX2_visit 42 = .ok (.ifCond .eq 12, 3) := by decide +kernel
theorem dX2_visit_45 : decode cX2_visit 45 = .ok (.aload_n 0, 1) := by decide +kernel
theorem dX2_visit_46 : decode cX2_visit 46 = .ok (.iload_n 1, 1) := by decide +kernel
theorem dX2_visit_47 : decode cX2_visit 47 = .ok (.iload_n 2, 1) := by decide +kernel
theorem dX2_visit_48 : decode cX2_visit 48 = .ok (.invokevirtual 87, 3) := by decide +kernel
theorem dX2_visit_51 : decode cX2_visit 51 = .ok (.goto 9, 3) := by decide +kernel
theorem dX2_visit_54 : decode cX2_visit 54 = .ok (.aload_n 0, 1) := by decide +kernel
theorem dX2_visit_55 : decode cX2_visit 55 = .ok (.iload_n 1, 1) := by decide +kernel
theorem dX2_visit_56 : decode cX2_visit 56 = .ok (.iload_n 2, 1) := by decide +kernel
theorem dX2_visit_57 : decode cX2_visit 57 = .ok (.invokevirtual 90, 3) := by decide +kernel
theorem dX2_visit_60 : decode cX2_visit 60 = .ok (.return_, 1) := by decide +kernel
theorem dX2_visitLeaf_0 : decode cX2_visitLeaf 0 = .ok (.aload_n 0, 1) := by decide +kernel
theorem dX2_visitLeaf_1 : decode cX2_visitLeaf 1 = .ok (.getfield 24, 3) := by decide +kernel
theorem dX2_visitLeaf_4 : decode cX2_visitLeaf 4 = .ok (.aload_n 0, 1) := by decide +kernel
theorem dX2_visitLeaf_5 : decode cX2_visitLeaf 5 = .ok (.getfield 24, 3) := by decide +kernel
theorem dX2_visitLeaf_8 : decode cX2_visitLeaf 8 = .ok (.getfield 70, 3) := by decide +kernel
theorem dX2_visitLeaf_11 : decode cX2_visitLeaf 11 = .ok (.iload_n 1, 1) := by decide +kernel
theorem dX2_visitLeaf_12 : decode cX2_visitLeaf 12 = .ok (.invokevirtual 93, 3) := by decide +kernel
theorem dX2_visitLeaf_15 : decode cX2_visitLeaf 15 = .ok (.lstore_n 2, 1) := by decide +kernel
theorem dX2_visitLeaf_16 : decode cX2_visitLeaf 16 = .ok (.lload_n 2, 1) := by decide +kernel
theorem dX2_visitLeaf_17 : decode cX2_visitLeaf 17 = .ok (.ldc2_w 96, 3) := by decide +kernel
theorem dX2_visitLeaf_20 : decode cX2_visitLeaf 20 = .ok (.lcmp, 1) := by decide +kernel
theorem dX2_visitLeaf_21 : decode cX2_visitLeaf 21 = .ok (.ifCond .eq 29, 3) := by decide +kernel
theorem dX2_visitLeaf_24 : decode cX2_visitLeaf 24 = .ok (.aload_n 0, 1) := by decide +kernel
theorem dX2_visitLeaf_25 : decode cX2_visitLeaf 25 = .ok (.invokevirtual 98, 3) := by decide +kernel
theorem dX2_visitLeaf_28 : decode cX2_visitLeaf 28 = .ok (.ifCond .eq 12, 3) := by decide +kernel
theorem dX2_visitLeaf_31 : decode cX2_visitLeaf 31 = .ok (.lload_n 2, 1) := by decide +kernel
theorem dX2_visitLeaf_32 : decode cX2_visitLeaf 32 = .ok (.aload_n 0, 1) := by decide +kernel
theorem dX2_visitLeaf_33 : decode cX2_visitLeaf 33 = .ok (.getfield 11, 3) := by decide +kernel
theorem dX2_visitLeaf_36 : decode cX2_visitLeaf 36 = .ok (.lcmp, 1) := by decide +kernel
theorem dX2_visitLeaf_37 : decode cX2_visitLeaf 37 = .ok (.ifCond .ge 13, 3) := by decide +kernel
theorem dX2_visitLeaf_40 : decode cX2_visitLeaf 40 = .ok (.aload_n 0, 1) := by decide +kernel
theorem dX2_visitLeaf_41 : decode cX2_visitLeaf 41 = .ok (.lload_n 2, 1) := by decide +kernel
theorem dX2_visitLeaf_42 : decode cX2_visitLeaf 42 = .ok (.putfield 11, 3) := by decide +kernel
theorem dX2_visitLeaf_45 : decode cX2_visitLeaf 45 = .ok (.aload_n 0, 1) := by decide +kernel
theorem dX2_visitLeaf_46 : decode cX2_visitLeaf 46 = .ok (.iload_n 1, 1) := by decide +kernel
theorem dX2_visitLeaf_47 : decode cX2_visitLeaf 47 = .ok (.putfield 54, 3) := by decide +kernel
theorem dX2_visitLeaf_50 : decode cX2_visitLeaf 50 = .ok (.return_, 1) := by decide +kernel
theorem dX2_isGivenUp_0 : decode cX2_isGivenUp 0 = .ok (.lload_n 1, 1) := by decide +kernel
theorem dX2_isGivenUp_1 : decode cX2_isGivenUp 1 = .ok (.ldc2_w 96, 3) := by decide +kernel
theorem dX2_isGivenUp_4 : decode cX2_isGivenUp 4 = .ok (.lcmp, 1) := by decide +kernel
theorem dX2_isGivenUp_5 : decode cX2_isGivenUp 5 = .ok (.ifCond .eq 19, 3) := by decide +kernel
theorem dX2_isGivenUp_8 : decode cX2_isGivenUp 8 = .ok (.aload_n 0, 1) := by decide +kernel
theorem dX2_isGivenUp_9 : decode cX2_isGivenUp 9 = .ok (.invokevirtual 98, 3) := by decide +kernel
theorem dX2_isGivenUp_12 : decode cX2_isGivenUp 12 = .ok (.ifCond .eq 16, 3) := by decide +kernel
theorem dX2_isGivenUp_15 : decode cX2_isGivenUp 15 = .ok (.aload_n 0, 1) := by decide +kernel
theorem dX2_isGivenUp_16 : decode cX2_isGivenUp 16 = .ok (.getfield 11, 3) := by decide +kernel
theorem dX2_isGivenUp_19 : decode cX2_isGivenUp 19 = .ok (.lload_n 1, 1) := by decide +kernel
theorem dX2_isGivenUp_20 : decode cX2_isGivenUp 20 = .ok (.lcmp, 1) := by decide +kernel
theorem dX2_isGivenUp_21 : decode cX2_isGivenUp 21 = .ok (.ifCond .gt 7, 3) := by decide +kernel
theorem dX2_isGivenUp_24 : decode cX2_isGivenUp 24 = .ok (.iconst 1, 1) := by decide +kernel
theorem dX2_isGivenUp_25 : decode cX2_isGivenUp 25 = .ok (.goto 4, 3) := by decide +kernel
theorem dX2_isGivenUp_28 : decode cX2_isGivenUp 28 = .ok (.iconst 0, 1) := by decide +kernel
theorem dX2_isGivenUp_29 : decode cX2_isGivenUp 29 = .ok (.ireturn, 1) := by decide +kernel
theorem dX2_putIntoLog_0 : decode cX2_putIntoLog 0 = .ok (.aload_n 0, 1) := by decide +kernel
theorem dX2_putIntoLog_1 : decode cX2_putIntoLog 1 = .ok (.getfield 51, 3) := by decide +kernel
theorem dX2_putIntoLog_4 : decode cX2_putIntoLog 4 = .ok (.aload_n 0, 1) := by decide +kernel
theorem dX2_putIntoLog_5 : decode cX2_putIntoLog 5 = .ok (.getfield 38, 3) := by decide +kernel
theorem dX2_putIntoLog_8 : decode cX2_putIntoLog 8 = .ok (.arraylength, 1) := by decide +kernel
theorem dX2_putIntoLog_9 : decode cX2_putIntoLog 9 = .ok (.if_icmp .ge 46, 3) := by decide +kernel
theorem dX2_putIntoLog_12 : decode cX2_putIntoLog 12 = .ok (.aload_n 0, 1) := by decide +kernel
theorem dX2_putIntoLog_13 : decode cX2_putIntoLog 13 = .ok (.getfield 38, 3) := by decide +kernel
theorem dX2_putIntoLog_16 : decode cX2_putIntoLog 16 = .ok (.aload_n 0, 1) := by decide +kernel
theorem dX2_putIntoLog_17 : decode cX2_putIntoLog 17 = .ok (.getfield 51, 3) := by decide +kernel
theorem dX2_putIntoLog_20 : decode cX2_putIntoLog 20 = .ok (.iload_n 1, 1) := by decide +kernel
theorem dX2_putIntoLog_21 : decode cX2_putIntoLog 21 = .ok (.iastore, 1) := by decide +kernel
theorem dX2_putIntoLog_22 : decode cX2_putIntoLog 22 = .ok (.aload_n 0, 1) := by decide +kernel
theorem dX2_putIntoLog_23 : decode cX2_putIntoLog 23 = .ok (.getfield 41, 3) := by decide +kernel
theorem dX2_putIntoLog_26 : decode cX2_putIntoLog 26 = .ok (.aload_n 0, 1) := by decide +kernel
theorem dX2_putIntoLog_27 : decode cX2_putIntoLog 27 = .ok (.getfield 51, 3) := by decide +kernel
theorem dX2_putIntoLog_30 : decode cX2_putIntoLog 30 = .ok (.iload_n 2, 1) := by decide +kernel
theorem dX2_putIntoLog_31 : decode cX2_putIntoLog 31 = .ok (.iastore, 1) := by decide +kernel
theorem dX2_putIntoLog_32 : decode cX2_putIntoLog 32 = .ok (.aload_n 0, 1) := by decide +kernel
theorem dX2_putIntoLog_33 : decode cX2_putIntoLog 33 = .ok (.getfield 44, 3) := by decide +kernel
theorem dX2_putIntoLog_36 : decode cX2_putIntoLog 36 = .ok (.aload_n 0, 1) := by decide +kernel
theorem dX2_putIntoLog_37 : decode cX2_putIntoLog 37 = .ok (.getfield 51, 3) := by decide +kernel
theorem dX2_putIntoLog_40 : decode cX2_putIntoLog 40 = .ok (.aload_n 0, 1) := by decide +kernel
theorem dX2_putIntoLog_41 : decode cX2_putIntoLog 41 = .ok (.getfield 11, 3) := by decide +kernel
theorem dX2_putIntoLog_44 : decode cX2_putIntoLog 44 = .ok (.lastore, 1) := by decide +kernel
theorem dX2_putIntoLog_45 : decode cX2_putIntoLog 45 = .ok (.aload_n 0, 1) := by decide +kernel
theorem dX2_putIntoLog_46 : decode cX2_putIntoLog 46 = .ok (.dup, 1) := by decide +kernel
theorem dX2_putIntoLog_47 : decode cX2_putIntoLog 47 = .ok (.getfield 51, 3) := by decide +kernel
theorem dX2_putIntoLog_50 : decode cX2_putIntoLog 50 = .ok (.iconst 1, 1) := by decide +kernel
theorem dX2_putIntoLog_51 : decode cX2_putIntoLog 51 = .ok (.iadd, 1) := by decide +kernel
theorem dX2_putIntoLog_52 : decode cX2_putIntoLog 52 = .ok (.putfield 51, 3) := by decide +kernel
theorem dX2_putIntoLog_55 : decode cX2_putIntoLog 55 = .ok (.return_, 1) := by decide +kernel
theorem dX2_branch_0 : decode cX2_branch 0 = .ok (.aload_n 0, 1) := by decide +kernel
theorem dX2_branch_1 : decode cX2_branch 1 = .ok (.getfield 24, 3) := by decide +kernel
theorem dX2_branch_4 : decode cX2_branch 4 = .ok (.iload_n 1, 1) := by decide +kernel
theorem dX2_branch_5 : decode cX2_branch 5 = .ok (.iload_n 2, 1) := by decide +kernel
theorem dX2_branch_6 : decode cX2_branch 6 = .ok (.invokevirtual 102, 3) := by decide +kernel
theorem dX2_branch_9 : decode cX2_branch 9 = .ok (.istore_n 3, 1) := by decide +kernel
theorem dX2_branch_10 : decode cX2_branch 10 = .ok (.iload_n 3, 1) := by decide +kernel
theorem dX2_branch_11 : decode cX2_branch 11 = .ok (.iconst (-1), 1) := by decide +kernel
theorem dX2_branch_12 : decode cX2_branch 12 = .ok (.if_icmp .ne 4, 3) := by decide +kernel
theorem dX2_branch_15 : decode cX2_branch 15 = .ok (.return_, 1) := by decide +kernel
theorem dX2_branch_16 : decode cX2_branch 16 = .ok (.iconst 1, 1) := by decide +kernel
theorem dX2_branch_17 : decode cX2_branch 17 = .ok (.iload_n 3, 1) := by decide +kernel
theorem dX2_branch_18 : decode cX2_branch 18 = .ok (.iconst 1, 1) := by decide +kernel
theorem dX2_branch_19 : decode cX2_branch 19 = .ok (.ishr, 1) := by decide +kernel
theorem dX2_branch_20 : decode cX2_branch 20 = .ok (.ishl, 1) := by decide +kernel
theorem dX2_branch_21 : decode cX2_branch 21 = .ok (.istore 4, 2) := by decide +kernel
theorem dX2_branch_23 : decode cX2_branch 23 = .ok (.iload_n 2, 1) := by decide +kernel
theorem dX2_branch_24 : decode cX2_branch 24 = .ok (.iload 4, 2) := by decide +kernel
theorem dX2_branch_26 : decode cX2_branch 26 = .ok (.ior, 1) := by decide +kernel
theorem dX2_branch_27 : decode cX2_branch 27 = .ok (.istore 5, 2) := by decide +kernel
theorem dX2_branch_29 : decode cX2_branch 29 = .ok (.iload_n 3, 1) := by decide +kernel
theorem dX2_branch_30 : decode cX2_branch 30 = .ok (.iconst 1, 1) := by decide +kernel
theorem dX2_branch_31 : decode cX2_branch 31 = .ok (.iand, 1) := by decide +kernel
theorem dX2_branch_32 : decode cX2_branch 32 = .ok (.ifCond .ne 7, 3) := by decide +kernel
theorem dX2_branch_35 : decode cX2_branch 35 = .ok (.iconst 1, 1) := by decide +kernel
theorem dX2_branch_36 : decode cX2_branch 36 = .ok (.goto 4, 3) := by decide +kernel
theorem dX2_branch_39 : decode cX2_branch 39 = .ok (.iconst 0, 1) := by decide +kernel
theorem dX2_branch_40 : decode cX2_branch 40 = .ok (.istore 6, 2) := by decide +kernel
theorem dX2_branch_42 : decode cX2_branch 42 = .ok (.aload_n 0, 1) := by decide +kernel
theorem dX2_branch_43 : decode cX2_branch 43 = .ok (.iload_n 1, 1) := by decide +kernel
theorem dX2_branch_44 : decode cX2_branch 44 = .ok (.iload 4, 2) := by decide +kernel
theorem dX2_branch_46 : decode cX2_branch 46 = .ok (.ior, 1) := by decide +kernel
theorem dX2_branch_47 : decode cX2_branch 47 = .ok (.iload 6, 2) := by decide +kernel
theorem dX2_branch_49 : decode cX2_branch 49 = .ok (.ifCond .eq 7, 3) := by decide +kernel
theorem dX2_branch_52 : decode cX2_branch 52 = .ok (.iload_n 2, 1) := by decide +kernel
theorem dX2_branch_53 : decode cX2_branch 53 = .ok (.goto 5, 3) := by decide +kernel
theorem dX2_branch_56 : decode cX2_branch 56 = .ok (.iload 5, 2) := by decide +kernel
theorem dX2_branch_58 : decode cX2_branch 58 = .ok (.invokevirtual 63, 3) := by decide +kernel
theorem dX2_branch_61 : decode cX2_branch 61 = .ok (.aload_n 0, 1) := by decide +kernel
theorem dX2_branch_62 : decode cX2_branch 62 = .ok (.iload_n 1, 1) := by decide +kernel
theorem dX2_branch_63 : decode cX2_branch 63 = .ok (.iload 4, 2) := by decide +kernel
theorem dX2_branch_65 : decode cX2_branch 65 = .ok (.ior, 1) := by decide +kernel
theorem dX2_branch_66 : decode cX2_branch 66 = .ok (.iload 6, 2) := by decide +kernel
theorem dX2_branch_68 : decode cX2_branch 68 = .ok (.ifCond .eq 8, 3) := by decide +kernel
theorem dX2_branch_71 : decode cX2_branch 71 = .ok (.iload 5, 2) := by decide +kernel
theorem dX2_branch_73 : decode cX2_branch 73 = .ok (.goto 4, 3) := by decide +kernel
theorem dX2_branch_76 : decode cX2_branch 76 = .ok (.iload_n 2, 1) := by decide +kernel
theorem dX2_branch_77 : decode cX2_branch 77 = .ok (.invokevirtual 63, 3) := by decide +kernel
theorem dX2_branch_80 : decode cX2_branch 80 = .ok (.return_, 1) := by decide +kernel
theorem dX3_init_0 : decode cX3_init 0 = .ok (.aload_n 0, 1) := by decide +kernel
theorem dX3_init_1 : decode cX3_init 1 = .ok (.invokespecial 1, 3) := by decide +kernel
theorem dX3_init_4 : decode cX3_init 4 = .ok (.aload_n 0, 1) := by decide +kernel
theorem dX3_init_5 : decode cX3_init 5 = .ok (.new 7, 3) := by decide +kernel
theorem dX3_init_8 : decode cX3_init 8 = .ok (.dup, 1) := by decide +kernel
theorem dX3_init_9 : decode cX3_init 9 = .ok (.iconst 1, 1) := by decide +kernel
theorem dX3_init_10 : decode cX3_init 10 = .ok (.bipush 10, 2) := by decide +kernel
theorem dX3_init_12 : decode cX3_init 12 = .ok (.iload_n 1, 1) := by decide +kernel
theorem dX3_init_13 : decode cX3_init 13 = .ok (.invokestatic 11, 3) := by decide +kernel
theorem dX3_init_16 : decode cX3_init 16 = .ok (.invokestatic 17, 3) := by decide +kernel
theorem dX3_init_19 : decode cX3_init 19 = .ok (.invokespecial 20, 3) := by decide +kernel
theorem dX3_init_22 : decode cX3_init 22 = .ok (.putfield 23, 3) := by decide +kernel
theorem dX3_init_25 : decode cX3_init 25 = .ok (.aload_n 0, 1) := by decide +kernel
theorem dX3_init_26 : decode cX3_init 26 = .ok (.new 27, 3) := by decide +kernel
theorem dX3_init_29 : decode cX3_init 29 = .ok (.dup, 1) := by decide +kernel
theorem dX3_init_30 : decode cX3_init 30 = .ok (.aload_n 0, 1) := by decide +kernel
theorem dX3_init_31 : decode cX3_init 31 = .ok (.getfield 23, 3) := by decide +kernel
theorem dX3_init_34 : decode cX3_init 34 = .ok (.invokespecial 29, 3) := by decide +kernel
theorem dX3_init_37 : decode cX3_init 37 = .ok (.putfield 32, 3) := by decide +kernel
theorem dX3_init_40 : decode cX3_init 40 = .ok (.aload_n 0, 1) := by decide +kernel
theorem dX3_init_41 : decode cX3_init 41 = .ok (.new 36, 3) := by decide +kernel
theorem dX3_init_44 : decode cX3_init 44 = .ok (.dup, 1) := by decide +kernel
theorem dX3_init_45 : decode cX3_init 45 = .ok (.aload_n 0, 1) := by decide +kernel
theorem dX3_init_46 : decode cX3_init 46 = .ok (.getfield 23, 3) := by decide +kernel
theorem dX3_init_49 : decode cX3_init 49 = .ok (.aload_n 0, 1) := by decide +kernel
theorem dX3_init_50 : decode cX3_init 50 = .ok (.getfield 32, 3) := by decide +kernel
theorem dX3_init_53 : decode cX3_init 53 = .ok (.invokespecial 38, 3) := by decide +kernel
theorem dX3_init_56 : decode cX3_init 56 = .ok (.putfield 41, 3) := by decide +kernel
theorem dX3_init_59 : decode cX3_init 59 = .ok (.return_, 1) := by decide +kernel
theorem dX3_variables_0 : decode cX3_variables 0 = .ok (.aload_n 0, 1) := by decide +kernel
theorem dX3_variables_1 : decode cX3_variables 1 = .ok (.getfield 23, 3) := by decide +kernel
theorem dX3_variables_4 : decode cX3_variables 4 = .ok (.getfield 45, 3) := by decide +kernel
theorem dX3_variables_7 : decode cX3_variables 7 = .ok (.ireturn, 1) := by decide +kernel
theorem dX3_clause_0 : decode cX3_clause 0 = .ok (.iload_n 1, 1) := by decide +kernel
theorem dX3_clause_1 : decode cX3_clause 1 = .ok (.invokestatic 49, 3) := by decide +kernel
theorem dX3_clause_4 : decode cX3_clause 4 = .ok (.ifCond .eq 16, 3) := by decide +kernel
theorem dX3_clause_7 : decode cX3_clause 7 = .ok (.aload_n 0, 1) := by decide +kernel
theorem dX3_clause_8 : decode cX3_clause 8 = .ok (.iload_n 2, 1) := by decide +kernel
theorem dX3_clause_9 : decode cX3_clause 9 = .ok (.iload_n 3, 1) := by decide +kernel
theorem dX3_clause_10 : decode cX3_clause 10 = .ok (.iload 4, 2) := by decide +kernel
theorem dX3_clause_12 : decode cX3_clause 12 = .ok (.iload 5, 2) := by decide +kernel
theorem dX3_clause_14 : decode cX3_clause 14 = .ok (.invokevirtual 53, 3) := by decide +kernel
theorem dX3_clause_17 : decode cX3_clause 17 = .ok (.ifCond .ne 11, 3) := by decide +kernel
theorem dX3_clause_20 : decode cX3_clause 20 = .ok (.new 57, 3) := by decide +kernel
theorem dX3_clause_23 : decode cX3_clause 23 = .ok (.dup, 1) := by decide +kernel
theorem dX3_clause_24 : decode cX3_clause 24 = .ok (.invokespecial 59, 3) := by decide +kernel
theorem dX3_clause_27 : decode cX3_clause 27 = .ok (.athrow, 1) := by decide +kernel
theorem dX3_clause_28 : decode cX3_clause 28 = .ok (.aload_n 0, 1) := by decide +kernel
theorem dX3_clause_29 : decode cX3_clause 29 = .ok (.getfield 23, 3) := by decide +kernel
theorem dX3_clause_32 : decode cX3_clause 32 = .ok (.getfield 60, 3) := by decide +kernel
theorem dX3_clause_35 : decode cX3_clause 35 = .ok (.bipush 40, 2) := by decide +kernel
theorem dX3_clause_37 : decode cX3_clause 37 = .ok (.if_icmp .lt 11, 3) := by decide +kernel
theorem dX3_clause_40 : decode cX3_clause 40 = .ok (.new 63, 3) := by decide +kernel
theorem dX3_clause_43 : decode cX3_clause 43 = .ok (.dup, 1) := by decide +kernel
theorem dX3_clause_44 : decode cX3_clause 44 = .ok (.invokespecial 65, 3) := by decide +kernel
theorem dX3_clause_47 : decode cX3_clause 47 = .ok (.athrow, 1) := by decide +kernel
theorem dX3_clause_48 : decode cX3_clause 48 = .ok (.aload_n 0, 1) := by decide +kernel
theorem dX3_clause_49 : decode cX3_clause 49 = .ok (.getfield 41, 3) := by decide +kernel
theorem dX3_clause_52 : decode cX3_clause 52 = .ok (.invokevirtual 66, 3) := by decide +kernel
theorem dX3_clause_55 : decode cX3_clause 55 = .ok (.iload_n 2, 1) := by decide +kernel
theorem dX3_clause_56 : decode cX3_clause 56 = .ok (.invokestatic 69, 3) := by decide +kernel
theorem dX3_clause_59 : decode cX3_clause 59 = .ok (.iload_n 3, 1) := by decide +kernel
theorem dX3_clause_60 : decode cX3_clause 60 = .ok (.invokestatic 69, 3) := by decide +kernel
theorem dX3_clause_63 : decode cX3_clause 63 = .ok (.ior, 1) := by decide +kernel
theorem dX3_clause_64 : decode cX3_clause 64 = .ok (.iload 4, 2) := by decide +kernel
theorem dX3_clause_66 : decode cX3_clause 66 = .ok (.invokestatic 69, 3) := by decide +kernel
theorem dX3_clause_69 : decode cX3_clause 69 = .ok (.ior, 1) := by decide +kernel
theorem dX3_clause_70 : decode cX3_clause 70 = .ok (.iload 5, 2) := by decide +kernel
theorem dX3_clause_72 : decode cX3_clause 72 = .ok (.invokestatic 69, 3) := by decide +kernel
theorem dX3_clause_75 : decode cX3_clause 75 = .ok (.ior, 1) := by decide +kernel
theorem dX3_clause_76 : decode cX3_clause 76 = .ok (.istore 6, 2) := by decide +kernel
theorem dX3_clause_78 : decode cX3_clause 78 = .ok (.iload_n 2, 1) := by decide +kernel
theorem dX3_clause_79 : decode cX3_clause 79 = .ok (.invokestatic 73, 3) := by decide +kernel
theorem dX3_clause_82 : decode cX3_clause 82 = .ok (.iload_n 3, 1) := by decide +kernel
theorem dX3_clause_83 : decode cX3_clause 83 = .ok (.invokestatic 73, 3) := by decide +kernel
theorem dX3_clause_86 : decode cX3_clause 86 = .ok (.ior, 1) := by decide +kernel
theorem dX3_clause_87 : decode cX3_clause 87 = .ok (.iload 4, 2) := by decide +kernel
theorem dX3_clause_89 : decode cX3_clause 89 = .ok (.invokestatic 73, 3) := by decide +kernel
end
section
theorem dX3_clause_92 : decode cX3_clause 92 = .ok (.ior, 1) := by decide +kernel
theorem dX3_clause_93 : decode cX3_clause 93 = .ok (.iload 5, 2) := by decide +kernel
theorem dX3_clause_95 : decode cX3_clause 95 = .ok (.invokestatic 73, 3) := by decide +kernel
theorem dX3_clause_98 : decode cX3_clause 98 = .ok (.ior, 1) := by decide +kernel
theorem dX3_clause_99 : decode cX3_clause 99 = .ok (.istore 7, 2) := by decide +kernel
theorem dX3_clause_101 : decode cX3_clause 101 = .ok (.aload_n 0, 1) := by decide +kernel
theorem dX3_clause_102 : decode cX3_clause 102 = .ok (.getfield 23, 3) := by decide +kernel
theorem dX3_clause_105 : decode cX3_clause 105 = .ok (.iload_n 1, 1) := by decide +kernel
theorem dX3_clause_106 : decode cX3_clause 106 = .ok (.iload 6, 2) := by decide +kernel
theorem dX3_clause_108 : decode cX3_clause 108 = .ok (.iload 7, 2) := by decide +kernel
theorem dX3_clause_110 : decode cX3_clause 110 = .ok (.invokevirtual 76, 3) := by decide +kernel
theorem dX3_clause_113 : decode cX3_clause 113 = .ok (.ireturn, 1) := by decide +kernel
theorem dX3_drop_0 : decode cX3_drop 0 = .ok (.aload_n 0, 1) := by decide +kernel
theorem dX3_drop_1 : decode cX3_drop 1 = .ok (.getfield 23, 3) := by decide +kernel
theorem dX3_drop_4 : decode cX3_drop 4 = .ok (.getfield 60, 3) := by decide +kernel
theorem dX3_drop_7 : decode cX3_drop 7 = .ok (.ifCond .ne 5, 3) := by decide +kernel
theorem dX3_drop_10 : decode cX3_drop 10 = .ok (.iconst (-1), 1) := by decide +kernel
theorem dX3_drop_11 : decode cX3_drop 11 = .ok (.ireturn, 1) := by decide +kernel
theorem dX3_drop_12 : decode cX3_drop 12 = .ok (.aload_n 0, 1) := by decide +kernel
theorem dX3_drop_13 : decode cX3_drop 13 = .ok (.getfield 41, 3) := by decide +kernel
theorem dX3_drop_16 : decode cX3_drop 16 = .ok (.invokevirtual 66, 3) := by decide +kernel
theorem dX3_drop_19 : decode cX3_drop 19 = .ok (.aload_n 0, 1) := by decide +kernel
theorem dX3_drop_20 : decode cX3_drop 20 = .ok (.getfield 23, 3) := by decide +kernel
theorem dX3_drop_23 : decode cX3_drop 23 = .ok (.invokevirtual 80, 3) := by decide +kernel
theorem dX3_drop_26 : decode cX3_drop 26 = .ok (.ireturn, 1) := by decide +kernel
theorem dX3_weigh_0 : decode cX3_weigh 0 = .ok (.iload_n 1, 1) := by decide +kernel
theorem dX3_weigh_1 : decode cX3_weigh 1 = .ok (.ifCond .lt 21, 3) := by decide +kernel
theorem dX3_weigh_4 : decode cX3_weigh 4 = .ok (.iload_n 1, 1) := by decide +kernel
theorem dX3_weigh_5 : decode cX3_weigh 5 = .ok (.aload_n 0, 1) := by decide +kernel
theorem dX3_weigh_6 : decode cX3_weigh 6 = .ok (.getfield 23, 3) := by decide +kernel
theorem dX3_weigh_9 : decode cX3_weigh 9 = .ok (.getfield 60, 3) := by decide +kernel
theorem dX3_weigh_12 : decode cX3_weigh 12 = .ok (.if_icmp .ge 10, 3) := by decide +kernel
theorem dX3_weigh_15 : decode cX3_weigh 15 = .ok (.iload_n 2, 1) := by decide +kernel
theorem dX3_weigh_16 : decode cX3_weigh 16 = .ok (.invokestatic 49, 3) := by decide +kernel
theorem dX3_weigh_19 : decode cX3_weigh 19 = .ok (.ifCond .ne 11, 3) := by decide +kernel
theorem dX3_weigh_22 : decode cX3_weigh 22 = .ok (.new 57, 3) := by decide +kernel
theorem dX3_weigh_25 : decode cX3_weigh 25 = .ok (.dup, 1) := by decide +kernel
theorem dX3_weigh_26 : decode cX3_weigh 26 = .ok (.invokespecial 59, 3) := by decide +kernel
theorem dX3_weigh_29 : decode cX3_weigh 29 = .ok (.athrow, 1) := by decide +kernel
theorem dX3_weigh_30 : decode cX3_weigh 30 = .ok (.aload_n 0, 1) := by decide +kernel
theorem dX3_weigh_31 : decode cX3_weigh 31 = .ok (.getfield 41, 3) := by decide +kernel
theorem dX3_weigh_34 : decode cX3_weigh 34 = .ok (.invokevirtual 66, 3) := by decide +kernel
theorem dX3_weigh_37 : decode cX3_weigh 37 = .ok (.aload_n 0, 1) := by decide +kernel
theorem dX3_weigh_38 : decode cX3_weigh 38 = .ok (.getfield 23, 3) := by decide +kernel
theorem dX3_weigh_41 : decode cX3_weigh 41 = .ok (.iload_n 1, 1) := by decide +kernel
theorem dX3_weigh_42 : decode cX3_weigh 42 = .ok (.iload_n 2, 1) := by decide +kernel
theorem dX3_weigh_43 : decode cX3_weigh 43 = .ok (.invokevirtual 84, 3) := by decide +kernel
theorem dX3_weigh_46 : decode cX3_weigh 46 = .ok (.ireturn, 1) := by decide +kernel
theorem dX3_clauses_0 : decode cX3_clauses 0 = .ok (.aload_n 0, 1) := by decide +kernel
theorem dX3_clauses_1 : decode cX3_clauses 1 = .ok (.getfield 23, 3) := by decide +kernel
theorem dX3_clauses_4 : decode cX3_clauses 4 = .ok (.getfield 60, 3) := by decide +kernel
theorem dX3_clauses_7 : decode cX3_clauses 7 = .ok (.ireturn, 1) := by decide +kernel
theorem dX3_cost_0 : decode cX3_cost 0 = .ok (.aload_n 0, 1) := by decide +kernel
theorem dX3_cost_1 : decode cX3_cost 1 = .ok (.iload_n 1, 1) := by decide +kernel
theorem dX3_cost_2 : decode cX3_cost 2 = .ok (.iload_n 2, 1) := by decide +kernel
theorem dX3_cost_3 : decode cX3_cost 3 = .ok (.invokevirtual 87, 3) := by decide +kernel
theorem dX3_cost_6 : decode cX3_cost 6 = .ok (.ifCond .ne 11, 3) := by decide +kernel
theorem dX3_cost_9 : decode cX3_cost 9 = .ok (.new 57, 3) := by decide +kernel
theorem dX3_cost_12 : decode cX3_cost 12 = .ok (.dup, 1) := by decide +kernel
theorem dX3_cost_13 : decode cX3_cost 13 = .ok (.invokespecial 59, 3) := by decide +kernel
theorem dX3_cost_16 : decode cX3_cost 16 = .ok (.athrow, 1) := by decide +kernel
theorem dX3_cost_17 : decode cX3_cost 17 = .ok (.aload_n 0, 1) := by decide +kernel
theorem dX3_cost_18 : decode cX3_cost 18 = .ok (.getfield 23, 3) := by decide +kernel
theorem dX3_cost_21 : decode cX3_cost 21 = .ok (.iload_n 1, 1) := by decide +kernel
theorem dX3_cost_22 : decode cX3_cost 22 = .ok (.iload_n 2, 1) := by decide +kernel
theorem dX3_cost_23 : decode cX3_cost 23 = .ok (.invokevirtual 91, 3) := by decide +kernel
theorem dX3_cost_26 : decode cX3_cost 26 = .ok (.lreturn, 1) := by decide +kernel
theorem dX3_bound_0 : decode cX3_bound 0 = .ok (.aload_n 0, 1) := by decide +kernel
theorem dX3_bound_1 : decode cX3_bound 1 = .ok (.iload_n 1, 1) := by decide +kernel
theorem dX3_bound_2 : decode cX3_bound 2 = .ok (.iload_n 2, 1) := by decide +kernel
theorem dX3_bound_3 : decode cX3_bound 3 = .ok (.invokevirtual 87, 3) := by decide +kernel
theorem dX3_bound_6 : decode cX3_bound 6 = .ok (.ifCond .ne 11, 3) := by decide +kernel
theorem dX3_bound_9 : decode cX3_bound 9 = .ok (.new 57, 3) := by decide +kernel
theorem dX3_bound_12 : decode cX3_bound 12 = .ok (.dup, 1) := by decide +kernel
theorem dX3_bound_13 : decode cX3_bound 13 = .ok (.invokespecial 59, 3) := by decide +kernel
theorem dX3_bound_16 : decode cX3_bound 16 = .ok (.athrow, 1) := by decide +kernel
theorem dX3_bound_17 : decode cX3_bound 17 = .ok (.aload_n 0, 1) := by decide +kernel
theorem dX3_bound_18 : decode cX3_bound 18 = .ok (.getfield 32, 3) := by decide +kernel
theorem dX3_bound_21 : decode cX3_bound 21 = .ok (.iload_n 1, 1) := by decide +kernel
theorem dX3_bound_22 : decode cX3_bound 22 = .ok (.iload_n 2, 1) := by decide +kernel
theorem dX3_bound_23 : decode cX3_bound 23 = .ok (.invokevirtual 95, 3) := by decide +kernel
theorem dX3_bound_26 : decode cX3_bound 26 = .ok (.lreturn, 1) := by decide +kernel
theorem dX3_subset_0 : decode cX3_subset 0 = .ok (.aload_n 0, 1) := by decide +kernel
theorem dX3_subset_1 : decode cX3_subset 1 = .ok (.iload_n 1, 1) := by decide +kernel
theorem dX3_subset_2 : decode cX3_subset 2 = .ok (.iload_n 2, 1) := by decide +kernel
theorem dX3_subset_3 : decode cX3_subset 3 = .ok (.invokevirtual 87, 3) := by decide +kernel
theorem dX3_subset_6 : decode cX3_subset 6 = .ok (.ifCond .ne 11, 3) := by decide +kernel
theorem dX3_subset_9 : decode cX3_subset 9 = .ok (.new 57, 3) := by decide +kernel
theorem dX3_subset_12 : decode cX3_subset 12 = .ok (.dup, 1) := by decide +kernel
theorem dX3_subset_13 : decode cX3_subset 13 = .ok (.invokespecial 59, 3) := by decide +kernel
theorem dX3_subset_16 : decode cX3_subset 16 = .ok (.athrow, 1) := by decide +kernel
theorem dX3_subset_17 : decode cX3_subset 17 = .ok (.aload_n 0, 1) := by decide +kernel
theorem dX3_subset_18 : decode cX3_subset 18 = .ok (.getfield 32, 3) := by decide +kernel
theorem dX3_subset_21 : decode cX3_subset 21 = .ok (.iload_n 1, 1) := by decide +kernel
theorem dX3_subset_22 : decode cX3_subset 22 = .ok (.iload_n 2, 1) := by decide +kernel
theorem dX3_subset_23 : decode cX3_subset 23 = .ok (.invokevirtual 95, 3) := by decide +kernel
theorem dX3_subset_26 : decode cX3_subset 26 = .ok (.pop2, 1) := by decide +kernel
theorem dX3_subset_27 : decode cX3_subset 27 = .ok (.aload_n 0, 1) := by decide +kernel
theorem dX3_subset_28 : decode cX3_subset 28 = .ok (.getfield 32, 3) := by decide +kernel
theorem dX3_subset_31 : decode cX3_subset 31 = .ok (.iload_n 3, 1) := by decide +kernel
theorem dX3_subset_32 : decode cX3_subset 32 = .ok (.invokevirtual 98, 3) := by decide +kernel
theorem dX3_subset_35 : decode cX3_subset 35 = .ok (.lreturn, 1) := by decide +kernel
theorem dX3_first_0 : decode cX3_first 0 = .ok (.aload_n 0, 1) := by decide +kernel
theorem dX3_first_1 : decode cX3_first 1 = .ok (.iload_n 1, 1) := by decide +kernel
theorem dX3_first_2 : decode cX3_first 2 = .ok (.iload_n 2, 1) := by decide +kernel
theorem dX3_first_3 : decode cX3_first 3 = .ok (.invokevirtual 87, 3) := by decide +kernel
theorem dX3_first_6 : decode cX3_first 6 = .ok (.ifCond .ne 11, 3) := by decide +kernel
theorem dX3_first_9 : decode cX3_first 9 = .ok (.new 57, 3) := by decide +kernel
theorem dX3_first_12 : decode cX3_first 12 = .ok (.dup, 1) := by decide +kernel
theorem dX3_first_13 : decode cX3_first 13 = .ok (.invokespecial 59, 3) := by decide +kernel
theorem dX3_first_16 : decode cX3_first 16 = .ok (.athrow, 1) := by decide +kernel
theorem dX3_first_17 : decode cX3_first 17 = .ok (.aload_n 0, 1) := by decide +kernel
theorem dX3_first_18 : decode cX3_first 18 = .ok (.getfield 23, 3) := by decide +kernel
theorem dX3_first_21 : decode cX3_first 21 = .ok (.iload_n 1, 1) := by decide +kernel
theorem dX3_first_22 : decode cX3_first 22 = .ok (.iload_n 2, 1) := by decide +kernel
theorem dX3_first_23 : decode cX3_first 23 = .ok (.invokevirtual 102, 3) := by decide +kernel
theorem dX3_first_26 : decode cX3_first 26 = .ok (.ireturn, 1) := by decide +kernel
theorem dX3_solve_0 : decode cX3_solve 0 = .ok (.aload_n 0, 1) := by decide +kernel
theorem dX3_solve_1 : decode cX3_solve 1 = .ok (.getfield 41, 3) := by decide +kernel
theorem dX3_solve_4 : decode cX3_solve 4 = .ok (.invokevirtual 105, 3) := by decide +kernel
theorem dX3_solve_7 : decode cX3_solve 7 = .ok (.aload_n 0, 1) := by decide +kernel
theorem dX3_solve_8 : decode cX3_solve 8 = .ok (.getfield 41, 3) := by decide +kernel
theorem dX3_solve_11 : decode cX3_solve 11 = .ok (.invokevirtual 108, 3) := by decide +kernel
theorem dX3_solve_14 : decode cX3_solve 14 = .ok (.ifCond .eq 13, 3) := by decide +kernel
theorem dX3_solve_17 : decode cX3_solve 17 = .ok (.aload_n 0, 1) := by decide +kernel
theorem dX3_solve_18 : decode cX3_solve 18 = .ok (.getfield 41, 3) := by decide +kernel
theorem dX3_solve_21 : decode cX3_solve 21 = .ok (.getfield 112, 3) := by decide +kernel
theorem dX3_solve_24 : decode cX3_solve 24 = .ok (.goto 6, 3) := by decide +kernel
theorem dX3_solve_27 : decode cX3_solve 27 = .ok (.ldc2_w 116, 3) := by decide +kernel
theorem dX3_solve_30 : decode cX3_solve 30 = .ok (.lreturn, 1) := by decide +kernel
theorem dX3_value_0 : decode cX3_value 0 = .ok (.iload_n 1, 1) := by decide +kernel
theorem dX3_value_1 : decode cX3_value 1 = .ok (.ifCond .lt 24, 3) := by decide +kernel
theorem dX3_value_4 : decode cX3_value 4 = .ok (.iload_n 1, 1) := by decide +kernel
theorem dX3_value_5 : decode cX3_value 5 = .ok (.aload_n 0, 1) := by decide +kernel
theorem dX3_value_6 : decode cX3_value 6 = .ok (.getfield 23, 3) := by decide +kernel
theorem dX3_value_9 : decode cX3_value 9 = .ok (.getfield 45, 3) := by decide +kernel
theorem dX3_value_12 : decode cX3_value 12 = .ok (.if_icmp .ge 13, 3) := by decide +kernel
theorem dX3_value_15 : decode cX3_value 15 = .ok (.aload_n 0, 1) := by decide +kernel
theorem dX3_value_16 : decode cX3_value 16 = .ok (.getfield 41, 3) := by decide +kernel
theorem dX3_value_19 : decode cX3_value 19 = .ok (.invokevirtual 108, 3) := by decide +kernel
theorem dX3_value_22 : decode cX3_value 22 = .ok (.ifCond .ne 5, 3) := by decide +kernel
theorem dX3_value_25 : decode cX3_value 25 = .ok (.iconst (-1), 1) := by decide +kernel
theorem dX3_value_26 : decode cX3_value 26 = .ok (.ireturn, 1) := by decide +kernel
theorem dX3_value_27 : decode cX3_value 27 = .ok (.aload_n 0, 1) := by decide +kernel
theorem dX3_value_28 : decode cX3_value 28 = .ok (.getfield 41, 3) := by decide +kernel
theorem dX3_value_31 : decode cX3_value 31 = .ok (.getfield 118, 3) := by decide +kernel
theorem dX3_value_34 : decode cX3_value 34 = .ok (.iload_n 1, 1) := by decide +kernel
theorem dX3_value_35 : decode cX3_value 35 = .ok (.ishr, 1) := by decide +kernel
theorem dX3_value_36 : decode cX3_value 36 = .ok (.iconst 1, 1) := by decide +kernel
theorem dX3_value_37 : decode cX3_value 37 = .ok (.iand, 1) := by decide +kernel
theorem dX3_value_38 : decode cX3_value 38 = .ok (.ireturn, 1) := by decide +kernel
theorem dX3_nodes_0 : decode cX3_nodes 0 = .ok (.aload_n 0, 1) := by decide +kernel
theorem dX3_nodes_1 : decode cX3_nodes 1 = .ok (.getfield 41, 3) := by decide +kernel
theorem dX3_nodes_4 : decode cX3_nodes 4 = .ok (.getfield 121, 3) := by decide +kernel
theorem dX3_nodes_7 : decode cX3_nodes 7 = .ok (.ireturn, 1) := by decide +kernel
theorem dX3_logged_0 : decode cX3_logged 0 = .ok (.aload_n 0, 1) := by decide +kernel
theorem dX3_logged_1 : decode cX3_logged 1 = .ok (.getfield 41, 3) := by decide +kernel
theorem dX3_logged_4 : decode cX3_logged 4 = .ok (.getfield 124, 3) := by decide +kernel
theorem dX3_logged_7 : decode cX3_logged 7 = .ok (.ireturn, 1) := by decide +kernel
theorem dX3_log_0 : decode cX3_log 0 = .ok (.aload_n 0, 1) := by decide +kernel
theorem dX3_log_1 : decode cX3_log 1 = .ok (.getfield 41, 3) := by decide +kernel
theorem dX3_log_4 : decode cX3_log 4 = .ok (.iload_n 1, 1) := by decide +kernel
theorem dX3_log_5 : decode cX3_log 5 = .ok (.invokevirtual 127, 3) := by decide +kernel
theorem dX3_log_8 : decode cX3_log 8 = .ok (.ifCond .ne 5, 3) := by decide +kernel
theorem dX3_log_11 : decode cX3_log 11 = .ok (.iconst (-1), 1) := by decide +kernel
theorem dX3_log_12 : decode cX3_log 12 = .ok (.ireturn, 1) := by decide +kernel
theorem dX3_log_13 : decode cX3_log 13 = .ok (.iload_n 2, 1) := by decide +kernel
theorem dX3_log_14 : decode cX3_log 14 = .ok (.lookupswitch 46 #[(0, 26), (1, 36)], 26) := by decide +kernel
theorem dX3_log_40 : decode cX3_log 40 = .ok (.aload_n 0, 1) := by decide +kernel
theorem dX3_log_41 : decode cX3_log 41 = .ok (.getfield 41, 3) := by decide +kernel
theorem dX3_log_44 : decode cX3_log 44 = .ok (.getfield 130, 3) := by decide +kernel
theorem dX3_log_47 : decode cX3_log 47 = .ok (.iload_n 1, 1) := by decide +kernel
theorem dX3_log_48 : decode cX3_log 48 = .ok (.iaload, 1) := by decide +kernel
theorem dX3_log_49 : decode cX3_log 49 = .ok (.ireturn, 1) := by decide +kernel
theorem dX3_log_50 : decode cX3_log 50 = .ok (.aload_n 0, 1) := by decide +kernel
theorem dX3_log_51 : decode cX3_log 51 = .ok (.getfield 41, 3) := by decide +kernel
theorem dX3_log_54 : decode cX3_log 54 = .ok (.getfield 134, 3) := by decide +kernel
theorem dX3_log_57 : decode cX3_log 57 = .ok (.iload_n 1, 1) := by decide +kernel
theorem dX3_log_58 : decode cX3_log 58 = .ok (.iaload, 1) := by decide +kernel
theorem dX3_log_59 : decode cX3_log 59 = .ok (.ireturn, 1) := by decide +kernel
theorem dX3_log_60 : decode cX3_log 60 = .ok (.iconst (-1), 1) := by decide +kernel
theorem dX3_log_61 : decode cX3_log 61 = .ok (.ireturn, 1) := by decide +kernel
theorem dX3_best_0 : decode cX3_best 0 = .ok (.aload_n 0, 1) := by decide +kernel
theorem dX3_best_1 : decode cX3_best 1 = .ok (.getfield 41, 3) := by decide +kernel
theorem dX3_best_4 : decode cX3_best 4 = .ok (.iload_n 1, 1) := by decide +kernel
theorem dX3_best_5 : decode cX3_best 5 = .ok (.invokevirtual 127, 3) := by decide +kernel
theorem dX3_best_8 : decode cX3_best 8 = .ok (.ifCond .eq 15, 3) := by decide +kernel
theorem dX3_best_11 : decode cX3_best 11 = .ok (.aload_n 0, 1) := by decide +kernel
theorem dX3_best_12 : decode cX3_best 12 = .ok (.getfield 41, 3) := by decide +kernel
theorem dX3_best_15 : decode cX3_best 15 = .ok (.getfield 137, 3) := by decide +kernel
theorem dX3_best_18 : decode cX3_best 18 = .ok (.iload_n 1, 1) := by decide +kernel
theorem dX3_best_19 : decode cX3_best 19 = .ok (.laload, 1) := by decide +kernel
theorem dX3_best_20 : decode cX3_best 20 = .ok (.goto 6, 3) := by decide +kernel
theorem dX3_best_23 : decode cX3_best 23 = .ok (.ldc2_w 141, 3) := by decide +kernel
theorem dX3_best_26 : decode cX3_best 26 = .ok (.lreturn, 1) := by decide +kernel
theorem dX3_isWeight_0 : decode cX3_isWeight 0 = .ok (.iload_n 0, 1) := by decide +kernel
theorem dX3_isWeight_1 : decode cX3_isWeight 1 = .ok (.ifCond .lt 13, 3) := by decide +kernel
theorem dX3_isWeight_4 : decode cX3_isWeight 4 = .ok (.iload_n 0, 1) := by decide +kernel
theorem dX3_isWeight_5 : decode cX3_isWeight 5 = .ok (.ldc 143, 2) := by decide +kernel
theorem dX3_isWeight_7 : decode cX3_isWeight 7 = .ok (.if_icmp .gt 7, 3) := by decide +kernel
theorem dX3_isWeight_10 : decode cX3_isWeight 10 = .ok (.iconst 1, 1) := by decide +kernel
theorem dX3_isWeight_11 : decode cX3_isWeight 11 = .ok (.goto 4, 3) := by decide +kernel
theorem dX3_isWeight_14 : decode cX3_isWeight 14 = .ok (.iconst 0, 1) := by decide +kernel
theorem dX3_isWeight_15 : decode cX3_isWeight 15 = .ok (.ireturn, 1) := by decide +kernel
theorem dX3_isState_0 : decode cX3_isState 0 = .ok (.iload_n 1, 1) := by decide +kernel
theorem dX3_isState_1 : decode cX3_isState 1 = .ok (.aload_n 0, 1) := by decide +kernel
theorem dX3_isState_2 : decode cX3_isState 2 = .ok (.getfield 23, 3) := by decide +kernel
theorem dX3_isState_5 : decode cX3_isState 5 = .ok (.getfield 144, 3) := by decide +kernel
theorem dX3_isState_8 : decode cX3_isState 8 = .ok (.iconst (-1), 1) := by decide +kernel
theorem dX3_isState_9 : decode cX3_isState 9 = .ok (.ixor, 1) := by decide +kernel
theorem dX3_isState_10 : decode cX3_isState 10 = .ok (.iand, 1) := by decide +kernel
theorem dX3_isState_11 : decode cX3_isState 11 = .ok (.ifCond .ne 15, 3) := by decide +kernel
theorem dX3_isState_14 : decode cX3_isState 14 = .ok (.iload_n 2, 1) := by decide +kernel
theorem dX3_isState_15 : decode cX3_isState 15 = .ok (.iload_n 1, 1) := by decide +kernel
theorem dX3_isState_16 : decode cX3_isState 16 = .ok (.iconst (-1), 1) := by decide +kernel
theorem dX3_isState_17 : decode cX3_isState 17 = .ok (.ixor, 1) := by decide +kernel
theorem dX3_isState_18 : decode cX3_isState 18 = .ok (.iand, 1) := by decide +kernel
theorem dX3_isState_19 : decode cX3_isState 19 = .ok (.ifCond .ne 7, 3) := by decide +kernel
theorem dX3_isState_22 : decode cX3_isState 22 = .ok (.iconst 1, 1) := by decide +kernel
theorem dX3_isState_23 : decode cX3_isState 23 = .ok (.goto 4, 3) := by decide +kernel
theorem dX3_isState_26 : decode cX3_isState 26 = .ok (.iconst 0, 1) := by decide +kernel
theorem dX3_isState_27 : decode cX3_isState 27 = .ok (.ireturn, 1) := by decide +kernel
theorem dX3_areLiterals_0 : decode cX3_areLiterals 0 = .ok (.aload_n 0, 1) := by decide +kernel
theorem dX3_areLiterals_1 : decode cX3_areLiterals 1 = .ok (.iload_n 1, 1) := by decide +kernel
theorem dX3_areLiterals_2 : decode cX3_areLiterals 2 = .ok (.invokevirtual 147, 3) := by decide +kernel
theorem dX3_areLiterals_5 : decode cX3_areLiterals 5 = .ok (.ifCond .eq 28, 3) := by decide +kernel
theorem dX3_areLiterals_8 : decode cX3_areLiterals 8 = .ok (.aload_n 0, 1) := by decide +kernel
theorem dX3_areLiterals_9 : decode cX3_areLiterals 9 = .ok (.iload_n 2, 1) := by decide +kernel
theorem dX3_areLiterals_10 : decode cX3_areLiterals 10 = .ok (.invokevirtual 147, 3) := by decide +kernel
theorem dX3_areLiterals_13 : decode cX3_areLiterals 13 = .ok (.ifCond .eq 20, 3) := by decide +kernel
theorem dX3_areLiterals_16 : decode cX3_areLiterals 16 = .ok (.aload_n 0, 1) := by decide +kernel
theorem dX3_areLiterals_17 : decode cX3_areLiterals 17 = .ok (.iload_n 3, 1) := by decide +kernel
theorem dX3_areLiterals_18 : decode cX3_areLiterals 18 = .ok (.invokevirtual 147, 3) := by decide +kernel
theorem dX3_areLiterals_21 : decode cX3_areLiterals 21 = .ok (.ifCond .eq 12, 3) := by decide +kernel
theorem dX3_areLiterals_24 : decode cX3_areLiterals 24 = .ok (.aload_n 0, 1) := by decide +kernel
theorem dX3_areLiterals_25 : decode cX3_areLiterals 25 = .ok (.iload 4, 2) := by decide +kernel
theorem dX3_areLiterals_27 : decode cX3_areLiterals 27 = .ok (.invokevirtual 147, 3) := by decide +kernel
theorem dX3_areLiterals_30 : decode cX3_areLiterals 30 = .ok (.ifCond .ne 5, 3) := by decide +kernel
theorem dX3_areLiterals_33 : decode cX3_areLiterals 33 = .ok (.iconst 0, 1) := by decide +kernel
theorem dX3_areLiterals_34 : decode cX3_areLiterals 34 = .ok (.ireturn, 1) := by decide +kernel
theorem dX3_areLiterals_35 : decode cX3_areLiterals 35 = .ok (.iload_n 1, 1) := by decide +kernel
theorem dX3_areLiterals_36 : decode cX3_areLiterals 36 = .ok (.invokestatic 150, 3) := by decide +kernel
theorem dX3_areLiterals_39 : decode cX3_areLiterals 39 = .ok (.iload_n 2, 1) := by decide +kernel
theorem dX3_areLiterals_40 : decode cX3_areLiterals 40 = .ok (.invokestatic 150, 3) := by decide +kernel
theorem dX3_areLiterals_43 : decode cX3_areLiterals 43 = .ok (.iadd, 1) := by decide +kernel
theorem dX3_areLiterals_44 : decode cX3_areLiterals 44 = .ok (.iload_n 3, 1) := by decide +kernel
theorem dX3_areLiterals_45 : decode cX3_areLiterals 45 = .ok (.invokestatic 150, 3) := by decide +kernel
theorem dX3_areLiterals_48 : decode cX3_areLiterals 48 = .ok (.iadd, 1) := by decide +kernel
theorem dX3_areLiterals_49 : decode cX3_areLiterals 49 = .ok (.iload 4, 2) := by decide +kernel
theorem dX3_areLiterals_51 : decode cX3_areLiterals 51 = .ok (.invokestatic 150, 3) := by decide +kernel
theorem dX3_areLiterals_54 : decode cX3_areLiterals 54 = .ok (.iadd, 1) := by decide +kernel
theorem dX3_areLiterals_55 : decode cX3_areLiterals 55 = .ok (.istore 5, 2) := by decide +kernel
theorem dX3_areLiterals_57 : decode cX3_areLiterals 57 = .ok (.iload_n 1, 1) := by decide +kernel
theorem dX3_areLiterals_58 : decode cX3_areLiterals 58 = .ok (.invokestatic 153, 3) := by decide +kernel
theorem dX3_areLiterals_61 : decode cX3_areLiterals 61 = .ok (.iload_n 2, 1) := by decide +kernel
theorem dX3_areLiterals_62 : decode cX3_areLiterals 62 = .ok (.invokestatic 153, 3) := by decide +kernel
theorem dX3_areLiterals_65 : decode cX3_areLiterals 65 = .ok (.ior, 1) := by decide +kernel
theorem dX3_areLiterals_66 : decode cX3_areLiterals 66 = .ok (.iload_n 3, 1) := by decide +kernel
theorem dX3_areLiterals_67 : decode cX3_areLiterals 67 = .ok (.invokestatic 153, 3) := by decide +kernel
theorem dX3_areLiterals_70 : decode cX3_areLiterals 70 = .ok (.ior, 1) := by decide +kernel
end
section
theorem dX3_areLiterals_71 : decode cX3_areLiterals 71 = .ok (.iload 4, 2) := by decide +kernel
theorem dX3_areLiterals_73 : decode cX3_areLiterals 73 = .ok (.invokestatic 153, 3) := by decide +kernel
theorem dX3_areLiterals_76 : decode cX3_areLiterals 76 = .ok (.ior, 1) := by decide +kernel
theorem dX3_areLiterals_77 : decode cX3_areLiterals 77 = .ok (.istore 6, 2) := by decide +kernel
theorem dX3_areLiterals_79 : decode cX3_areLiterals 79 = .ok (.iload 5, 2) := by decide +kernel
theorem dX3_areLiterals_81 : decode cX3_areLiterals 81 = .ok (.ifCond .le 17, 3) := by decide +kernel
theorem dX3_areLiterals_84 : decode cX3_areLiterals 84 = .ok (.iload 6, 2) := by decide +kernel
theorem dX3_areLiterals_86 : decode cX3_areLiterals 86 = .ok (.invokestatic 156, 3) := by decide +kernel
theorem dX3_areLiterals_89 : decode cX3_areLiterals 89 = .ok (.iload 5, 2) := by decide +kernel
theorem dX3_areLiterals_91 : decode cX3_areLiterals 91 = .ok (.if_icmp .ne 7, 3) := by decide +kernel
theorem dX3_areLiterals_94 : decode cX3_areLiterals 94 = .ok (.iconst 1, 1) := by decide +kernel
theorem dX3_areLiterals_95 : decode cX3_areLiterals 95 = .ok (.goto 4, 3) := by decide +kernel
theorem dX3_areLiterals_98 : decode cX3_areLiterals 98 = .ok (.iconst 0, 1) := by decide +kernel
theorem dX3_areLiterals_99 : decode cX3_areLiterals 99 = .ok (.ireturn, 1) := by decide +kernel
theorem dX3_isLiteralOrAbsent_0 : decode cX3_isLiteralOrAbsent 0 = .ok (.iload_n 1, 1) := by decide +kernel
theorem dX3_isLiteralOrAbsent_1 : decode cX3_isLiteralOrAbsent 1 = .ok (.iconst (-1), 1) := by decide +kernel
theorem dX3_isLiteralOrAbsent_2 : decode cX3_isLiteralOrAbsent 2 = .ok (.if_icmp .lt 20, 3) := by decide +kernel
theorem dX3_isLiteralOrAbsent_5 : decode cX3_isLiteralOrAbsent 5 = .ok (.iload_n 1, 1) := by decide +kernel
theorem dX3_isLiteralOrAbsent_6 : decode cX3_isLiteralOrAbsent 6 = .ok (.iconst 2, 1) := by decide +kernel
theorem dX3_isLiteralOrAbsent_7 : decode cX3_isLiteralOrAbsent 7 = .ok (.aload_n 0, 1) := by decide +kernel
theorem dX3_isLiteralOrAbsent_8 : decode cX3_isLiteralOrAbsent 8 = .ok (.getfield 23, 3) := by decide +kernel
theorem dX3_isLiteralOrAbsent_11 : decode cX3_isLiteralOrAbsent 11 = .ok (.getfield 45, 3) := by decide +kernel
theorem dX3_isLiteralOrAbsent_14 : decode cX3_isLiteralOrAbsent 14 = .ok (.imul, 1) := by decide +kernel
theorem dX3_isLiteralOrAbsent_15 : decode cX3_isLiteralOrAbsent 15 = .ok (.if_icmp .ge 7, 3) := by decide +kernel
theorem dX3_isLiteralOrAbsent_18 : decode cX3_isLiteralOrAbsent 18 = .ok (.iconst 1, 1) := by decide +kernel
theorem dX3_isLiteralOrAbsent_19 : decode cX3_isLiteralOrAbsent 19 = .ok (.goto 4, 3) := by decide +kernel
theorem dX3_isLiteralOrAbsent_22 : decode cX3_isLiteralOrAbsent 22 = .ok (.iconst 0, 1) := by decide +kernel
theorem dX3_isLiteralOrAbsent_23 : decode cX3_isLiteralOrAbsent 23 = .ok (.ireturn, 1) := by decide +kernel
theorem dX3_countIfPresent_0 : decode cX3_countIfPresent 0 = .ok (.iload_n 0, 1) := by decide +kernel
theorem dX3_countIfPresent_1 : decode cX3_countIfPresent 1 = .ok (.iconst (-1), 1) := by decide +kernel
theorem dX3_countIfPresent_2 : decode cX3_countIfPresent 2 = .ok (.if_icmp .ne 7, 3) := by decide +kernel
theorem dX3_countIfPresent_5 : decode cX3_countIfPresent 5 = .ok (.iconst 0, 1) := by decide +kernel
theorem dX3_countIfPresent_6 : decode cX3_countIfPresent 6 = .ok (.goto 4, 3) := by decide +kernel
theorem dX3_countIfPresent_9 : decode cX3_countIfPresent 9 = .ok (.iconst 1, 1) := by decide +kernel
theorem dX3_countIfPresent_10 : decode cX3_countIfPresent 10 = .ok (.ireturn, 1) := by decide +kernel
theorem dX3_variableBit_0 : decode cX3_variableBit 0 = .ok (.iload_n 0, 1) := by decide +kernel
theorem dX3_variableBit_1 : decode cX3_variableBit 1 = .ok (.invokestatic 69, 3) := by decide +kernel
theorem dX3_variableBit_4 : decode cX3_variableBit 4 = .ok (.iload_n 0, 1) := by decide +kernel
theorem dX3_variableBit_5 : decode cX3_variableBit 5 = .ok (.invokestatic 73, 3) := by decide +kernel
theorem dX3_variableBit_8 : decode cX3_variableBit 8 = .ok (.ior, 1) := by decide +kernel
theorem dX3_variableBit_9 : decode cX3_variableBit 9 = .ok (.ireturn, 1) := by decide +kernel
theorem dX3_bitIfTrue_0 : decode cX3_bitIfTrue 0 = .ok (.iload_n 0, 1) := by decide +kernel
theorem dX3_bitIfTrue_1 : decode cX3_bitIfTrue 1 = .ok (.iconst (-1), 1) := by decide +kernel
theorem dX3_bitIfTrue_2 : decode cX3_bitIfTrue 2 = .ok (.if_icmp .eq 10, 3) := by decide +kernel
theorem dX3_bitIfTrue_5 : decode cX3_bitIfTrue 5 = .ok (.iload_n 0, 1) := by decide +kernel
theorem dX3_bitIfTrue_6 : decode cX3_bitIfTrue 6 = .ok (.iconst 1, 1) := by decide +kernel
theorem dX3_bitIfTrue_7 : decode cX3_bitIfTrue 7 = .ok (.iand, 1) := by decide +kernel
theorem dX3_bitIfTrue_8 : decode cX3_bitIfTrue 8 = .ok (.iconst 1, 1) := by decide +kernel
theorem dX3_bitIfTrue_9 : decode cX3_bitIfTrue 9 = .ok (.if_icmp .ne 7, 3) := by decide +kernel
theorem dX3_bitIfTrue_12 : decode cX3_bitIfTrue 12 = .ok (.iconst 0, 1) := by decide +kernel
theorem dX3_bitIfTrue_13 : decode cX3_bitIfTrue 13 = .ok (.goto 8, 3) := by decide +kernel
theorem dX3_bitIfTrue_16 : decode cX3_bitIfTrue 16 = .ok (.iconst 1, 1) := by decide +kernel
theorem dX3_bitIfTrue_17 : decode cX3_bitIfTrue 17 = .ok (.iload_n 0, 1) := by decide +kernel
theorem dX3_bitIfTrue_18 : decode cX3_bitIfTrue 18 = .ok (.iconst 1, 1) := by decide +kernel
theorem dX3_bitIfTrue_19 : decode cX3_bitIfTrue 19 = .ok (.ishr, 1) := by decide +kernel
theorem dX3_bitIfTrue_20 : decode cX3_bitIfTrue 20 = .ok (.ishl, 1) := by decide +kernel
theorem dX3_bitIfTrue_21 : decode cX3_bitIfTrue 21 = .ok (.ireturn, 1) := by decide +kernel
theorem dX3_bitIfFalse_0 : decode cX3_bitIfFalse 0 = .ok (.iload_n 0, 1) := by decide +kernel
theorem dX3_bitIfFalse_1 : decode cX3_bitIfFalse 1 = .ok (.iconst (-1), 1) := by decide +kernel
theorem dX3_bitIfFalse_2 : decode cX3_bitIfFalse 2 = .ok (.if_icmp .eq 9, 3) := by decide +kernel
theorem dX3_bitIfFalse_5 : decode cX3_bitIfFalse 5 = .ok (.iload_n 0, 1) := by decide +kernel
theorem dX3_bitIfFalse_6 : decode cX3_bitIfFalse 6 = .ok (.iconst 1, 1) := by decide +kernel
theorem dX3_bitIfFalse_7 : decode cX3_bitIfFalse 7 = .ok (.iand, 1) := by decide +kernel
theorem dX3_bitIfFalse_8 : decode cX3_bitIfFalse 8 = .ok (.ifCond .ne 7, 3) := by decide +kernel
theorem dX3_bitIfFalse_11 : decode cX3_bitIfFalse 11 = .ok (.iconst 0, 1) := by decide +kernel
theorem dX3_bitIfFalse_12 : decode cX3_bitIfFalse 12 = .ok (.goto 8, 3) := by decide +kernel
theorem dX3_bitIfFalse_15 : decode cX3_bitIfFalse 15 = .ok (.iconst 1, 1) := by decide +kernel
theorem dX3_bitIfFalse_16 : decode cX3_bitIfFalse 16 = .ok (.iload_n 0, 1) := by decide +kernel
theorem dX3_bitIfFalse_17 : decode cX3_bitIfFalse 17 = .ok (.iconst 1, 1) := by decide +kernel
theorem dX3_bitIfFalse_18 : decode cX3_bitIfFalse 18 = .ok (.ishr, 1) := by decide +kernel
theorem dX3_bitIfFalse_19 : decode cX3_bitIfFalse 19 = .ok (.ishl, 1) := by decide +kernel
theorem dX3_bitIfFalse_20 : decode cX3_bitIfFalse 20 = .ok (.ireturn, 1) := by decide +kernel
theorem dX4_init_0 : decode cX4_init 0 = .ok (.aload_n 0, 1) := by decide +kernel
theorem dX4_init_1 : decode cX4_init 1 = .ok (.invokespecial 1, 3) := by decide +kernel
theorem dX4_init_4 : decode cX4_init 4 = .ok (.aload_n 0, 1) := by decide +kernel
theorem dX4_init_5 : decode cX4_init 5 = .ok (.bipush 40, 2) := by decide +kernel
theorem dX4_init_7 : decode cX4_init 7 = .ok (.newarray .int, 2) := by decide +kernel
theorem dX4_init_9 : decode cX4_init 9 = .ok (.putfield 7, 3) := by decide +kernel
theorem dX4_init_12 : decode cX4_init 12 = .ok (.aload_n 0, 1) := by decide +kernel
theorem dX4_init_13 : decode cX4_init 13 = .ok (.bipush 40, 2) := by decide +kernel
theorem dX4_init_15 : decode cX4_init 15 = .ok (.newarray .int, 2) := by decide +kernel
theorem dX4_init_17 : decode cX4_init 17 = .ok (.putfield 13, 3) := by decide +kernel
theorem dX4_init_20 : decode cX4_init 20 = .ok (.aload_n 0, 1) := by decide +kernel
theorem dX4_init_21 : decode cX4_init 21 = .ok (.bipush 40, 2) := by decide +kernel
theorem dX4_init_23 : decode cX4_init 23 = .ok (.newarray .int, 2) := by decide +kernel
theorem dX4_init_25 : decode cX4_init 25 = .ok (.putfield 16, 3) := by decide +kernel
theorem dX4_init_28 : decode cX4_init 28 = .ok (.aload_n 0, 1) := by decide +kernel
theorem dX4_init_29 : decode cX4_init 29 = .ok (.bipush 40, 2) := by decide +kernel
theorem dX4_init_31 : decode cX4_init 31 = .ok (.newarray .long, 2) := by decide +kernel
theorem dX4_init_33 : decode cX4_init 33 = .ok (.putfield 19, 3) := by decide +kernel
theorem dX4_init_36 : decode cX4_init 36 = .ok (.aload_n 0, 1) := by decide +kernel
theorem dX4_init_37 : decode cX4_init 37 = .ok (.bipush 40, 2) := by decide +kernel
theorem dX4_init_39 : decode cX4_init 39 = .ok (.newarray .boolean, 2) := by decide +kernel
theorem dX4_init_41 : decode cX4_init 41 = .ok (.putfield 23, 3) := by decide +kernel
theorem dX4_init_44 : decode cX4_init 44 = .ok (.aload_n 0, 1) := by decide +kernel
theorem dX4_init_45 : decode cX4_init 45 = .ok (.bipush 10, 2) := by decide +kernel
theorem dX4_init_47 : decode cX4_init 47 = .ok (.newarray .int, 2) := by decide +kernel
theorem dX4_init_49 : decode cX4_init 49 = .ok (.putfield 27, 3) := by decide +kernel
theorem dX4_init_52 : decode cX4_init 52 = .ok (.aload_n 0, 1) := by decide +kernel
theorem dX4_init_53 : decode cX4_init 53 = .ok (.sipush 1024, 3) := by decide +kernel
theorem dX4_init_56 : decode cX4_init 56 = .ok (.newarray .int, 2) := by decide +kernel
theorem dX4_init_58 : decode cX4_init 58 = .ok (.putfield 30, 3) := by decide +kernel
theorem dX4_init_61 : decode cX4_init 61 = .ok (.aload_n 0, 1) := by decide +kernel
theorem dX4_init_62 : decode cX4_init 62 = .ok (.sipush 1024, 3) := by decide +kernel
theorem dX4_init_65 : decode cX4_init 65 = .ok (.newarray .int, 2) := by decide +kernel
theorem dX4_init_67 : decode cX4_init 67 = .ok (.putfield 33, 3) := by decide +kernel
theorem dX4_init_70 : decode cX4_init 70 = .ok (.aload_n 0, 1) := by decide +kernel
theorem dX4_init_71 : decode cX4_init 71 = .ok (.sipush 1024, 3) := by decide +kernel
theorem dX4_init_74 : decode cX4_init 74 = .ok (.newarray .long, 2) := by decide +kernel
theorem dX4_init_76 : decode cX4_init 76 = .ok (.putfield 36, 3) := by decide +kernel
theorem dX4_init_79 : decode cX4_init 79 = .ok (.aload_n 0, 1) := by decide +kernel
theorem dX4_init_80 : decode cX4_init 80 = .ok (.bipush 24, 2) := by decide +kernel
theorem dX4_init_82 : decode cX4_init 82 = .ok (.newarray .int, 2) := by decide +kernel
theorem dX4_init_84 : decode cX4_init 84 = .ok (.putfield 39, 3) := by decide +kernel
theorem dX4_init_87 : decode cX4_init 87 = .ok (.aload_n 0, 1) := by decide +kernel
theorem dX4_init_88 : decode cX4_init 88 = .ok (.bipush 24, 2) := by decide +kernel
theorem dX4_init_90 : decode cX4_init 90 = .ok (.newarray .int, 2) := by decide +kernel
theorem dX4_init_92 : decode cX4_init 92 = .ok (.putfield 42, 3) := by decide +kernel
theorem dX4_init_95 : decode cX4_init 95 = .ok (.aload_n 0, 1) := by decide +kernel
theorem dX4_init_96 : decode cX4_init 96 = .ok (.iload_n 1, 1) := by decide +kernel
theorem dX4_init_97 : decode cX4_init 97 = .ok (.iconst 1, 1) := by decide +kernel
theorem dX4_init_98 : decode cX4_init 98 = .ok (.if_icmp .ge 7, 3) := by decide +kernel
theorem dX4_init_101 : decode cX4_init 101 = .ok (.iconst 1, 1) := by decide +kernel
theorem dX4_init_102 : decode cX4_init 102 = .ok (.goto 15, 3) := by decide +kernel
theorem dX4_init_105 : decode cX4_init 105 = .ok (.iload_n 1, 1) := by decide +kernel
theorem dX4_init_106 : decode cX4_init 106 = .ok (.bipush 10, 2) := by decide +kernel
theorem dX4_init_108 : decode cX4_init 108 = .ok (.if_icmp .le 8, 3) := by decide +kernel
theorem dX4_init_111 : decode cX4_init 111 = .ok (.bipush 10, 2) := by decide +kernel
theorem dX4_init_113 : decode cX4_init 113 = .ok (.goto 4, 3) := by decide +kernel
theorem dX4_init_116 : decode cX4_init 116 = .ok (.iload_n 1, 1) := by decide +kernel
theorem dX4_init_117 : decode cX4_init 117 = .ok (.putfield 45, 3) := by decide +kernel
theorem dX4_init_120 : decode cX4_init 120 = .ok (.return_, 1) := by decide +kernel
theorem dX4_thrown_0 : decode cX4_thrown 0 = .ok (.aload_n 0, 1) := by decide +kernel
theorem dX4_thrown_1 : decode cX4_thrown 1 = .ok (.getfield 49, 3) := by decide +kernel
theorem dX4_thrown_4 : decode cX4_thrown 4 = .ok (.ireturn, 1) := by decide +kernel
theorem dX4_variables_0 : decode cX4_variables 0 = .ok (.aload_n 0, 1) := by decide +kernel
theorem dX4_variables_1 : decode cX4_variables 1 = .ok (.iconst 0, 1) := by decide +kernel
theorem dX4_variables_2 : decode cX4_variables 2 = .ok (.putfield 49, 3) := by decide +kernel
theorem dX4_variables_5 : decode cX4_variables 5 = .ok (.aload_n 0, 1) := by decide +kernel
theorem dX4_variables_6 : decode cX4_variables 6 = .ok (.getfield 45, 3) := by decide +kernel
theorem dX4_variables_9 : decode cX4_variables 9 = .ok (.ireturn, 1) := by decide +kernel
theorem dX4_forget_0 : decode cX4_forget 0 = .ok (.aload_n 0, 1) := by decide +kernel
theorem dX4_forget_1 : decode cX4_forget 1 = .ok (.iconst 0, 1) := by decide +kernel
theorem dX4_forget_2 : decode cX4_forget 2 = .ok (.putfield 52, 3) := by decide +kernel
theorem dX4_forget_5 : decode cX4_forget 5 = .ok (.aload_n 0, 1) := by decide +kernel
theorem dX4_forget_6 : decode cX4_forget 6 = .ok (.iconst 0, 1) := by decide +kernel
theorem dX4_forget_7 : decode cX4_forget 7 = .ok (.putfield 56, 3) := by decide +kernel
theorem dX4_forget_10 : decode cX4_forget 10 = .ok (.aload_n 0, 1) := by decide +kernel
theorem dX4_forget_11 : decode cX4_forget 11 = .ok (.iconst 0, 1) := by decide +kernel
theorem dX4_forget_12 : decode cX4_forget 12 = .ok (.putfield 59, 3) := by decide +kernel
theorem dX4_forget_15 : decode cX4_forget 15 = .ok (.return_, 1) := by decide +kernel
theorem dX4_noLiteral_0 : decode cX4_noLiteral 0 = .ok (.iload_n 1, 1) := by decide +kernel
theorem dX4_noLiteral_1 : decode cX4_noLiteral 1 = .ok (.iconst (-1), 1) := by decide +kernel
theorem dX4_noLiteral_2 : decode cX4_noLiteral 2 = .ok (.if_icmp .lt 13, 3) := by decide +kernel
theorem dX4_noLiteral_5 : decode cX4_noLiteral 5 = .ok (.iload_n 1, 1) := by decide +kernel
theorem dX4_noLiteral_6 : decode cX4_noLiteral 6 = .ok (.iconst 2, 1) := by decide +kernel
theorem dX4_noLiteral_7 : decode cX4_noLiteral 7 = .ok (.aload_n 0, 1) := by decide +kernel
theorem dX4_noLiteral_8 : decode cX4_noLiteral 8 = .ok (.getfield 45, 3) := by decide +kernel
theorem dX4_noLiteral_11 : decode cX4_noLiteral 11 = .ok (.imul, 1) := by decide +kernel
theorem dX4_noLiteral_12 : decode cX4_noLiteral 12 = .ok (.if_icmp .lt 7, 3) := by decide +kernel
theorem dX4_noLiteral_15 : decode cX4_noLiteral 15 = .ok (.iconst 1, 1) := by decide +kernel
theorem dX4_noLiteral_16 : decode cX4_noLiteral 16 = .ok (.goto 4, 3) := by decide +kernel
theorem dX4_noLiteral_19 : decode cX4_noLiteral 19 = .ok (.iconst 0, 1) := by decide +kernel
theorem dX4_noLiteral_20 : decode cX4_noLiteral 20 = .ok (.ireturn, 1) := by decide +kernel
theorem dX4_says_0 : decode cX4_says 0 = .ok (.iload_n 0, 1) := by decide +kernel
theorem dX4_says_1 : decode cX4_says 1 = .ok (.ifCond .lt 18, 3) := by decide +kernel
theorem dX4_says_4 : decode cX4_says 4 = .ok (.iload_n 0, 1) := by decide +kernel
theorem dX4_says_5 : decode cX4_says 5 = .ok (.iconst 2, 1) := by decide +kernel
theorem dX4_says_6 : decode cX4_says 6 = .ok (.irem, 1) := by decide +kernel
theorem dX4_says_7 : decode cX4_says 7 = .ok (.iload_n 1, 1) := by decide +kernel
theorem dX4_says_8 : decode cX4_says 8 = .ok (.if_icmp .ne 11, 3) := by decide +kernel
theorem dX4_says_11 : decode cX4_says 11 = .ok (.iconst 1, 1) := by decide +kernel
theorem dX4_says_12 : decode cX4_says 12 = .ok (.iload_n 0, 1) := by decide +kernel
theorem dX4_says_13 : decode cX4_says 13 = .ok (.iconst 2, 1) := by decide +kernel
theorem dX4_says_14 : decode cX4_says 14 = .ok (.idiv, 1) := by decide +kernel
theorem dX4_says_15 : decode cX4_says 15 = .ok (.ishl, 1) := by decide +kernel
theorem dX4_says_16 : decode cX4_says 16 = .ok (.goto 4, 3) := by decide +kernel
theorem dX4_says_19 : decode cX4_says 19 = .ok (.iconst 0, 1) := by decide +kernel
theorem dX4_says_20 : decode cX4_says 20 = .ok (.ireturn, 1) := by decide +kernel
theorem dX4_count_0 : decode cX4_count 0 = .ok (.iconst 0, 1) := by decide +kernel
theorem dX4_count_1 : decode cX4_count 1 = .ok (.istore_n 1, 1) := by decide +kernel
theorem dX4_count_2 : decode cX4_count 2 = .ok (.iconst 0, 1) := by decide +kernel
theorem dX4_count_3 : decode cX4_count 3 = .ok (.istore_n 2, 1) := by decide +kernel
theorem dX4_count_4 : decode cX4_count 4 = .ok (.iload_n 2, 1) := by decide +kernel
theorem dX4_count_5 : decode cX4_count 5 = .ok (.bipush 10, 2) := by decide +kernel
theorem dX4_count_7 : decode cX4_count 7 = .ok (.if_icmp .ge 17, 3) := by decide +kernel
theorem dX4_count_10 : decode cX4_count 10 = .ok (.iload_n 1, 1) := by decide +kernel
theorem dX4_count_11 : decode cX4_count 11 = .ok (.iload_n 0, 1) := by decide +kernel
theorem dX4_count_12 : decode cX4_count 12 = .ok (.iload_n 2, 1) := by decide +kernel
theorem dX4_count_13 : decode cX4_count 13 = .ok (.ishr, 1) := by decide +kernel
theorem dX4_count_14 : decode cX4_count 14 = .ok (.iconst 1, 1) := by decide +kernel
theorem dX4_count_15 : decode cX4_count 15 = .ok (.iand, 1) := by decide +kernel
theorem dX4_count_16 : decode cX4_count 16 = .ok (.iadd, 1) := by decide +kernel
theorem dX4_count_17 : decode cX4_count 17 = .ok (.istore_n 1, 1) := by decide +kernel
theorem dX4_count_18 : decode cX4_count 18 = .ok (.iinc 2 1, 3) := by decide +kernel
theorem dX4_count_21 : decode cX4_count 21 = .ok (.goto (-17), 3) := by decide +kernel
theorem dX4_count_24 : decode cX4_count 24 = .ok (.iload_n 1, 1) := by decide +kernel
theorem dX4_count_25 : decode cX4_count 25 = .ok (.ireturn, 1) := by decide +kernel
theorem dX4_clause_0 : decode cX4_clause 0 = .ok (.iload_n 1, 1) := by decide +kernel
theorem dX4_clause_1 : decode cX4_clause 1 = .ok (.ifCond .lt 43, 3) := by decide +kernel
theorem dX4_clause_4 : decode cX4_clause 4 = .ok (.iload_n 1, 1) := by decide +kernel
theorem dX4_clause_5 : decode cX4_clause 5 = .ok (.ldc 62, 2) := by decide +kernel
theorem dX4_clause_7 : decode cX4_clause 7 = .ok (.if_icmp .gt 37, 3) := by decide +kernel
theorem dX4_clause_10 : decode cX4_clause 10 = .ok (.aload_n 0, 1) := by decide +kernel
theorem dX4_clause_11 : decode cX4_clause 11 = .ok (.iload_n 2, 1) := by decide +kernel
theorem dX4_clause_12 : decode cX4_clause 12 = .ok (.invokevirtual 63, 3) := by decide +kernel
theorem dX4_clause_15 : decode cX4_clause 15 = .ok (.ifCond .ne 29, 3) := by decide +kernel
theorem dX4_clause_18 : decode cX4_clause 18 = .ok (.aload_n 0, 1) := by decide +kernel
theorem dX4_clause_19 : decode cX4_clause 19 = .ok (.iload_n 3, 1) := by decide +kernel
theorem dX4_clause_20 : decode cX4_clause 20 = .ok (.invokevirtual 63, 3) := by decide +kernel
theorem dX4_clause_23 : decode cX4_clause 23 = .ok (.ifCond .ne 21, 3) := by decide +kernel
theorem dX4_clause_26 : decode cX4_clause 26 = .ok (.aload_n 0, 1) := by decide +kernel
theorem dX4_clause_27 : decode cX4_clause 27 = .ok (.iload 4, 2) := by decide +kernel
theorem dX4_clause_29 : decode cX4_clause 29 = .ok (.invokevirtual 63, 3) := by decide +kernel
theorem dX4_clause_32 : decode cX4_clause 32 = .ok (.ifCond .ne 12, 3) := by decide +kernel
theorem dX4_clause_35 : decode cX4_clause 35 = .ok (.aload_n 0, 1) := by decide +kernel
theorem dX4_clause_36 : decode cX4_clause 36 = .ok (.iload 5, 2) := by decide +kernel
theorem dX4_clause_38 : decode cX4_clause 38 = .ok (.invokevirtual 63, 3) := by decide +kernel
theorem dX4_clause_41 : decode cX4_clause 41 = .ok (.ifCond .eq 7, 3) := by decide +kernel
theorem dX4_clause_44 : decode cX4_clause 44 = .ok (.iconst 1, 1) := by decide +kernel
theorem dX4_clause_45 : decode cX4_clause 45 = .ok (.goto 4, 3) := by decide +kernel
theorem dX4_clause_48 : decode cX4_clause 48 = .ok (.iconst 0, 1) := by decide +kernel
theorem dX4_clause_49 : decode cX4_clause 49 = .ok (.istore 6, 2) := by decide +kernel
theorem dX4_clause_51 : decode cX4_clause 51 = .ok (.iload_n 2, 1) := by decide +kernel
theorem dX4_clause_52 : decode cX4_clause 52 = .ok (.ifCond .ge 7, 3) := by decide +kernel
theorem dX4_clause_55 : decode cX4_clause 55 = .ok (.iconst 0, 1) := by decide +kernel
theorem dX4_clause_56 : decode cX4_clause 56 = .ok (.goto 4, 3) := by decide +kernel
theorem dX4_clause_59 : decode cX4_clause 59 = .ok (.iconst 1, 1) := by decide +kernel
theorem dX4_clause_60 : decode cX4_clause 60 = .ok (.iload_n 3, 1) := by decide +kernel
theorem dX4_clause_61 : decode cX4_clause 61 = .ok (.ifCond .ge 7, 3) := by decide +kernel
theorem dX4_clause_64 : decode cX4_clause 64 = .ok (.iconst 0, 1) := by decide +kernel
theorem dX4_clause_65 : decode cX4_clause 65 = .ok (.goto 4, 3) := by decide +kernel
theorem dX4_clause_68 : decode cX4_clause 68 = .ok (.iconst 1, 1) := by decide +kernel
theorem dX4_clause_69 : decode cX4_clause 69 = .ok (.iadd, 1) := by decide +kernel
theorem dX4_clause_70 : decode cX4_clause 70 = .ok (.iload 4, 2) := by decide +kernel
theorem dX4_clause_72 : decode cX4_clause 72 = .ok (.ifCond .ge 7, 3) := by decide +kernel
theorem dX4_clause_75 : decode cX4_clause 75 = .ok (.iconst 0, 1) := by decide +kernel
theorem dX4_clause_76 : decode cX4_clause 76 = .ok (.goto 4, 3) := by decide +kernel
theorem dX4_clause_79 : decode cX4_clause 79 = .ok (.iconst 1, 1) := by decide +kernel
theorem dX4_clause_80 : decode cX4_clause 80 = .ok (.iadd, 1) := by decide +kernel
theorem dX4_clause_81 : decode cX4_clause 81 = .ok (.iload 5, 2) := by decide +kernel
theorem dX4_clause_83 : decode cX4_clause 83 = .ok (.ifCond .ge 7, 3) := by decide +kernel
theorem dX4_clause_86 : decode cX4_clause 86 = .ok (.iconst 0, 1) := by decide +kernel
theorem dX4_clause_87 : decode cX4_clause 87 = .ok (.goto 4, 3) := by decide +kernel
theorem dX4_clause_90 : decode cX4_clause 90 = .ok (.iconst 1, 1) := by decide +kernel
theorem dX4_clause_91 : decode cX4_clause 91 = .ok (.iadd, 1) := by decide +kernel
theorem dX4_clause_92 : decode cX4_clause 92 = .ok (.istore 7, 2) := by decide +kernel
theorem dX4_clause_94 : decode cX4_clause 94 = .ok (.iload 6, 2) := by decide +kernel
theorem dX4_clause_96 : decode cX4_clause 96 = .ok (.ifCond .eq 7, 3) := by decide +kernel
theorem dX4_clause_99 : decode cX4_clause 99 = .ok (.iconst 0, 1) := by decide +kernel
theorem dX4_clause_100 : decode cX4_clause 100 = .ok (.goto 28, 3) := by decide +kernel
theorem dX4_clause_103 : decode cX4_clause 103 = .ok (.iload_n 2, 1) := by decide +kernel
theorem dX4_clause_104 : decode cX4_clause 104 = .ok (.iconst 0, 1) := by decide +kernel
theorem dX4_clause_105 : decode cX4_clause 105 = .ok (.invokestatic 67, 3) := by decide +kernel
theorem dX4_clause_108 : decode cX4_clause 108 = .ok (.iload_n 3, 1) := by decide +kernel
theorem dX4_clause_109 : decode cX4_clause 109 = .ok (.iconst 0, 1) := by decide +kernel
theorem dX4_clause_110 : decode cX4_clause 110 = .ok (.invokestatic 67, 3) := by decide +kernel
theorem dX4_clause_113 : decode cX4_clause 113 = .ok (.ior, 1) := by decide +kernel
theorem dX4_clause_114 : decode cX4_clause 114 = .ok (.iload 4, 2) := by decide +kernel
theorem dX4_clause_116 : decode cX4_clause 116 = .ok (.iconst 0, 1) := by decide +kernel
end
section
theorem dX4_clause_117 : decode cX4_clause 117 = .ok (.invokestatic 67, 3) := by decide +kernel
theorem dX4_clause_120 : decode cX4_clause 120 = .ok (.ior, 1) := by decide +kernel
theorem dX4_clause_121 : decode cX4_clause 121 = .ok (.iload 5, 2) := by decide +kernel
theorem dX4_clause_123 : decode cX4_clause 123 = .ok (.iconst 0, 1) := by decide +kernel
theorem dX4_clause_124 : decode cX4_clause 124 = .ok (.invokestatic 67, 3) := by decide +kernel
theorem dX4_clause_127 : decode cX4_clause 127 = .ok (.ior, 1) := by decide +kernel
theorem dX4_clause_128 : decode cX4_clause 128 = .ok (.istore 8, 2) := by decide +kernel
theorem dX4_clause_130 : decode cX4_clause 130 = .ok (.iload 6, 2) := by decide +kernel
theorem dX4_clause_132 : decode cX4_clause 132 = .ok (.ifCond .eq 7, 3) := by decide +kernel
theorem dX4_clause_135 : decode cX4_clause 135 = .ok (.iconst 0, 1) := by decide +kernel
theorem dX4_clause_136 : decode cX4_clause 136 = .ok (.goto 28, 3) := by decide +kernel
theorem dX4_clause_139 : decode cX4_clause 139 = .ok (.iload_n 2, 1) := by decide +kernel
theorem dX4_clause_140 : decode cX4_clause 140 = .ok (.iconst 1, 1) := by decide +kernel
theorem dX4_clause_141 : decode cX4_clause 141 = .ok (.invokestatic 67, 3) := by decide +kernel
theorem dX4_clause_144 : decode cX4_clause 144 = .ok (.iload_n 3, 1) := by decide +kernel
theorem dX4_clause_145 : decode cX4_clause 145 = .ok (.iconst 1, 1) := by decide +kernel
theorem dX4_clause_146 : decode cX4_clause 146 = .ok (.invokestatic 67, 3) := by decide +kernel
theorem dX4_clause_149 : decode cX4_clause 149 = .ok (.ior, 1) := by decide +kernel
theorem dX4_clause_150 : decode cX4_clause 150 = .ok (.iload 4, 2) := by decide +kernel
theorem dX4_clause_152 : decode cX4_clause 152 = .ok (.iconst 1, 1) := by decide +kernel
theorem dX4_clause_153 : decode cX4_clause 153 = .ok (.invokestatic 67, 3) := by decide +kernel
theorem dX4_clause_156 : decode cX4_clause 156 = .ok (.ior, 1) := by decide +kernel
theorem dX4_clause_157 : decode cX4_clause 157 = .ok (.iload 5, 2) := by decide +kernel
theorem dX4_clause_159 : decode cX4_clause 159 = .ok (.iconst 1, 1) := by decide +kernel
theorem dX4_clause_160 : decode cX4_clause 160 = .ok (.invokestatic 67, 3) := by decide +kernel
theorem dX4_clause_163 : decode cX4_clause 163 = .ok (.ior, 1) := by decide +kernel
theorem dX4_clause_164 : decode cX4_clause 164 = .ok (.istore 9, 2) := by decide +kernel
theorem dX4_clause_166 : decode cX4_clause 166 = .ok (.aload_n 0, 1) := by decide +kernel
theorem dX4_clause_167 : decode cX4_clause 167 = .ok (.iload 6, 2) := by decide +kernel
theorem dX4_clause_169 : decode cX4_clause 169 = .ok (.ifCond .ne 21, 3) := by decide +kernel
theorem dX4_clause_172 : decode cX4_clause 172 = .ok (.iload 7, 2) := by decide +kernel
theorem dX4_clause_174 : decode cX4_clause 174 = .ok (.ifCond .eq 16, 3) := by decide +kernel
theorem dX4_clause_177 : decode cX4_clause 177 = .ok (.iload 8, 2) := by decide +kernel
theorem dX4_clause_179 : decode cX4_clause 179 = .ok (.iload 9, 2) := by decide +kernel
theorem dX4_clause_181 : decode cX4_clause 181 = .ok (.ior, 1) := by decide +kernel
theorem dX4_clause_182 : decode cX4_clause 182 = .ok (.invokestatic 71, 3) := by decide +kernel
theorem dX4_clause_185 : decode cX4_clause 185 = .ok (.iload 7, 2) := by decide +kernel
theorem dX4_clause_187 : decode cX4_clause 187 = .ok (.if_icmp .ge 7, 3) := by decide +kernel
theorem dX4_clause_190 : decode cX4_clause 190 = .ok (.iconst 1, 1) := by decide +kernel
theorem dX4_clause_191 : decode cX4_clause 191 = .ok (.goto 17, 3) := by decide +kernel
theorem dX4_clause_194 : decode cX4_clause 194 = .ok (.aload_n 0, 1) := by decide +kernel
theorem dX4_clause_195 : decode cX4_clause 195 = .ok (.getfield 75, 3) := by decide +kernel
theorem dX4_clause_198 : decode cX4_clause 198 = .ok (.bipush 40, 2) := by decide +kernel
theorem dX4_clause_200 : decode cX4_clause 200 = .ok (.if_icmp .ne 7, 3) := by decide +kernel
theorem dX4_clause_203 : decode cX4_clause 203 = .ok (.iconst 2, 1) := by decide +kernel
theorem dX4_clause_204 : decode cX4_clause 204 = .ok (.goto 4, 3) := by decide +kernel
theorem dX4_clause_207 : decode cX4_clause 207 = .ok (.iconst 0, 1) := by decide +kernel
theorem dX4_clause_208 : decode cX4_clause 208 = .ok (.putfield 49, 3) := by decide +kernel
theorem dX4_clause_211 : decode cX4_clause 211 = .ok (.aload_n 0, 1) := by decide +kernel
theorem dX4_clause_212 : decode cX4_clause 212 = .ok (.getfield 49, 3) := by decide +kernel
theorem dX4_clause_215 : decode cX4_clause 215 = .ok (.ifCond .le 5, 3) := by decide +kernel
theorem dX4_clause_218 : decode cX4_clause 218 = .ok (.iconst 0, 1) := by decide +kernel
theorem dX4_clause_219 : decode cX4_clause 219 = .ok (.ireturn, 1) := by decide +kernel
theorem dX4_clause_220 : decode cX4_clause 220 = .ok (.aload_n 0, 1) := by decide +kernel
theorem dX4_clause_221 : decode cX4_clause 221 = .ok (.getfield 7, 3) := by decide +kernel
theorem dX4_clause_224 : decode cX4_clause 224 = .ok (.aload_n 0, 1) := by decide +kernel
theorem dX4_clause_225 : decode cX4_clause 225 = .ok (.getfield 75, 3) := by decide +kernel
theorem dX4_clause_228 : decode cX4_clause 228 = .ok (.iload 8, 2) := by decide +kernel
theorem dX4_clause_230 : decode cX4_clause 230 = .ok (.iastore, 1) := by decide +kernel
theorem dX4_clause_231 : decode cX4_clause 231 = .ok (.aload_n 0, 1) := by decide +kernel
theorem dX4_clause_232 : decode cX4_clause 232 = .ok (.getfield 13, 3) := by decide +kernel
theorem dX4_clause_235 : decode cX4_clause 235 = .ok (.aload_n 0, 1) := by decide +kernel
theorem dX4_clause_236 : decode cX4_clause 236 = .ok (.getfield 75, 3) := by decide +kernel
theorem dX4_clause_239 : decode cX4_clause 239 = .ok (.iload 9, 2) := by decide +kernel
theorem dX4_clause_241 : decode cX4_clause 241 = .ok (.iastore, 1) := by decide +kernel
theorem dX4_clause_242 : decode cX4_clause 242 = .ok (.aload_n 0, 1) := by decide +kernel
theorem dX4_clause_243 : decode cX4_clause 243 = .ok (.getfield 16, 3) := by decide +kernel
theorem dX4_clause_246 : decode cX4_clause 246 = .ok (.aload_n 0, 1) := by decide +kernel
theorem dX4_clause_247 : decode cX4_clause 247 = .ok (.getfield 75, 3) := by decide +kernel
theorem dX4_clause_250 : decode cX4_clause 250 = .ok (.iload_n 1, 1) := by decide +kernel
theorem dX4_clause_251 : decode cX4_clause 251 = .ok (.iastore, 1) := by decide +kernel
theorem dX4_clause_252 : decode cX4_clause 252 = .ok (.aload_n 0, 1) := by decide +kernel
theorem dX4_clause_253 : decode cX4_clause 253 = .ok (.dup, 1) := by decide +kernel
theorem dX4_clause_254 : decode cX4_clause 254 = .ok (.getfield 75, 3) := by decide +kernel
theorem dX4_clause_257 : decode cX4_clause 257 = .ok (.iconst 1, 1) := by decide +kernel
theorem dX4_clause_258 : decode cX4_clause 258 = .ok (.iadd, 1) := by decide +kernel
theorem dX4_clause_259 : decode cX4_clause 259 = .ok (.putfield 75, 3) := by decide +kernel
theorem dX4_clause_262 : decode cX4_clause 262 = .ok (.aload_n 0, 1) := by decide +kernel
theorem dX4_clause_263 : decode cX4_clause 263 = .ok (.invokevirtual 78, 3) := by decide +kernel
theorem dX4_clause_266 : decode cX4_clause 266 = .ok (.aload_n 0, 1) := by decide +kernel
theorem dX4_clause_267 : decode cX4_clause 267 = .ok (.getfield 75, 3) := by decide +kernel
theorem dX4_clause_270 : decode cX4_clause 270 = .ok (.iconst 1, 1) := by decide +kernel
theorem dX4_clause_271 : decode cX4_clause 271 = .ok (.isub, 1) := by decide +kernel
theorem dX4_clause_272 : decode cX4_clause 272 = .ok (.ireturn, 1) := by decide +kernel
theorem dX4_drop_0 : decode cX4_drop 0 = .ok (.aload_n 0, 1) := by decide +kernel
theorem dX4_drop_1 : decode cX4_drop 1 = .ok (.iconst 0, 1) := by decide +kernel
theorem dX4_drop_2 : decode cX4_drop 2 = .ok (.putfield 49, 3) := by decide +kernel
theorem dX4_drop_5 : decode cX4_drop 5 = .ok (.aload_n 0, 1) := by decide +kernel
theorem dX4_drop_6 : decode cX4_drop 6 = .ok (.getfield 75, 3) := by decide +kernel
theorem dX4_drop_9 : decode cX4_drop 9 = .ok (.ifCond .ne 5, 3) := by decide +kernel
theorem dX4_drop_12 : decode cX4_drop 12 = .ok (.iconst (-1), 1) := by decide +kernel
theorem dX4_drop_13 : decode cX4_drop 13 = .ok (.ireturn, 1) := by decide +kernel
theorem dX4_drop_14 : decode cX4_drop 14 = .ok (.aload_n 0, 1) := by decide +kernel
theorem dX4_drop_15 : decode cX4_drop 15 = .ok (.dup, 1) := by decide +kernel
theorem dX4_drop_16 : decode cX4_drop 16 = .ok (.getfield 75, 3) := by decide +kernel
theorem dX4_drop_19 : decode cX4_drop 19 = .ok (.iconst 1, 1) := by decide +kernel
theorem dX4_drop_20 : decode cX4_drop 20 = .ok (.isub, 1) := by decide +kernel
theorem dX4_drop_21 : decode cX4_drop 21 = .ok (.putfield 75, 3) := by decide +kernel
theorem dX4_drop_24 : decode cX4_drop 24 = .ok (.aload_n 0, 1) := by decide +kernel
theorem dX4_drop_25 : decode cX4_drop 25 = .ok (.invokevirtual 78, 3) := by decide +kernel
theorem dX4_drop_28 : decode cX4_drop 28 = .ok (.aload_n 0, 1) := by decide +kernel
theorem dX4_drop_29 : decode cX4_drop 29 = .ok (.getfield 75, 3) := by decide +kernel
theorem dX4_drop_32 : decode cX4_drop 32 = .ok (.ireturn, 1) := by decide +kernel
theorem dX4_weigh_0 : decode cX4_weigh 0 = .ok (.aload_n 0, 1) := by decide +kernel
theorem dX4_weigh_1 : decode cX4_weigh 1 = .ok (.iload_n 1, 1) := by decide +kernel
theorem dX4_weigh_2 : decode cX4_weigh 2 = .ok (.ifCond .lt 21, 3) := by decide +kernel
theorem dX4_weigh_5 : decode cX4_weigh 5 = .ok (.iload_n 1, 1) := by decide +kernel
theorem dX4_weigh_6 : decode cX4_weigh 6 = .ok (.aload_n 0, 1) := by decide +kernel
theorem dX4_weigh_7 : decode cX4_weigh 7 = .ok (.getfield 75, 3) := by decide +kernel
theorem dX4_weigh_10 : decode cX4_weigh 10 = .ok (.if_icmp .ge 13, 3) := by decide +kernel
theorem dX4_weigh_13 : decode cX4_weigh 13 = .ok (.iload_n 2, 1) := by decide +kernel
theorem dX4_weigh_14 : decode cX4_weigh 14 = .ok (.ifCond .lt 9, 3) := by decide +kernel
theorem dX4_weigh_17 : decode cX4_weigh 17 = .ok (.iload_n 2, 1) := by decide +kernel
theorem dX4_weigh_18 : decode cX4_weigh 18 = .ok (.ldc 62, 2) := by decide +kernel
theorem dX4_weigh_20 : decode cX4_weigh 20 = .ok (.if_icmp .le 7, 3) := by decide +kernel
theorem dX4_weigh_23 : decode cX4_weigh 23 = .ok (.iconst 1, 1) := by decide +kernel
theorem dX4_weigh_24 : decode cX4_weigh 24 = .ok (.goto 4, 3) := by decide +kernel
theorem dX4_weigh_27 : decode cX4_weigh 27 = .ok (.iconst 0, 1) := by decide +kernel
theorem dX4_weigh_28 : decode cX4_weigh 28 = .ok (.putfield 49, 3) := by decide +kernel
theorem dX4_weigh_31 : decode cX4_weigh 31 = .ok (.aload_n 0, 1) := by decide +kernel
theorem dX4_weigh_32 : decode cX4_weigh 32 = .ok (.getfield 49, 3) := by decide +kernel
theorem dX4_weigh_35 : decode cX4_weigh 35 = .ok (.ifCond .le 5, 3) := by decide +kernel
theorem dX4_weigh_38 : decode cX4_weigh 38 = .ok (.iconst 0, 1) := by decide +kernel
theorem dX4_weigh_39 : decode cX4_weigh 39 = .ok (.ireturn, 1) := by decide +kernel
theorem dX4_weigh_40 : decode cX4_weigh 40 = .ok (.aload_n 0, 1) := by decide +kernel
theorem dX4_weigh_41 : decode cX4_weigh 41 = .ok (.getfield 16, 3) := by decide +kernel
theorem dX4_weigh_44 : decode cX4_weigh 44 = .ok (.iload_n 1, 1) := by decide +kernel
theorem dX4_weigh_45 : decode cX4_weigh 45 = .ok (.iaload, 1) := by decide +kernel
theorem dX4_weigh_46 : decode cX4_weigh 46 = .ok (.istore_n 3, 1) := by decide +kernel
theorem dX4_weigh_47 : decode cX4_weigh 47 = .ok (.aload_n 0, 1) := by decide +kernel
theorem dX4_weigh_48 : decode cX4_weigh 48 = .ok (.getfield 16, 3) := by decide +kernel
theorem dX4_weigh_51 : decode cX4_weigh 51 = .ok (.iload_n 1, 1) := by decide +kernel
theorem dX4_weigh_52 : decode cX4_weigh 52 = .ok (.iload_n 2, 1) := by decide +kernel
theorem dX4_weigh_53 : decode cX4_weigh 53 = .ok (.iastore, 1) := by decide +kernel
theorem dX4_weigh_54 : decode cX4_weigh 54 = .ok (.aload_n 0, 1) := by decide +kernel
theorem dX4_weigh_55 : decode cX4_weigh 55 = .ok (.invokevirtual 78, 3) := by decide +kernel
theorem dX4_weigh_58 : decode cX4_weigh 58 = .ok (.iload_n 3, 1) := by decide +kernel
theorem dX4_weigh_59 : decode cX4_weigh 59 = .ok (.ireturn, 1) := by decide +kernel
theorem dX4_clauses_0 : decode cX4_clauses 0 = .ok (.aload_n 0, 1) := by decide +kernel
theorem dX4_clauses_1 : decode cX4_clauses 1 = .ok (.iconst 0, 1) := by decide +kernel
theorem dX4_clauses_2 : decode cX4_clauses 2 = .ok (.putfield 49, 3) := by decide +kernel
theorem dX4_clauses_5 : decode cX4_clauses 5 = .ok (.aload_n 0, 1) := by decide +kernel
theorem dX4_clauses_6 : decode cX4_clauses 6 = .ok (.getfield 75, 3) := by decide +kernel
theorem dX4_clauses_9 : decode cX4_clauses 9 = .ok (.ireturn, 1) := by decide +kernel
theorem dX4_noState_0 : decode cX4_noState 0 = .ok (.iload_n 1, 1) := by decide +kernel
theorem dX4_noState_1 : decode cX4_noState 1 = .ok (.ifCond .lt 21, 3) := by decide +kernel
theorem dX4_noState_4 : decode cX4_noState 4 = .ok (.iload_n 1, 1) := by decide +kernel
theorem dX4_noState_5 : decode cX4_noState 5 = .ok (.iconst 1, 1) := by decide +kernel
theorem dX4_noState_6 : decode cX4_noState 6 = .ok (.aload_n 0, 1) := by decide +kernel
theorem dX4_noState_7 : decode cX4_noState 7 = .ok (.getfield 45, 3) := by decide +kernel
theorem dX4_noState_10 : decode cX4_noState 10 = .ok (.ishl, 1) := by decide +kernel
theorem dX4_noState_11 : decode cX4_noState 11 = .ok (.if_icmp .ge 11, 3) := by decide +kernel
theorem dX4_noState_14 : decode cX4_noState 14 = .ok (.iload_n 2, 1) := by decide +kernel
theorem dX4_noState_15 : decode cX4_noState 15 = .ok (.iload_n 1, 1) := by decide +kernel
theorem dX4_noState_16 : decode cX4_noState 16 = .ok (.iconst (-1), 1) := by decide +kernel
theorem dX4_noState_17 : decode cX4_noState 17 = .ok (.ixor, 1) := by decide +kernel
theorem dX4_noState_18 : decode cX4_noState 18 = .ok (.iand, 1) := by decide +kernel
theorem dX4_noState_19 : decode cX4_noState 19 = .ok (.ifCond .eq 7, 3) := by decide +kernel
theorem dX4_noState_22 : decode cX4_noState 22 = .ok (.iconst 1, 1) := by decide +kernel
theorem dX4_noState_23 : decode cX4_noState 23 = .ok (.goto 4, 3) := by decide +kernel
theorem dX4_noState_26 : decode cX4_noState 26 = .ok (.iconst 0, 1) := by decide +kernel
theorem dX4_noState_27 : decode cX4_noState 27 = .ok (.ireturn, 1) := by decide +kernel
theorem dX4_isTrue_0 : decode cX4_isTrue 0 = .ok (.aload_n 0, 1) := by decide +kernel
theorem dX4_isTrue_1 : decode cX4_isTrue 1 = .ok (.getfield 7, 3) := by decide +kernel
theorem dX4_isTrue_4 : decode cX4_isTrue 4 = .ok (.iload_n 1, 1) := by decide +kernel
theorem dX4_isTrue_5 : decode cX4_isTrue 5 = .ok (.iaload, 1) := by decide +kernel
theorem dX4_isTrue_6 : decode cX4_isTrue 6 = .ok (.iload_n 3, 1) := by decide +kernel
theorem dX4_isTrue_7 : decode cX4_isTrue 7 = .ok (.iand, 1) := by decide +kernel
theorem dX4_isTrue_8 : decode cX4_isTrue 8 = .ok (.ifCond .ne 18, 3) := by decide +kernel
theorem dX4_isTrue_11 : decode cX4_isTrue 11 = .ok (.aload_n 0, 1) := by decide +kernel
theorem dX4_isTrue_12 : decode cX4_isTrue 12 = .ok (.getfield 13, 3) := by decide +kernel
theorem dX4_isTrue_15 : decode cX4_isTrue 15 = .ok (.iload_n 1, 1) := by decide +kernel
theorem dX4_isTrue_16 : decode cX4_isTrue 16 = .ok (.iaload, 1) := by decide +kernel
theorem dX4_isTrue_17 : decode cX4_isTrue 17 = .ok (.iload_n 2, 1) := by decide +kernel
theorem dX4_isTrue_18 : decode cX4_isTrue 18 = .ok (.iand, 1) := by decide +kernel
theorem dX4_isTrue_19 : decode cX4_isTrue 19 = .ok (.iload_n 3, 1) := by decide +kernel
theorem dX4_isTrue_20 : decode cX4_isTrue 20 = .ok (.iconst (-1), 1) := by decide +kernel
theorem dX4_isTrue_21 : decode cX4_isTrue 21 = .ok (.ixor, 1) := by decide +kernel
theorem dX4_isTrue_22 : decode cX4_isTrue 22 = .ok (.iand, 1) := by decide +kernel
theorem dX4_isTrue_23 : decode cX4_isTrue 23 = .ok (.ifCond .eq 7, 3) := by decide +kernel
theorem dX4_isTrue_26 : decode cX4_isTrue 26 = .ok (.iconst 1, 1) := by decide +kernel
theorem dX4_isTrue_27 : decode cX4_isTrue 27 = .ok (.goto 4, 3) := by decide +kernel
theorem dX4_isTrue_30 : decode cX4_isTrue 30 = .ok (.iconst 0, 1) := by decide +kernel
theorem dX4_isTrue_31 : decode cX4_isTrue 31 = .ok (.ireturn, 1) := by decide +kernel
theorem dX4_isFalse_0 : decode cX4_isFalse 0 = .ok (.aload_n 0, 1) := by decide +kernel
theorem dX4_isFalse_1 : decode cX4_isFalse 1 = .ok (.iload_n 1, 1) := by decide +kernel
theorem dX4_isFalse_2 : decode cX4_isFalse 2 = .ok (.iload_n 2, 1) := by decide +kernel
theorem dX4_isFalse_3 : decode cX4_isFalse 3 = .ok (.iload_n 3, 1) := by decide +kernel
theorem dX4_isFalse_4 : decode cX4_isFalse 4 = .ok (.invokevirtual 81, 3) := by decide +kernel
theorem dX4_isFalse_7 : decode cX4_isFalse 7 = .ok (.ifCond .ne 27, 3) := by decide +kernel
theorem dX4_isFalse_10 : decode cX4_isFalse 10 = .ok (.aload_n 0, 1) := by decide +kernel
theorem dX4_isFalse_11 : decode cX4_isFalse 11 = .ok (.getfield 7, 3) := by decide +kernel
theorem dX4_isFalse_14 : decode cX4_isFalse 14 = .ok (.iload_n 1, 1) := by decide +kernel
theorem dX4_isFalse_15 : decode cX4_isFalse 15 = .ok (.iaload, 1) := by decide +kernel
theorem dX4_isFalse_16 : decode cX4_isFalse 16 = .ok (.aload_n 0, 1) := by decide +kernel
theorem dX4_isFalse_17 : decode cX4_isFalse 17 = .ok (.getfield 13, 3) := by decide +kernel
theorem dX4_isFalse_20 : decode cX4_isFalse 20 = .ok (.iload_n 1, 1) := by decide +kernel
theorem dX4_isFalse_21 : decode cX4_isFalse 21 = .ok (.iaload, 1) := by decide +kernel
theorem dX4_isFalse_22 : decode cX4_isFalse 22 = .ok (.ior, 1) := by decide +kernel
theorem dX4_isFalse_23 : decode cX4_isFalse 23 = .ok (.iload_n 2, 1) := by decide +kernel
theorem dX4_isFalse_24 : decode cX4_isFalse 24 = .ok (.iconst (-1), 1) := by decide +kernel
theorem dX4_isFalse_25 : decode cX4_isFalse 25 = .ok (.ixor, 1) := by decide +kernel
theorem dX4_isFalse_26 : decode cX4_isFalse 26 = .ok (.iand, 1) := by decide +kernel
theorem dX4_isFalse_27 : decode cX4_isFalse 27 = .ok (.ifCond .ne 7, 3) := by decide +kernel
theorem dX4_isFalse_30 : decode cX4_isFalse 30 = .ok (.iconst 1, 1) := by decide +kernel
theorem dX4_isFalse_31 : decode cX4_isFalse 31 = .ok (.goto 4, 3) := by decide +kernel
theorem dX4_isFalse_34 : decode cX4_isFalse 34 = .ok (.iconst 0, 1) := by decide +kernel
theorem dX4_isFalse_35 : decode cX4_isFalse 35 = .ok (.ireturn, 1) := by decide +kernel
theorem dX4_isOpen_0 : decode cX4_isOpen 0 = .ok (.aload_n 0, 1) := by decide +kernel
theorem dX4_isOpen_1 : decode cX4_isOpen 1 = .ok (.iload_n 1, 1) := by decide +kernel
theorem dX4_isOpen_2 : decode cX4_isOpen 2 = .ok (.iload_n 2, 1) := by decide +kernel
theorem dX4_isOpen_3 : decode cX4_isOpen 3 = .ok (.iload_n 3, 1) := by decide +kernel
theorem dX4_isOpen_4 : decode cX4_isOpen 4 = .ok (.invokevirtual 81, 3) := by decide +kernel
theorem dX4_isOpen_7 : decode cX4_isOpen 7 = .ok (.ifCond .ne 27, 3) := by decide +kernel
theorem dX4_isOpen_10 : decode cX4_isOpen 10 = .ok (.aload_n 0, 1) := by decide +kernel
theorem dX4_isOpen_11 : decode cX4_isOpen 11 = .ok (.getfield 7, 3) := by decide +kernel
theorem dX4_isOpen_14 : decode cX4_isOpen 14 = .ok (.iload_n 1, 1) := by decide +kernel
theorem dX4_isOpen_15 : decode cX4_isOpen 15 = .ok (.iaload, 1) := by decide +kernel
theorem dX4_isOpen_16 : decode cX4_isOpen 16 = .ok (.aload_n 0, 1) := by decide +kernel
theorem dX4_isOpen_17 : decode cX4_isOpen 17 = .ok (.getfield 13, 3) := by decide +kernel
theorem dX4_isOpen_20 : decode cX4_isOpen 20 = .ok (.iload_n 1, 1) := by decide +kernel
theorem dX4_isOpen_21 : decode cX4_isOpen 21 = .ok (.iaload, 1) := by decide +kernel
theorem dX4_isOpen_22 : decode cX4_isOpen 22 = .ok (.ior, 1) := by decide +kernel
theorem dX4_isOpen_23 : decode cX4_isOpen 23 = .ok (.iload_n 2, 1) := by decide +kernel
theorem dX4_isOpen_24 : decode cX4_isOpen 24 = .ok (.iconst (-1), 1) := by decide +kernel
theorem dX4_isOpen_25 : decode cX4_isOpen 25 = .ok (.ixor, 1) := by decide +kernel
theorem dX4_isOpen_26 : decode cX4_isOpen 26 = .ok (.iand, 1) := by decide +kernel
theorem dX4_isOpen_27 : decode cX4_isOpen 27 = .ok (.ifCond .eq 7, 3) := by decide +kernel
theorem dX4_isOpen_30 : decode cX4_isOpen 30 = .ok (.iconst 1, 1) := by decide +kernel
theorem dX4_isOpen_31 : decode cX4_isOpen 31 = .ok (.goto 4, 3) := by decide +kernel
theorem dX4_isOpen_34 : decode cX4_isOpen 34 = .ok (.iconst 0, 1) := by decide +kernel
theorem dX4_isOpen_35 : decode cX4_isOpen 35 = .ok (.ireturn, 1) := by decide +kernel
theorem dX4_costOf_0 : decode cX4_costOf 0 = .ok (.lconst 0, 1) := by decide +kernel
theorem dX4_costOf_1 : decode cX4_costOf 1 = .ok (.lstore_n 3, 1) := by decide +kernel
theorem dX4_costOf_2 : decode cX4_costOf 2 = .ok (.iconst 0, 1) := by decide +kernel
theorem dX4_costOf_3 : decode cX4_costOf 3 = .ok (.istore 5, 2) := by decide +kernel
theorem dX4_costOf_5 : decode cX4_costOf 5 = .ok (.iload 5, 2) := by decide +kernel
theorem dX4_costOf_7 : decode cX4_costOf 7 = .ok (.aload_n 0, 1) := by decide +kernel
theorem dX4_costOf_8 : decode cX4_costOf 8 = .ok (.getfield 75, 3) := by decide +kernel
theorem dX4_costOf_11 : decode cX4_costOf 11 = .ok (.if_icmp .ge 31, 3) := by decide +kernel
theorem dX4_costOf_14 : decode cX4_costOf 14 = .ok (.aload_n 0, 1) := by decide +kernel
theorem dX4_costOf_15 : decode cX4_costOf 15 = .ok (.iload 5, 2) := by decide +kernel
theorem dX4_costOf_17 : decode cX4_costOf 17 = .ok (.iload_n 1, 1) := by decide +kernel
theorem dX4_costOf_18 : decode cX4_costOf 18 = .ok (.iload_n 2, 1) := by decide +kernel
theorem dX4_costOf_19 : decode cX4_costOf 19 = .ok (.invokevirtual 85, 3) := by decide +kernel
theorem dX4_costOf_22 : decode cX4_costOf 22 = .ok (.ifCond .eq 14, 3) := by decide +kernel
theorem dX4_costOf_25 : decode cX4_costOf 25 = .ok (.lload_n 3, 1) := by decide +kernel
theorem dX4_costOf_26 : decode cX4_costOf 26 = .ok (.aload_n 0, 1) := by decide +kernel
theorem dX4_costOf_27 : decode cX4_costOf 27 = .ok (.getfield 16, 3) := by decide +kernel
theorem dX4_costOf_30 : decode cX4_costOf 30 = .ok (.iload 5, 2) := by decide +kernel
theorem dX4_costOf_32 : decode cX4_costOf 32 = .ok (.iaload, 1) := by decide +kernel
theorem dX4_costOf_33 : decode cX4_costOf 33 = .ok (.i2l, 1) := by decide +kernel
theorem dX4_costOf_34 : decode cX4_costOf 34 = .ok (.ladd, 1) := by decide +kernel
theorem dX4_costOf_35 : decode cX4_costOf 35 = .ok (.lstore_n 3, 1) := by decide +kernel
theorem dX4_costOf_36 : decode cX4_costOf 36 = .ok (.iinc 5 1, 3) := by decide +kernel
theorem dX4_costOf_39 : decode cX4_costOf 39 = .ok (.goto (-34), 3) := by decide +kernel
theorem dX4_costOf_42 : decode cX4_costOf 42 = .ok (.lload_n 3, 1) := by decide +kernel
theorem dX4_costOf_43 : decode cX4_costOf 43 = .ok (.lreturn, 1) := by decide +kernel
theorem dX4_breaks_0 : decode cX4_breaks 0 = .ok (.iconst 0, 1) := by decide +kernel
theorem dX4_breaks_1 : decode cX4_breaks 1 = .ok (.istore_n 3, 1) := by decide +kernel
end
section
theorem dX4_breaks_2 : decode cX4_breaks 2 = .ok (.iconst 0, 1) := by decide +kernel
theorem dX4_breaks_3 : decode cX4_breaks 3 = .ok (.istore 4, 2) := by decide +kernel
theorem dX4_breaks_5 : decode cX4_breaks 5 = .ok (.iload 4, 2) := by decide +kernel
theorem dX4_breaks_7 : decode cX4_breaks 7 = .ok (.aload_n 0, 1) := by decide +kernel
theorem dX4_breaks_8 : decode cX4_breaks 8 = .ok (.getfield 75, 3) := by decide +kernel
theorem dX4_breaks_11 : decode cX4_breaks 11 = .ok (.if_icmp .ge 40, 3) := by decide +kernel
theorem dX4_breaks_14 : decode cX4_breaks 14 = .ok (.iload_n 3, 1) := by decide +kernel
theorem dX4_breaks_15 : decode cX4_breaks 15 = .ok (.ifCond .ne 24, 3) := by decide +kernel
theorem dX4_breaks_18 : decode cX4_breaks 18 = .ok (.aload_n 0, 1) := by decide +kernel
theorem dX4_breaks_19 : decode cX4_breaks 19 = .ok (.getfield 16, 3) := by decide +kernel
theorem dX4_breaks_22 : decode cX4_breaks 22 = .ok (.iload 4, 2) := by decide +kernel
theorem dX4_breaks_24 : decode cX4_breaks 24 = .ok (.iaload, 1) := by decide +kernel
theorem dX4_breaks_25 : decode cX4_breaks 25 = .ok (.ifCond .ne 18, 3) := by decide +kernel
theorem dX4_breaks_28 : decode cX4_breaks 28 = .ok (.aload_n 0, 1) := by decide +kernel
theorem dX4_breaks_29 : decode cX4_breaks 29 = .ok (.iload 4, 2) := by decide +kernel
theorem dX4_breaks_31 : decode cX4_breaks 31 = .ok (.iload_n 1, 1) := by decide +kernel
theorem dX4_breaks_32 : decode cX4_breaks 32 = .ok (.iload_n 2, 1) := by decide +kernel
theorem dX4_breaks_33 : decode cX4_breaks 33 = .ok (.invokevirtual 85, 3) := by decide +kernel
theorem dX4_breaks_36 : decode cX4_breaks 36 = .ok (.ifCond .eq 7, 3) := by decide +kernel
theorem dX4_breaks_39 : decode cX4_breaks 39 = .ok (.iconst 1, 1) := by decide +kernel
theorem dX4_breaks_40 : decode cX4_breaks 40 = .ok (.goto 4, 3) := by decide +kernel
theorem dX4_breaks_43 : decode cX4_breaks 43 = .ok (.iconst 0, 1) := by decide +kernel
theorem dX4_breaks_44 : decode cX4_breaks 44 = .ok (.istore_n 3, 1) := by decide +kernel
theorem dX4_breaks_45 : decode cX4_breaks 45 = .ok (.iinc 4 1, 3) := by decide +kernel
theorem dX4_breaks_48 : decode cX4_breaks 48 = .ok (.goto (-43), 3) := by decide +kernel
theorem dX4_breaks_51 : decode cX4_breaks 51 = .ok (.iload_n 3, 1) := by decide +kernel
theorem dX4_breaks_52 : decode cX4_breaks 52 = .ok (.ireturn, 1) := by decide +kernel
theorem dX4_cost_0 : decode cX4_cost 0 = .ok (.aload_n 0, 1) := by decide +kernel
theorem dX4_cost_1 : decode cX4_cost 1 = .ok (.aload_n 0, 1) := by decide +kernel
theorem dX4_cost_2 : decode cX4_cost 2 = .ok (.iload_n 1, 1) := by decide +kernel
theorem dX4_cost_3 : decode cX4_cost 3 = .ok (.iload_n 2, 1) := by decide +kernel
theorem dX4_cost_4 : decode cX4_cost 4 = .ok (.invokevirtual 88, 3) := by decide +kernel
theorem dX4_cost_7 : decode cX4_cost 7 = .ok (.ifCond .eq 7, 3) := by decide +kernel
theorem dX4_cost_10 : decode cX4_cost 10 = .ok (.iconst 1, 1) := by decide +kernel
theorem dX4_cost_11 : decode cX4_cost 11 = .ok (.goto 4, 3) := by decide +kernel
theorem dX4_cost_14 : decode cX4_cost 14 = .ok (.iconst 0, 1) := by decide +kernel
theorem dX4_cost_15 : decode cX4_cost 15 = .ok (.putfield 49, 3) := by decide +kernel
theorem dX4_cost_18 : decode cX4_cost 18 = .ok (.aload_n 0, 1) := by decide +kernel
theorem dX4_cost_19 : decode cX4_cost 19 = .ok (.getfield 49, 3) := by decide +kernel
theorem dX4_cost_22 : decode cX4_cost 22 = .ok (.ifCond .le 5, 3) := by decide +kernel
theorem dX4_cost_25 : decode cX4_cost 25 = .ok (.lconst 0, 1) := by decide +kernel
theorem dX4_cost_26 : decode cX4_cost 26 = .ok (.lreturn, 1) := by decide +kernel
theorem dX4_cost_27 : decode cX4_cost 27 = .ok (.aload_n 0, 1) := by decide +kernel
theorem dX4_cost_28 : decode cX4_cost 28 = .ok (.iload_n 1, 1) := by decide +kernel
theorem dX4_cost_29 : decode cX4_cost 29 = .ok (.iload_n 2, 1) := by decide +kernel
theorem dX4_cost_30 : decode cX4_cost 30 = .ok (.invokevirtual 92, 3) := by decide +kernel
theorem dX4_cost_33 : decode cX4_cost 33 = .ok (.ifCond .eq 9, 3) := by decide +kernel
theorem dX4_cost_36 : decode cX4_cost 36 = .ok (.ldc2_w 95, 3) := by decide +kernel
theorem dX4_cost_39 : decode cX4_cost 39 = .ok (.goto 9, 3) := by decide +kernel
theorem dX4_cost_42 : decode cX4_cost 42 = .ok (.aload_n 0, 1) := by decide +kernel
theorem dX4_cost_43 : decode cX4_cost 43 = .ok (.iload_n 1, 1) := by decide +kernel
theorem dX4_cost_44 : decode cX4_cost 44 = .ok (.iload_n 2, 1) := by decide +kernel
theorem dX4_cost_45 : decode cX4_cost 45 = .ok (.invokevirtual 97, 3) := by decide +kernel
theorem dX4_cost_48 : decode cX4_cost 48 = .ok (.lreturn, 1) := by decide +kernel
theorem dX4_broken_0 : decode cX4_broken 0 = .ok (.iconst 0, 1) := by decide +kernel
theorem dX4_broken_1 : decode cX4_broken 1 = .ok (.istore_n 1, 1) := by decide +kernel
theorem dX4_broken_2 : decode cX4_broken 2 = .ok (.iload_n 1, 1) := by decide +kernel
theorem dX4_broken_3 : decode cX4_broken 3 = .ok (.aload_n 0, 1) := by decide +kernel
theorem dX4_broken_4 : decode cX4_broken 4 = .ok (.getfield 75, 3) := by decide +kernel
theorem dX4_broken_7 : decode cX4_broken 7 = .ok (.if_icmp .ge 36, 3) := by decide +kernel
theorem dX4_broken_10 : decode cX4_broken 10 = .ok (.aload_n 0, 1) := by decide +kernel
theorem dX4_broken_11 : decode cX4_broken 11 = .ok (.getfield 23, 3) := by decide +kernel
theorem dX4_broken_14 : decode cX4_broken 14 = .ok (.iload_n 1, 1) := by decide +kernel
theorem dX4_broken_15 : decode cX4_broken 15 = .ok (.baload, 1) := by decide +kernel
theorem dX4_broken_16 : decode cX4_broken 16 = .ok (.ifCond .eq 21, 3) := by decide +kernel
theorem dX4_broken_19 : decode cX4_broken 19 = .ok (.aload_n 0, 1) := by decide +kernel
theorem dX4_broken_20 : decode cX4_broken 20 = .ok (.iload_n 1, 1) := by decide +kernel
theorem dX4_broken_21 : decode cX4_broken 21 = .ok (.aload_n 0, 1) := by decide +kernel
theorem dX4_broken_22 : decode cX4_broken 22 = .ok (.getfield 101, 3) := by decide +kernel
theorem dX4_broken_25 : decode cX4_broken 25 = .ok (.aload_n 0, 1) := by decide +kernel
theorem dX4_broken_26 : decode cX4_broken 26 = .ok (.getfield 104, 3) := by decide +kernel
theorem dX4_broken_29 : decode cX4_broken 29 = .ok (.invokevirtual 85, 3) := by decide +kernel
theorem dX4_broken_32 : decode cX4_broken 32 = .ok (.ifCond .eq 5, 3) := by decide +kernel
theorem dX4_broken_35 : decode cX4_broken 35 = .ok (.iload_n 1, 1) := by decide +kernel
theorem dX4_broken_36 : decode cX4_broken 36 = .ok (.ireturn, 1) := by decide +kernel
theorem dX4_broken_37 : decode cX4_broken 37 = .ok (.iinc 1 1, 3) := by decide +kernel
theorem dX4_broken_40 : decode cX4_broken 40 = .ok (.goto (-38), 3) := by decide +kernel
theorem dX4_broken_43 : decode cX4_broken 43 = .ok (.iconst (-1), 1) := by decide +kernel
theorem dX4_broken_44 : decode cX4_broken 44 = .ok (.ireturn, 1) := by decide +kernel
theorem dX4_single_0 : decode cX4_single 0 = .ok (.iconst 0, 1) := by decide +kernel
theorem dX4_single_1 : decode cX4_single 1 = .ok (.istore_n 1, 1) := by decide +kernel
theorem dX4_single_2 : decode cX4_single 2 = .ok (.iload_n 1, 1) := by decide +kernel
theorem dX4_single_3 : decode cX4_single 3 = .ok (.aload_n 0, 1) := by decide +kernel
theorem dX4_single_4 : decode cX4_single 4 = .ok (.getfield 75, 3) := by decide +kernel
theorem dX4_single_7 : decode cX4_single 7 = .ok (.if_icmp .ge 63, 3) := by decide +kernel
theorem dX4_single_10 : decode cX4_single 10 = .ok (.aload_n 0, 1) := by decide +kernel
theorem dX4_single_11 : decode cX4_single 11 = .ok (.getfield 23, 3) := by decide +kernel
theorem dX4_single_14 : decode cX4_single 14 = .ok (.iload_n 1, 1) := by decide +kernel
theorem dX4_single_15 : decode cX4_single 15 = .ok (.baload, 1) := by decide +kernel
theorem dX4_single_16 : decode cX4_single 16 = .ok (.ifCond .eq 48, 3) := by decide +kernel
theorem dX4_single_19 : decode cX4_single 19 = .ok (.aload_n 0, 1) := by decide +kernel
theorem dX4_single_20 : decode cX4_single 20 = .ok (.iload_n 1, 1) := by decide +kernel
theorem dX4_single_21 : decode cX4_single 21 = .ok (.aload_n 0, 1) := by decide +kernel
theorem dX4_single_22 : decode cX4_single 22 = .ok (.getfield 101, 3) := by decide +kernel
theorem dX4_single_25 : decode cX4_single 25 = .ok (.aload_n 0, 1) := by decide +kernel
theorem dX4_single_26 : decode cX4_single 26 = .ok (.getfield 104, 3) := by decide +kernel
theorem dX4_single_29 : decode cX4_single 29 = .ok (.invokevirtual 107, 3) := by decide +kernel
theorem dX4_single_32 : decode cX4_single 32 = .ok (.ifCond .eq 32, 3) := by decide +kernel
theorem dX4_single_35 : decode cX4_single 35 = .ok (.aload_n 0, 1) := by decide +kernel
theorem dX4_single_36 : decode cX4_single 36 = .ok (.getfield 7, 3) := by decide +kernel
theorem dX4_single_39 : decode cX4_single 39 = .ok (.iload_n 1, 1) := by decide +kernel
theorem dX4_single_40 : decode cX4_single 40 = .ok (.iaload, 1) := by decide +kernel
theorem dX4_single_41 : decode cX4_single 41 = .ok (.aload_n 0, 1) := by decide +kernel
theorem dX4_single_42 : decode cX4_single 42 = .ok (.getfield 13, 3) := by decide +kernel
theorem dX4_single_45 : decode cX4_single 45 = .ok (.iload_n 1, 1) := by decide +kernel
theorem dX4_single_46 : decode cX4_single 46 = .ok (.iaload, 1) := by decide +kernel
theorem dX4_single_47 : decode cX4_single 47 = .ok (.ior, 1) := by decide +kernel
theorem dX4_single_48 : decode cX4_single 48 = .ok (.aload_n 0, 1) := by decide +kernel
theorem dX4_single_49 : decode cX4_single 49 = .ok (.getfield 101, 3) := by decide +kernel
theorem dX4_single_52 : decode cX4_single 52 = .ok (.iconst (-1), 1) := by decide +kernel
theorem dX4_single_53 : decode cX4_single 53 = .ok (.ixor, 1) := by decide +kernel
theorem dX4_single_54 : decode cX4_single 54 = .ok (.iand, 1) := by decide +kernel
theorem dX4_single_55 : decode cX4_single 55 = .ok (.invokestatic 71, 3) := by decide +kernel
theorem dX4_single_58 : decode cX4_single 58 = .ok (.iconst 1, 1) := by decide +kernel
theorem dX4_single_59 : decode cX4_single 59 = .ok (.if_icmp .ne 5, 3) := by decide +kernel
theorem dX4_single_62 : decode cX4_single 62 = .ok (.iload_n 1, 1) := by decide +kernel
theorem dX4_single_63 : decode cX4_single 63 = .ok (.ireturn, 1) := by decide +kernel
theorem dX4_single_64 : decode cX4_single 64 = .ok (.iinc 1 1, 3) := by decide +kernel
theorem dX4_single_67 : decode cX4_single 67 = .ok (.goto (-65), 3) := by decide +kernel
theorem dX4_single_70 : decode cX4_single 70 = .ok (.iconst (-1), 1) := by decide +kernel
theorem dX4_single_71 : decode cX4_single 71 = .ok (.ireturn, 1) := by decide +kernel
theorem dX4_grow_0 : decode cX4_grow 0 = .ok (.aload_n 0, 1) := by decide +kernel
theorem dX4_grow_1 : decode cX4_grow 1 = .ok (.iload_n 1, 1) := by decide +kernel
theorem dX4_grow_2 : decode cX4_grow 2 = .ok (.putfield 101, 3) := by decide +kernel
theorem dX4_grow_5 : decode cX4_grow 5 = .ok (.aload_n 0, 1) := by decide +kernel
theorem dX4_grow_6 : decode cX4_grow 6 = .ok (.iload_n 2, 1) := by decide +kernel
theorem dX4_grow_7 : decode cX4_grow 7 = .ok (.putfield 104, 3) := by decide +kernel
theorem dX4_grow_10 : decode cX4_grow 10 = .ok (.iconst 0, 1) := by decide +kernel
theorem dX4_grow_11 : decode cX4_grow 11 = .ok (.istore_n 3, 1) := by decide +kernel
theorem dX4_grow_12 : decode cX4_grow 12 = .ok (.iload_n 3, 1) := by decide +kernel
theorem dX4_grow_13 : decode cX4_grow 13 = .ok (.bipush 10, 2) := by decide +kernel
theorem dX4_grow_15 : decode cX4_grow 15 = .ok (.if_icmp .ge 16, 3) := by decide +kernel
theorem dX4_grow_18 : decode cX4_grow 18 = .ok (.aload_n 0, 1) := by decide +kernel
theorem dX4_grow_19 : decode cX4_grow 19 = .ok (.getfield 27, 3) := by decide +kernel
theorem dX4_grow_22 : decode cX4_grow 22 = .ok (.iload_n 3, 1) := by decide +kernel
theorem dX4_grow_23 : decode cX4_grow 23 = .ok (.iconst (-1), 1) := by decide +kernel
theorem dX4_grow_24 : decode cX4_grow 24 = .ok (.iastore, 1) := by decide +kernel
theorem dX4_grow_25 : decode cX4_grow 25 = .ok (.iinc 3 1, 3) := by decide +kernel
theorem dX4_grow_28 : decode cX4_grow 28 = .ok (.goto (-16), 3) := by decide +kernel
theorem dX4_grow_31 : decode cX4_grow 31 = .ok (.aload_n 0, 1) := by decide +kernel
theorem dX4_grow_32 : decode cX4_grow 32 = .ok (.invokevirtual 110, 3) := by decide +kernel
theorem dX4_grow_35 : decode cX4_grow 35 = .ok (.istore_n 3, 1) := by decide +kernel
theorem dX4_grow_36 : decode cX4_grow 36 = .ok (.iload_n 3, 1) := by decide +kernel
theorem dX4_grow_37 : decode cX4_grow 37 = .ok (.ifCond .ge 10, 3) := by decide +kernel
theorem dX4_grow_40 : decode cX4_grow 40 = .ok (.aload_n 0, 1) := by decide +kernel
theorem dX4_grow_41 : decode cX4_grow 41 = .ok (.invokevirtual 114, 3) := by decide +kernel
theorem dX4_grow_44 : decode cX4_grow 44 = .ok (.goto 4, 3) := by decide +kernel
theorem dX4_grow_47 : decode cX4_grow 47 = .ok (.iconst (-1), 1) := by decide +kernel
theorem dX4_grow_48 : decode cX4_grow 48 = .ok (.istore 4, 2) := by decide +kernel
theorem dX4_grow_50 : decode cX4_grow 50 = .ok (.iload 4, 2) := by decide +kernel
theorem dX4_grow_52 : decode cX4_grow 52 = .ok (.ifCond .lt 125, 3) := by decide +kernel
theorem dX4_grow_55 : decode cX4_grow 55 = .ok (.aload_n 0, 1) := by decide +kernel
theorem dX4_grow_56 : decode cX4_grow 56 = .ok (.getfield 7, 3) := by decide +kernel
theorem dX4_grow_59 : decode cX4_grow 59 = .ok (.iload 4, 2) := by decide +kernel
theorem dX4_grow_61 : decode cX4_grow 61 = .ok (.iaload, 1) := by decide +kernel
theorem dX4_grow_62 : decode cX4_grow 62 = .ok (.aload_n 0, 1) := by decide +kernel
theorem dX4_grow_63 : decode cX4_grow 63 = .ok (.getfield 13, 3) := by decide +kernel
theorem dX4_grow_66 : decode cX4_grow 66 = .ok (.iload 4, 2) := by decide +kernel
theorem dX4_grow_68 : decode cX4_grow 68 = .ok (.iaload, 1) := by decide +kernel
theorem dX4_grow_69 : decode cX4_grow 69 = .ok (.ior, 1) := by decide +kernel
theorem dX4_grow_70 : decode cX4_grow 70 = .ok (.aload_n 0, 1) := by decide +kernel
theorem dX4_grow_71 : decode cX4_grow 71 = .ok (.getfield 101, 3) := by decide +kernel
theorem dX4_grow_74 : decode cX4_grow 74 = .ok (.iconst (-1), 1) := by decide +kernel
theorem dX4_grow_75 : decode cX4_grow 75 = .ok (.ixor, 1) := by decide +kernel
theorem dX4_grow_76 : decode cX4_grow 76 = .ok (.iand, 1) := by decide +kernel
theorem dX4_grow_77 : decode cX4_grow 77 = .ok (.istore 5, 2) := by decide +kernel
theorem dX4_grow_79 : decode cX4_grow 79 = .ok (.iconst 0, 1) := by decide +kernel
theorem dX4_grow_80 : decode cX4_grow 80 = .ok (.istore 6, 2) := by decide +kernel
theorem dX4_grow_82 : decode cX4_grow 82 = .ok (.iload 6, 2) := by decide +kernel
theorem dX4_grow_84 : decode cX4_grow 84 = .ok (.aload_n 0, 1) := by decide +kernel
theorem dX4_grow_85 : decode cX4_grow 85 = .ok (.getfield 45, 3) := by decide +kernel
theorem dX4_grow_88 : decode cX4_grow 88 = .ok (.if_icmp .ge 37, 3) := by decide +kernel
theorem dX4_grow_91 : decode cX4_grow 91 = .ok (.aload_n 0, 1) := by decide +kernel
theorem dX4_grow_92 : decode cX4_grow 92 = .ok (.getfield 27, 3) := by decide +kernel
theorem dX4_grow_95 : decode cX4_grow 95 = .ok (.iload 6, 2) := by decide +kernel
theorem dX4_grow_97 : decode cX4_grow 97 = .ok (.iload 5, 2) := by decide +kernel
theorem dX4_grow_99 : decode cX4_grow 99 = .ok (.iconst 1, 1) := by decide +kernel
theorem dX4_grow_100 : decode cX4_grow 100 = .ok (.iload 6, 2) := by decide +kernel
theorem dX4_grow_102 : decode cX4_grow 102 = .ok (.ishl, 1) := by decide +kernel
theorem dX4_grow_103 : decode cX4_grow 103 = .ok (.if_icmp .ne 8, 3) := by decide +kernel
theorem dX4_grow_106 : decode cX4_grow 106 = .ok (.iload 4, 2) := by decide +kernel
theorem dX4_grow_108 : decode cX4_grow 108 = .ok (.goto 10, 3) := by decide +kernel
theorem dX4_grow_111 : decode cX4_grow 111 = .ok (.aload_n 0, 1) := by decide +kernel
theorem dX4_grow_112 : decode cX4_grow 112 = .ok (.getfield 27, 3) := by decide +kernel
theorem dX4_grow_115 : decode cX4_grow 115 = .ok (.iload 6, 2) := by decide +kernel
theorem dX4_grow_117 : decode cX4_grow 117 = .ok (.iaload, 1) := by decide +kernel
theorem dX4_grow_118 : decode cX4_grow 118 = .ok (.iastore, 1) := by decide +kernel
theorem dX4_grow_119 : decode cX4_grow 119 = .ok (.iinc 6 1, 3) := by decide +kernel
theorem dX4_grow_122 : decode cX4_grow 122 = .ok (.goto (-40), 3) := by decide +kernel
theorem dX4_grow_125 : decode cX4_grow 125 = .ok (.aload_n 0, 1) := by decide +kernel
theorem dX4_grow_126 : decode cX4_grow 126 = .ok (.aload_n 0, 1) := by decide +kernel
theorem dX4_grow_127 : decode cX4_grow 127 = .ok (.getfield 101, 3) := by decide +kernel
theorem dX4_grow_130 : decode cX4_grow 130 = .ok (.iload 5, 2) := by decide +kernel
theorem dX4_grow_132 : decode cX4_grow 132 = .ok (.ior, 1) := by decide +kernel
theorem dX4_grow_133 : decode cX4_grow 133 = .ok (.putfield 101, 3) := by decide +kernel
theorem dX4_grow_136 : decode cX4_grow 136 = .ok (.aload_n 0, 1) := by decide +kernel
theorem dX4_grow_137 : decode cX4_grow 137 = .ok (.aload_n 0, 1) := by decide +kernel
theorem dX4_grow_138 : decode cX4_grow 138 = .ok (.getfield 104, 3) := by decide +kernel
theorem dX4_grow_141 : decode cX4_grow 141 = .ok (.aload_n 0, 1) := by decide +kernel
theorem dX4_grow_142 : decode cX4_grow 142 = .ok (.getfield 7, 3) := by decide +kernel
theorem dX4_grow_145 : decode cX4_grow 145 = .ok (.iload 4, 2) := by decide +kernel
theorem dX4_grow_147 : decode cX4_grow 147 = .ok (.iaload, 1) := by decide +kernel
theorem dX4_grow_148 : decode cX4_grow 148 = .ok (.iload 5, 2) := by decide +kernel
theorem dX4_grow_150 : decode cX4_grow 150 = .ok (.iand, 1) := by decide +kernel
theorem dX4_grow_151 : decode cX4_grow 151 = .ok (.ior, 1) := by decide +kernel
theorem dX4_grow_152 : decode cX4_grow 152 = .ok (.putfield 104, 3) := by decide +kernel
theorem dX4_grow_155 : decode cX4_grow 155 = .ok (.aload_n 0, 1) := by decide +kernel
theorem dX4_grow_156 : decode cX4_grow 156 = .ok (.invokevirtual 110, 3) := by decide +kernel
theorem dX4_grow_159 : decode cX4_grow 159 = .ok (.istore_n 3, 1) := by decide +kernel
theorem dX4_grow_160 : decode cX4_grow 160 = .ok (.iload_n 3, 1) := by decide +kernel
theorem dX4_grow_161 : decode cX4_grow 161 = .ok (.ifCond .ge 10, 3) := by decide +kernel
theorem dX4_grow_164 : decode cX4_grow 164 = .ok (.aload_n 0, 1) := by decide +kernel
theorem dX4_grow_165 : decode cX4_grow 165 = .ok (.invokevirtual 114, 3) := by decide +kernel
theorem dX4_grow_168 : decode cX4_grow 168 = .ok (.goto 4, 3) := by decide +kernel
theorem dX4_grow_171 : decode cX4_grow 171 = .ok (.iconst (-1), 1) := by decide +kernel
theorem dX4_grow_172 : decode cX4_grow 172 = .ok (.istore 4, 2) := by decide +kernel
theorem dX4_grow_174 : decode cX4_grow 174 = .ok (.goto (-124), 3) := by decide +kernel
theorem dX4_grow_177 : decode cX4_grow 177 = .ok (.iload_n 3, 1) := by decide +kernel
theorem dX4_grow_178 : decode cX4_grow 178 = .ok (.ireturn, 1) := by decide +kernel
theorem dX4_gather_0 : decode cX4_gather 0 = .ok (.lconst 1, 1) := by decide +kernel
theorem dX4_gather_1 : decode cX4_gather 1 = .ok (.iload_n 1, 1) := by decide +kernel
theorem dX4_gather_2 : decode cX4_gather 2 = .ok (.lshl, 1) := by decide +kernel
theorem dX4_gather_3 : decode cX4_gather 3 = .ok (.lstore_n 2, 1) := by decide +kernel
theorem dX4_gather_4 : decode cX4_gather 4 = .ok (.iconst 1, 1) := by decide +kernel
theorem dX4_gather_5 : decode cX4_gather 5 = .ok (.istore 4, 2) := by decide +kernel
theorem dX4_gather_7 : decode cX4_gather 7 = .ok (.iload 4, 2) := by decide +kernel
theorem dX4_gather_9 : decode cX4_gather 9 = .ok (.ifCond .eq 132, 3) := by decide +kernel
theorem dX4_gather_12 : decode cX4_gather 12 = .ok (.lload_n 2, 1) := by decide +kernel
theorem dX4_gather_13 : decode cX4_gather 13 = .ok (.lstore 5, 2) := by decide +kernel
theorem dX4_gather_15 : decode cX4_gather 15 = .ok (.iconst 0, 1) := by decide +kernel
theorem dX4_gather_16 : decode cX4_gather 16 = .ok (.istore 7, 2) := by decide +kernel
theorem dX4_gather_18 : decode cX4_gather 18 = .ok (.iload 7, 2) := by decide +kernel
theorem dX4_gather_20 : decode cX4_gather 20 = .ok (.aload_n 0, 1) := by decide +kernel
theorem dX4_gather_21 : decode cX4_gather 21 = .ok (.getfield 75, 3) := by decide +kernel
theorem dX4_gather_24 : decode cX4_gather 24 = .ok (.if_icmp .ge 100, 3) := by decide +kernel
theorem dX4_gather_27 : decode cX4_gather 27 = .ok (.iconst 0, 1) := by decide +kernel
theorem dX4_gather_28 : decode cX4_gather 28 = .ok (.istore 8, 2) := by decide +kernel
theorem dX4_gather_30 : decode cX4_gather 30 = .ok (.iload 8, 2) := by decide +kernel
theorem dX4_gather_32 : decode cX4_gather 32 = .ok (.aload_n 0, 1) := by decide +kernel
theorem dX4_gather_33 : decode cX4_gather 33 = .ok (.getfield 45, 3) := by decide +kernel
theorem dX4_gather_36 : decode cX4_gather 36 = .ok (.if_icmp .ge 82, 3) := by decide +kernel
theorem dX4_gather_39 : decode cX4_gather 39 = .ok (.lload_n 2, 1) := by decide +kernel
theorem dX4_gather_40 : decode cX4_gather 40 = .ok (.iload 7, 2) := by decide +kernel
theorem dX4_gather_42 : decode cX4_gather 42 = .ok (.lshr, 1) := by decide +kernel
theorem dX4_gather_43 : decode cX4_gather 43 = .ok (.lconst 1, 1) := by decide +kernel
theorem dX4_gather_44 : decode cX4_gather 44 = .ok (.land, 1) := by decide +kernel
theorem dX4_gather_45 : decode cX4_gather 45 = .ok (.lconst 1, 1) := by decide +kernel
theorem dX4_gather_46 : decode cX4_gather 46 = .ok (.lcmp, 1) := by decide +kernel
theorem dX4_gather_47 : decode cX4_gather 47 = .ok (.ifCond .ne 31, 3) := by decide +kernel
theorem dX4_gather_50 : decode cX4_gather 50 = .ok (.aload_n 0, 1) := by decide +kernel
theorem dX4_gather_51 : decode cX4_gather 51 = .ok (.getfield 7, 3) := by decide +kernel
theorem dX4_gather_54 : decode cX4_gather 54 = .ok (.iload 7, 2) := by decide +kernel
theorem dX4_gather_56 : decode cX4_gather 56 = .ok (.iaload, 1) := by decide +kernel
theorem dX4_gather_57 : decode cX4_gather 57 = .ok (.aload_n 0, 1) := by decide +kernel
theorem dX4_gather_58 : decode cX4_gather 58 = .ok (.getfield 13, 3) := by decide +kernel
theorem dX4_gather_61 : decode cX4_gather 61 = .ok (.iload 7, 2) := by decide +kernel
theorem dX4_gather_63 : decode cX4_gather 63 = .ok (.iaload, 1) := by decide +kernel
theorem dX4_gather_64 : decode cX4_gather 64 = .ok (.ior, 1) := by decide +kernel
theorem dX4_gather_65 : decode cX4_gather 65 = .ok (.iload 8, 2) := by decide +kernel
theorem dX4_gather_67 : decode cX4_gather 67 = .ok (.ishr, 1) := by decide +kernel
end
section
theorem dX4_gather_68 : decode cX4_gather 68 = .ok (.iconst 1, 1) := by decide +kernel
theorem dX4_gather_69 : decode cX4_gather 69 = .ok (.iand, 1) := by decide +kernel
theorem dX4_gather_70 : decode cX4_gather 70 = .ok (.iconst 1, 1) := by decide +kernel
theorem dX4_gather_71 : decode cX4_gather 71 = .ok (.if_icmp .ne 7, 3) := by decide +kernel
theorem dX4_gather_74 : decode cX4_gather 74 = .ok (.iconst 1, 1) := by decide +kernel
theorem dX4_gather_75 : decode cX4_gather 75 = .ok (.goto 4, 3) := by decide +kernel
theorem dX4_gather_78 : decode cX4_gather 78 = .ok (.iconst 0, 1) := by decide +kernel
theorem dX4_gather_79 : decode cX4_gather 79 = .ok (.istore 9, 2) := by decide +kernel
theorem dX4_gather_81 : decode cX4_gather 81 = .ok (.iload 9, 2) := by decide +kernel
theorem dX4_gather_83 : decode cX4_gather 83 = .ok (.ifCond .eq 27, 3) := by decide +kernel
theorem dX4_gather_86 : decode cX4_gather 86 = .ok (.aload_n 0, 1) := by decide +kernel
theorem dX4_gather_87 : decode cX4_gather 87 = .ok (.getfield 27, 3) := by decide +kernel
theorem dX4_gather_90 : decode cX4_gather 90 = .ok (.iload 8, 2) := by decide +kernel
theorem dX4_gather_92 : decode cX4_gather 92 = .ok (.iaload, 1) := by decide +kernel
theorem dX4_gather_93 : decode cX4_gather 93 = .ok (.ifCond .lt 17, 3) := by decide +kernel
theorem dX4_gather_96 : decode cX4_gather 96 = .ok (.lload_n 2, 1) := by decide +kernel
theorem dX4_gather_97 : decode cX4_gather 97 = .ok (.lconst 1, 1) := by decide +kernel
theorem dX4_gather_98 : decode cX4_gather 98 = .ok (.aload_n 0, 1) := by decide +kernel
theorem dX4_gather_99 : decode cX4_gather 99 = .ok (.getfield 27, 3) := by decide +kernel
theorem dX4_gather_102 : decode cX4_gather 102 = .ok (.iload 8, 2) := by decide +kernel
theorem dX4_gather_104 : decode cX4_gather 104 = .ok (.iaload, 1) := by decide +kernel
theorem dX4_gather_105 : decode cX4_gather 105 = .ok (.lshl, 1) := by decide +kernel
theorem dX4_gather_106 : decode cX4_gather 106 = .ok (.lor, 1) := by decide +kernel
theorem dX4_gather_107 : decode cX4_gather 107 = .ok (.goto 4, 3) := by decide +kernel
theorem dX4_gather_110 : decode cX4_gather 110 = .ok (.lload_n 2, 1) := by decide +kernel
theorem dX4_gather_111 : decode cX4_gather 111 = .ok (.lstore_n 2, 1) := by decide +kernel
theorem dX4_gather_112 : decode cX4_gather 112 = .ok (.iinc 8 1, 3) := by decide +kernel
theorem dX4_gather_115 : decode cX4_gather 115 = .ok (.goto (-85), 3) := by decide +kernel
theorem dX4_gather_118 : decode cX4_gather 118 = .ok (.iinc 7 1, 3) := by decide +kernel
theorem dX4_gather_121 : decode cX4_gather 121 = .ok (.goto (-103), 3) := by decide +kernel
theorem dX4_gather_124 : decode cX4_gather 124 = .ok (.lload_n 2, 1) := by decide +kernel
theorem dX4_gather_125 : decode cX4_gather 125 = .ok (.lload 5, 2) := by decide +kernel
theorem dX4_gather_127 : decode cX4_gather 127 = .ok (.lcmp, 1) := by decide +kernel
theorem dX4_gather_128 : decode cX4_gather 128 = .ok (.ifCond .eq 7, 3) := by decide +kernel
theorem dX4_gather_131 : decode cX4_gather 131 = .ok (.iconst 1, 1) := by decide +kernel
theorem dX4_gather_132 : decode cX4_gather 132 = .ok (.goto 4, 3) := by decide +kernel
theorem dX4_gather_135 : decode cX4_gather 135 = .ok (.iconst 0, 1) := by decide +kernel
theorem dX4_gather_136 : decode cX4_gather 136 = .ok (.istore 4, 2) := by decide +kernel
theorem dX4_gather_138 : decode cX4_gather 138 = .ok (.goto (-131), 3) := by decide +kernel
theorem dX4_gather_141 : decode cX4_gather 141 = .ok (.lload_n 2, 1) := by decide +kernel
theorem dX4_gather_142 : decode cX4_gather 142 = .ok (.lreturn, 1) := by decide +kernel
theorem dX4_reckon_0 : decode cX4_reckon 0 = .ok (.aload_n 0, 1) := by decide +kernel
theorem dX4_reckon_1 : decode cX4_reckon 1 = .ok (.iconst 0, 1) := by decide +kernel
theorem dX4_reckon_2 : decode cX4_reckon 2 = .ok (.putfield 117, 3) := by decide +kernel
theorem dX4_reckon_5 : decode cX4_reckon 5 = .ok (.aload_n 0, 1) := by decide +kernel
theorem dX4_reckon_6 : decode cX4_reckon 6 = .ok (.aload_n 0, 1) := by decide +kernel
theorem dX4_reckon_7 : decode cX4_reckon 7 = .ok (.iload_n 1, 1) := by decide +kernel
theorem dX4_reckon_8 : decode cX4_reckon 8 = .ok (.iload_n 2, 1) := by decide +kernel
theorem dX4_reckon_9 : decode cX4_reckon 9 = .ok (.invokevirtual 92, 3) := by decide +kernel
theorem dX4_reckon_12 : decode cX4_reckon 12 = .ok (.putfield 120, 3) := by decide +kernel
theorem dX4_reckon_15 : decode cX4_reckon 15 = .ok (.aload_n 0, 1) := by decide +kernel
theorem dX4_reckon_16 : decode cX4_reckon 16 = .ok (.aload_n 0, 1) := by decide +kernel
theorem dX4_reckon_17 : decode cX4_reckon 17 = .ok (.iload_n 1, 1) := by decide +kernel
theorem dX4_reckon_18 : decode cX4_reckon 18 = .ok (.iload_n 2, 1) := by decide +kernel
theorem dX4_reckon_19 : decode cX4_reckon 19 = .ok (.invokevirtual 97, 3) := by decide +kernel
theorem dX4_reckon_22 : decode cX4_reckon 22 = .ok (.putfield 123, 3) := by decide +kernel
theorem dX4_reckon_25 : decode cX4_reckon 25 = .ok (.iconst 0, 1) := by decide +kernel
theorem dX4_reckon_26 : decode cX4_reckon 26 = .ok (.istore_n 3, 1) := by decide +kernel
theorem dX4_reckon_27 : decode cX4_reckon 27 = .ok (.iload_n 3, 1) := by decide +kernel
theorem dX4_reckon_28 : decode cX4_reckon 28 = .ok (.aload_n 0, 1) := by decide +kernel
theorem dX4_reckon_29 : decode cX4_reckon 29 = .ok (.getfield 75, 3) := by decide +kernel
theorem dX4_reckon_32 : decode cX4_reckon 32 = .ok (.if_icmp .ge 22, 3) := by decide +kernel
theorem dX4_reckon_35 : decode cX4_reckon 35 = .ok (.aload_n 0, 1) := by decide +kernel
theorem dX4_reckon_36 : decode cX4_reckon 36 = .ok (.getfield 23, 3) := by decide +kernel
theorem dX4_reckon_39 : decode cX4_reckon 39 = .ok (.iload_n 3, 1) := by decide +kernel
theorem dX4_reckon_40 : decode cX4_reckon 40 = .ok (.aload_n 0, 1) := by decide +kernel
theorem dX4_reckon_41 : decode cX4_reckon 41 = .ok (.iload_n 3, 1) := by decide +kernel
theorem dX4_reckon_42 : decode cX4_reckon 42 = .ok (.iload_n 1, 1) := by decide +kernel
theorem dX4_reckon_43 : decode cX4_reckon 43 = .ok (.iload_n 2, 1) := by decide +kernel
theorem dX4_reckon_44 : decode cX4_reckon 44 = .ok (.invokevirtual 107, 3) := by decide +kernel
theorem dX4_reckon_47 : decode cX4_reckon 47 = .ok (.bastore, 1) := by decide +kernel
theorem dX4_reckon_48 : decode cX4_reckon 48 = .ok (.iinc 3 1, 3) := by decide +kernel
theorem dX4_reckon_51 : decode cX4_reckon 51 = .ok (.goto (-24), 3) := by decide +kernel
theorem dX4_reckon_54 : decode cX4_reckon 54 = .ok (.aload_n 0, 1) := by decide +kernel
theorem dX4_reckon_55 : decode cX4_reckon 55 = .ok (.getfield 120, 3) := by decide +kernel
theorem dX4_reckon_58 : decode cX4_reckon 58 = .ok (.ifCond .ne 7, 3) := by decide +kernel
theorem dX4_reckon_61 : decode cX4_reckon 61 = .ok (.iconst 1, 1) := by decide +kernel
theorem dX4_reckon_62 : decode cX4_reckon 62 = .ok (.goto 4, 3) := by decide +kernel
theorem dX4_reckon_65 : decode cX4_reckon 65 = .ok (.iconst 0, 1) := by decide +kernel
theorem dX4_reckon_66 : decode cX4_reckon 66 = .ok (.istore_n 3, 1) := by decide +kernel
theorem dX4_reckon_67 : decode cX4_reckon 67 = .ok (.iload_n 3, 1) := by decide +kernel
theorem dX4_reckon_68 : decode cX4_reckon 68 = .ok (.ifCond .eq 179, 3) := by decide +kernel
theorem dX4_reckon_71 : decode cX4_reckon 71 = .ok (.aload_n 0, 1) := by decide +kernel
theorem dX4_reckon_72 : decode cX4_reckon 72 = .ok (.iload_n 1, 1) := by decide +kernel
theorem dX4_reckon_73 : decode cX4_reckon 73 = .ok (.iload_n 2, 1) := by decide +kernel
theorem dX4_reckon_74 : decode cX4_reckon 74 = .ok (.invokevirtual 127, 3) := by decide +kernel
theorem dX4_reckon_77 : decode cX4_reckon 77 = .ok (.istore 4, 2) := by decide +kernel
theorem dX4_reckon_79 : decode cX4_reckon 79 = .ok (.iload 4, 2) := by decide +kernel
theorem dX4_reckon_81 : decode cX4_reckon 81 = .ok (.ifCond .lt 7, 3) := by decide +kernel
theorem dX4_reckon_84 : decode cX4_reckon 84 = .ok (.iconst 1, 1) := by decide +kernel
theorem dX4_reckon_85 : decode cX4_reckon 85 = .ok (.goto 4, 3) := by decide +kernel
theorem dX4_reckon_88 : decode cX4_reckon 88 = .ok (.iconst 0, 1) := by decide +kernel
theorem dX4_reckon_89 : decode cX4_reckon 89 = .ok (.istore_n 3, 1) := by decide +kernel
theorem dX4_reckon_90 : decode cX4_reckon 90 = .ok (.iload_n 3, 1) := by decide +kernel
theorem dX4_reckon_91 : decode cX4_reckon 91 = .ok (.ifCond .eq 153, 3) := by decide +kernel
theorem dX4_reckon_94 : decode cX4_reckon 94 = .ok (.aload_n 0, 1) := by decide +kernel
theorem dX4_reckon_95 : decode cX4_reckon 95 = .ok (.iload 4, 2) := by decide +kernel
theorem dX4_reckon_97 : decode cX4_reckon 97 = .ok (.invokevirtual 130, 3) := by decide +kernel
theorem dX4_reckon_100 : decode cX4_reckon 100 = .ok (.lstore 5, 2) := by decide +kernel
theorem dX4_reckon_102 : decode cX4_reckon 102 = .ok (.aload_n 0, 1) := by decide +kernel
theorem dX4_reckon_103 : decode cX4_reckon 103 = .ok (.getfield 19, 3) := by decide +kernel
theorem dX4_reckon_106 : decode cX4_reckon 106 = .ok (.aload_n 0, 1) := by decide +kernel
theorem dX4_reckon_107 : decode cX4_reckon 107 = .ok (.getfield 117, 3) := by decide +kernel
theorem dX4_reckon_110 : decode cX4_reckon 110 = .ok (.lload 5, 2) := by decide +kernel
theorem dX4_reckon_112 : decode cX4_reckon 112 = .ok (.lastore, 1) := by decide +kernel
theorem dX4_reckon_113 : decode cX4_reckon 113 = .ok (.aload_n 0, 1) := by decide +kernel
theorem dX4_reckon_114 : decode cX4_reckon 114 = .ok (.dup, 1) := by decide +kernel
theorem dX4_reckon_115 : decode cX4_reckon 115 = .ok (.getfield 117, 3) := by decide +kernel
theorem dX4_reckon_118 : decode cX4_reckon 118 = .ok (.iconst 1, 1) := by decide +kernel
theorem dX4_reckon_119 : decode cX4_reckon 119 = .ok (.iadd, 1) := by decide +kernel
theorem dX4_reckon_120 : decode cX4_reckon 120 = .ok (.putfield 117, 3) := by decide +kernel
theorem dX4_reckon_123 : decode cX4_reckon 123 = .ok (.iconst 0, 1) := by decide +kernel
theorem dX4_reckon_124 : decode cX4_reckon 124 = .ok (.istore 7, 2) := by decide +kernel
theorem dX4_reckon_126 : decode cX4_reckon 126 = .ok (.iconst 0, 1) := by decide +kernel
theorem dX4_reckon_127 : decode cX4_reckon 127 = .ok (.istore 8, 2) := by decide +kernel
theorem dX4_reckon_129 : decode cX4_reckon 129 = .ok (.iload 8, 2) := by decide +kernel
theorem dX4_reckon_131 : decode cX4_reckon 131 = .ok (.aload_n 0, 1) := by decide +kernel
theorem dX4_reckon_132 : decode cX4_reckon 132 = .ok (.getfield 75, 3) := by decide +kernel
theorem dX4_reckon_135 : decode cX4_reckon 135 = .ok (.if_icmp .ge 70, 3) := by decide +kernel
theorem dX4_reckon_138 : decode cX4_reckon 138 = .ok (.lload 5, 2) := by decide +kernel
theorem dX4_reckon_140 : decode cX4_reckon 140 = .ok (.iload 8, 2) := by decide +kernel
theorem dX4_reckon_142 : decode cX4_reckon 142 = .ok (.lshr, 1) := by decide +kernel
theorem dX4_reckon_143 : decode cX4_reckon 143 = .ok (.lconst 1, 1) := by decide +kernel
theorem dX4_reckon_144 : decode cX4_reckon 144 = .ok (.land, 1) := by decide +kernel
theorem dX4_reckon_145 : decode cX4_reckon 145 = .ok (.lconst 1, 1) := by decide +kernel
theorem dX4_reckon_146 : decode cX4_reckon 146 = .ok (.lcmp, 1) := by decide +kernel
theorem dX4_reckon_147 : decode cX4_reckon 147 = .ok (.ifCond .ne 52, 3) := by decide +kernel
theorem dX4_reckon_150 : decode cX4_reckon 150 = .ok (.aload_n 0, 1) := by decide +kernel
theorem dX4_reckon_151 : decode cX4_reckon 151 = .ok (.getfield 23, 3) := by decide +kernel
theorem dX4_reckon_154 : decode cX4_reckon 154 = .ok (.iload 8, 2) := by decide +kernel
theorem dX4_reckon_156 : decode cX4_reckon 156 = .ok (.iconst 0, 1) := by decide +kernel
theorem dX4_reckon_157 : decode cX4_reckon 157 = .ok (.bastore, 1) := by decide +kernel
theorem dX4_reckon_158 : decode cX4_reckon 158 = .ok (.aload_n 0, 1) := by decide +kernel
theorem dX4_reckon_159 : decode cX4_reckon 159 = .ok (.getfield 16, 3) := by decide +kernel
theorem dX4_reckon_162 : decode cX4_reckon 162 = .ok (.iload 8, 2) := by decide +kernel
theorem dX4_reckon_164 : decode cX4_reckon 164 = .ok (.iaload, 1) := by decide +kernel
theorem dX4_reckon_165 : decode cX4_reckon 165 = .ok (.ifCond .le 30, 3) := by decide +kernel
theorem dX4_reckon_168 : decode cX4_reckon 168 = .ok (.iload 7, 2) := by decide +kernel
theorem dX4_reckon_170 : decode cX4_reckon 170 = .ok (.ifCond .eq 15, 3) := by decide +kernel
theorem dX4_reckon_173 : decode cX4_reckon 173 = .ok (.aload_n 0, 1) := by decide +kernel
theorem dX4_reckon_174 : decode cX4_reckon 174 = .ok (.getfield 16, 3) := by decide +kernel
theorem dX4_reckon_177 : decode cX4_reckon 177 = .ok (.iload 8, 2) := by decide +kernel
theorem dX4_reckon_179 : decode cX4_reckon 179 = .ok (.iaload, 1) := by decide +kernel
theorem dX4_reckon_180 : decode cX4_reckon 180 = .ok (.iload 7, 2) := by decide +kernel
theorem dX4_reckon_182 : decode cX4_reckon 182 = .ok (.if_icmp .ge 13, 3) := by decide +kernel
theorem dX4_reckon_185 : decode cX4_reckon 185 = .ok (.aload_n 0, 1) := by decide +kernel
theorem dX4_reckon_186 : decode cX4_reckon 186 = .ok (.getfield 16, 3) := by decide +kernel
theorem dX4_reckon_189 : decode cX4_reckon 189 = .ok (.iload 8, 2) := by decide +kernel
theorem dX4_reckon_191 : decode cX4_reckon 191 = .ok (.iaload, 1) := by decide +kernel
theorem dX4_reckon_192 : decode cX4_reckon 192 = .ok (.goto 5, 3) := by decide +kernel
theorem dX4_reckon_195 : decode cX4_reckon 195 = .ok (.iload 7, 2) := by decide +kernel
theorem dX4_reckon_197 : decode cX4_reckon 197 = .ok (.istore 7, 2) := by decide +kernel
theorem dX4_reckon_199 : decode cX4_reckon 199 = .ok (.iinc 8 1, 3) := by decide +kernel
theorem dX4_reckon_202 : decode cX4_reckon 202 = .ok (.goto (-73), 3) := by decide +kernel
theorem dX4_reckon_205 : decode cX4_reckon 205 = .ok (.aload_n 0, 1) := by decide +kernel
theorem dX4_reckon_206 : decode cX4_reckon 206 = .ok (.iload 7, 2) := by decide +kernel
theorem dX4_reckon_208 : decode cX4_reckon 208 = .ok (.ifCond .ne 7, 3) := by decide +kernel
theorem dX4_reckon_211 : decode cX4_reckon 211 = .ok (.iconst 1, 1) := by decide +kernel
theorem dX4_reckon_212 : decode cX4_reckon 212 = .ok (.goto 4, 3) := by decide +kernel
theorem dX4_reckon_215 : decode cX4_reckon 215 = .ok (.iconst 0, 1) := by decide +kernel
theorem dX4_reckon_216 : decode cX4_reckon 216 = .ok (.putfield 120, 3) := by decide +kernel
theorem dX4_reckon_219 : decode cX4_reckon 219 = .ok (.aload_n 0, 1) := by decide +kernel
theorem dX4_reckon_220 : decode cX4_reckon 220 = .ok (.dup, 1) := by decide +kernel
theorem dX4_reckon_221 : decode cX4_reckon 221 = .ok (.getfield 123, 3) := by decide +kernel
theorem dX4_reckon_224 : decode cX4_reckon 224 = .ok (.iload 7, 2) := by decide +kernel
theorem dX4_reckon_226 : decode cX4_reckon 226 = .ok (.i2l, 1) := by decide +kernel
theorem dX4_reckon_227 : decode cX4_reckon 227 = .ok (.ladd, 1) := by decide +kernel
theorem dX4_reckon_228 : decode cX4_reckon 228 = .ok (.putfield 123, 3) := by decide +kernel
theorem dX4_reckon_231 : decode cX4_reckon 231 = .ok (.aload_n 0, 1) := by decide +kernel
theorem dX4_reckon_232 : decode cX4_reckon 232 = .ok (.getfield 120, 3) := by decide +kernel
theorem dX4_reckon_235 : decode cX4_reckon 235 = .ok (.ifCond .ne 7, 3) := by decide +kernel
theorem dX4_reckon_238 : decode cX4_reckon 238 = .ok (.iconst 1, 1) := by decide +kernel
theorem dX4_reckon_239 : decode cX4_reckon 239 = .ok (.goto 4, 3) := by decide +kernel
theorem dX4_reckon_242 : decode cX4_reckon 242 = .ok (.iconst 0, 1) := by decide +kernel
theorem dX4_reckon_243 : decode cX4_reckon 243 = .ok (.istore_n 3, 1) := by decide +kernel
theorem dX4_reckon_244 : decode cX4_reckon 244 = .ok (.goto (-177), 3) := by decide +kernel
theorem dX4_reckon_247 : decode cX4_reckon 247 = .ok (.return_, 1) := by decide +kernel
theorem dX4_bound_0 : decode cX4_bound 0 = .ok (.aload_n 0, 1) := by decide +kernel
theorem dX4_bound_1 : decode cX4_bound 1 = .ok (.aload_n 0, 1) := by decide +kernel
theorem dX4_bound_2 : decode cX4_bound 2 = .ok (.iload_n 1, 1) := by decide +kernel
theorem dX4_bound_3 : decode cX4_bound 3 = .ok (.iload_n 2, 1) := by decide +kernel
theorem dX4_bound_4 : decode cX4_bound 4 = .ok (.invokevirtual 88, 3) := by decide +kernel
theorem dX4_bound_7 : decode cX4_bound 7 = .ok (.ifCond .eq 7, 3) := by decide +kernel
theorem dX4_bound_10 : decode cX4_bound 10 = .ok (.iconst 1, 1) := by decide +kernel
theorem dX4_bound_11 : decode cX4_bound 11 = .ok (.goto 4, 3) := by decide +kernel
theorem dX4_bound_14 : decode cX4_bound 14 = .ok (.iconst 0, 1) := by decide +kernel
theorem dX4_bound_15 : decode cX4_bound 15 = .ok (.putfield 49, 3) := by decide +kernel
theorem dX4_bound_18 : decode cX4_bound 18 = .ok (.aload_n 0, 1) := by decide +kernel
theorem dX4_bound_19 : decode cX4_bound 19 = .ok (.getfield 49, 3) := by decide +kernel
theorem dX4_bound_22 : decode cX4_bound 22 = .ok (.ifCond .le 5, 3) := by decide +kernel
theorem dX4_bound_25 : decode cX4_bound 25 = .ok (.lconst 0, 1) := by decide +kernel
theorem dX4_bound_26 : decode cX4_bound 26 = .ok (.lreturn, 1) := by decide +kernel
theorem dX4_bound_27 : decode cX4_bound 27 = .ok (.aload_n 0, 1) := by decide +kernel
theorem dX4_bound_28 : decode cX4_bound 28 = .ok (.iload_n 1, 1) := by decide +kernel
theorem dX4_bound_29 : decode cX4_bound 29 = .ok (.iload_n 2, 1) := by decide +kernel
theorem dX4_bound_30 : decode cX4_bound 30 = .ok (.invokevirtual 134, 3) := by decide +kernel
theorem dX4_bound_33 : decode cX4_bound 33 = .ok (.aload_n 0, 1) := by decide +kernel
theorem dX4_bound_34 : decode cX4_bound 34 = .ok (.getfield 120, 3) := by decide +kernel
theorem dX4_bound_37 : decode cX4_bound 37 = .ok (.ifCond .eq 9, 3) := by decide +kernel
theorem dX4_bound_40 : decode cX4_bound 40 = .ok (.ldc2_w 95, 3) := by decide +kernel
theorem dX4_bound_43 : decode cX4_bound 43 = .ok (.goto 7, 3) := by decide +kernel
theorem dX4_bound_46 : decode cX4_bound 46 = .ok (.aload_n 0, 1) := by decide +kernel
theorem dX4_bound_47 : decode cX4_bound 47 = .ok (.getfield 123, 3) := by decide +kernel
theorem dX4_bound_50 : decode cX4_bound 50 = .ok (.lreturn, 1) := by decide +kernel
theorem dX4_subset_0 : decode cX4_subset 0 = .ok (.aload_n 0, 1) := by decide +kernel
theorem dX4_subset_1 : decode cX4_subset 1 = .ok (.aload_n 0, 1) := by decide +kernel
theorem dX4_subset_2 : decode cX4_subset 2 = .ok (.iload_n 1, 1) := by decide +kernel
theorem dX4_subset_3 : decode cX4_subset 3 = .ok (.iload_n 2, 1) := by decide +kernel
theorem dX4_subset_4 : decode cX4_subset 4 = .ok (.invokevirtual 88, 3) := by decide +kernel
theorem dX4_subset_7 : decode cX4_subset 7 = .ok (.ifCond .eq 7, 3) := by decide +kernel
theorem dX4_subset_10 : decode cX4_subset 10 = .ok (.iconst 1, 1) := by decide +kernel
theorem dX4_subset_11 : decode cX4_subset 11 = .ok (.goto 4, 3) := by decide +kernel
theorem dX4_subset_14 : decode cX4_subset 14 = .ok (.iconst 0, 1) := by decide +kernel
theorem dX4_subset_15 : decode cX4_subset 15 = .ok (.putfield 49, 3) := by decide +kernel
theorem dX4_subset_18 : decode cX4_subset 18 = .ok (.aload_n 0, 1) := by decide +kernel
theorem dX4_subset_19 : decode cX4_subset 19 = .ok (.getfield 49, 3) := by decide +kernel
theorem dX4_subset_22 : decode cX4_subset 22 = .ok (.ifCond .le 5, 3) := by decide +kernel
theorem dX4_subset_25 : decode cX4_subset 25 = .ok (.lconst 0, 1) := by decide +kernel
theorem dX4_subset_26 : decode cX4_subset 26 = .ok (.lreturn, 1) := by decide +kernel
theorem dX4_subset_27 : decode cX4_subset 27 = .ok (.aload_n 0, 1) := by decide +kernel
theorem dX4_subset_28 : decode cX4_subset 28 = .ok (.iload_n 1, 1) := by decide +kernel
theorem dX4_subset_29 : decode cX4_subset 29 = .ok (.iload_n 2, 1) := by decide +kernel
theorem dX4_subset_30 : decode cX4_subset 30 = .ok (.invokevirtual 134, 3) := by decide +kernel
theorem dX4_subset_33 : decode cX4_subset 33 = .ok (.iload_n 3, 1) := by decide +kernel
theorem dX4_subset_34 : decode cX4_subset 34 = .ok (.ifCond .lt 11, 3) := by decide +kernel
theorem dX4_subset_37 : decode cX4_subset 37 = .ok (.iload_n 3, 1) := by decide +kernel
theorem dX4_subset_38 : decode cX4_subset 38 = .ok (.aload_n 0, 1) := by decide +kernel
theorem dX4_subset_39 : decode cX4_subset 39 = .ok (.getfield 117, 3) := by decide +kernel
theorem dX4_subset_42 : decode cX4_subset 42 = .ok (.if_icmp .lt 7, 3) := by decide +kernel
theorem dX4_subset_45 : decode cX4_subset 45 = .ok (.lconst 0, 1) := by decide +kernel
theorem dX4_subset_46 : decode cX4_subset 46 = .ok (.goto 9, 3) := by decide +kernel
theorem dX4_subset_49 : decode cX4_subset 49 = .ok (.aload_n 0, 1) := by decide +kernel
theorem dX4_subset_50 : decode cX4_subset 50 = .ok (.getfield 19, 3) := by decide +kernel
theorem dX4_subset_53 : decode cX4_subset 53 = .ok (.iload_n 3, 1) := by decide +kernel
theorem dX4_subset_54 : decode cX4_subset 54 = .ok (.laload, 1) := by decide +kernel
theorem dX4_subset_55 : decode cX4_subset 55 = .ok (.lreturn, 1) := by decide +kernel
theorem dX4_firstOf_0 : decode cX4_firstOf 0 = .ok (.iconst (-1), 1) := by decide +kernel
theorem dX4_firstOf_1 : decode cX4_firstOf 1 = .ok (.istore_n 3, 1) := by decide +kernel
theorem dX4_firstOf_2 : decode cX4_firstOf 2 = .ok (.iconst 0, 1) := by decide +kernel
theorem dX4_firstOf_3 : decode cX4_firstOf 3 = .ok (.istore 4, 2) := by decide +kernel
theorem dX4_firstOf_5 : decode cX4_firstOf 5 = .ok (.iconst (-1), 1) := by decide +kernel
theorem dX4_firstOf_6 : decode cX4_firstOf 6 = .ok (.istore 5, 2) := by decide +kernel
theorem dX4_firstOf_8 : decode cX4_firstOf 8 = .ok (.iconst 0, 1) := by decide +kernel
theorem dX4_firstOf_9 : decode cX4_firstOf 9 = .ok (.istore 6, 2) := by decide +kernel
theorem dX4_firstOf_11 : decode cX4_firstOf 11 = .ok (.iload 6, 2) := by decide +kernel
theorem dX4_firstOf_13 : decode cX4_firstOf 13 = .ok (.aload_n 0, 1) := by decide +kernel
theorem dX4_firstOf_14 : decode cX4_firstOf 14 = .ok (.getfield 45, 3) := by decide +kernel
theorem dX4_firstOf_17 : decode cX4_firstOf 17 = .ok (.if_icmp .ge 133, 3) := by decide +kernel
theorem dX4_firstOf_20 : decode cX4_firstOf 20 = .ok (.iconst 0, 1) := by decide +kernel
theorem dX4_firstOf_21 : decode cX4_firstOf 21 = .ok (.istore 7, 2) := by decide +kernel
theorem dX4_firstOf_23 : decode cX4_firstOf 23 = .ok (.iconst 0, 1) := by decide +kernel
theorem dX4_firstOf_24 : decode cX4_firstOf 24 = .ok (.istore 8, 2) := by decide +kernel
theorem dX4_firstOf_26 : decode cX4_firstOf 26 = .ok (.iconst 0, 1) := by decide +kernel
theorem dX4_firstOf_27 : decode cX4_firstOf 27 = .ok (.istore 9, 2) := by decide +kernel
theorem dX4_firstOf_29 : decode cX4_firstOf 29 = .ok (.iload 9, 2) := by decide +kernel
theorem dX4_firstOf_31 : decode cX4_firstOf 31 = .ok (.aload_n 0, 1) := by decide +kernel
theorem dX4_firstOf_32 : decode cX4_firstOf 32 = .ok (.getfield 75, 3) := by decide +kernel
theorem dX4_firstOf_35 : decode cX4_firstOf 35 = .ok (.if_icmp .ge 54, 3) := by decide +kernel
theorem dX4_firstOf_38 : decode cX4_firstOf 38 = .ok (.aload_n 0, 1) := by decide +kernel
theorem dX4_firstOf_39 : decode cX4_firstOf 39 = .ok (.iload 9, 2) := by decide +kernel
end
section
theorem dX4_firstOf_41 : decode cX4_firstOf 41 = .ok (.iload_n 1, 1) := by decide +kernel
theorem dX4_firstOf_42 : decode cX4_firstOf 42 = .ok (.iload_n 2, 1) := by decide +kernel
theorem dX4_firstOf_43 : decode cX4_firstOf 43 = .ok (.invokevirtual 107, 3) := by decide +kernel
theorem dX4_firstOf_46 : decode cX4_firstOf 46 = .ok (.ifCond .eq 37, 3) := by decide +kernel
theorem dX4_firstOf_49 : decode cX4_firstOf 49 = .ok (.iload 7, 2) := by decide +kernel
theorem dX4_firstOf_51 : decode cX4_firstOf 51 = .ok (.aload_n 0, 1) := by decide +kernel
theorem dX4_firstOf_52 : decode cX4_firstOf 52 = .ok (.getfield 7, 3) := by decide +kernel
theorem dX4_firstOf_55 : decode cX4_firstOf 55 = .ok (.iload 9, 2) := by decide +kernel
theorem dX4_firstOf_57 : decode cX4_firstOf 57 = .ok (.iaload, 1) := by decide +kernel
theorem dX4_firstOf_58 : decode cX4_firstOf 58 = .ok (.iload 6, 2) := by decide +kernel
theorem dX4_firstOf_60 : decode cX4_firstOf 60 = .ok (.ishr, 1) := by decide +kernel
theorem dX4_firstOf_61 : decode cX4_firstOf 61 = .ok (.iconst 1, 1) := by decide +kernel
theorem dX4_firstOf_62 : decode cX4_firstOf 62 = .ok (.iand, 1) := by decide +kernel
theorem dX4_firstOf_63 : decode cX4_firstOf 63 = .ok (.iadd, 1) := by decide +kernel
theorem dX4_firstOf_64 : decode cX4_firstOf 64 = .ok (.istore 7, 2) := by decide +kernel
theorem dX4_firstOf_66 : decode cX4_firstOf 66 = .ok (.iload 8, 2) := by decide +kernel
theorem dX4_firstOf_68 : decode cX4_firstOf 68 = .ok (.aload_n 0, 1) := by decide +kernel
theorem dX4_firstOf_69 : decode cX4_firstOf 69 = .ok (.getfield 13, 3) := by decide +kernel
theorem dX4_firstOf_72 : decode cX4_firstOf 72 = .ok (.iload 9, 2) := by decide +kernel
theorem dX4_firstOf_74 : decode cX4_firstOf 74 = .ok (.iaload, 1) := by decide +kernel
theorem dX4_firstOf_75 : decode cX4_firstOf 75 = .ok (.iload 6, 2) := by decide +kernel
theorem dX4_firstOf_77 : decode cX4_firstOf 77 = .ok (.ishr, 1) := by decide +kernel
theorem dX4_firstOf_78 : decode cX4_firstOf 78 = .ok (.iconst 1, 1) := by decide +kernel
theorem dX4_firstOf_79 : decode cX4_firstOf 79 = .ok (.iand, 1) := by decide +kernel
theorem dX4_firstOf_80 : decode cX4_firstOf 80 = .ok (.iadd, 1) := by decide +kernel
theorem dX4_firstOf_81 : decode cX4_firstOf 81 = .ok (.istore 8, 2) := by decide +kernel
theorem dX4_firstOf_83 : decode cX4_firstOf 83 = .ok (.iinc 9 1, 3) := by decide +kernel
theorem dX4_firstOf_86 : decode cX4_firstOf 86 = .ok (.goto (-57), 3) := by decide +kernel
theorem dX4_firstOf_89 : decode cX4_firstOf 89 = .ok (.iload_n 1, 1) := by decide +kernel
theorem dX4_firstOf_90 : decode cX4_firstOf 90 = .ok (.iload 6, 2) := by decide +kernel
theorem dX4_firstOf_92 : decode cX4_firstOf 92 = .ok (.ishr, 1) := by decide +kernel
theorem dX4_firstOf_93 : decode cX4_firstOf 93 = .ok (.iconst 1, 1) := by decide +kernel
theorem dX4_firstOf_94 : decode cX4_firstOf 94 = .ok (.iand, 1) := by decide +kernel
theorem dX4_firstOf_95 : decode cX4_firstOf 95 = .ok (.ifCond .ne 49, 3) := by decide +kernel
theorem dX4_firstOf_98 : decode cX4_firstOf 98 = .ok (.iload_n 3, 1) := by decide +kernel
theorem dX4_firstOf_99 : decode cX4_firstOf 99 = .ok (.ifCond .lt 13, 3) := by decide +kernel
theorem dX4_firstOf_102 : decode cX4_firstOf 102 = .ok (.iload 7, 2) := by decide +kernel
theorem dX4_firstOf_104 : decode cX4_firstOf 104 = .ok (.iload 8, 2) := by decide +kernel
theorem dX4_firstOf_106 : decode cX4_firstOf 106 = .ok (.iadd, 1) := by decide +kernel
theorem dX4_firstOf_107 : decode cX4_firstOf 107 = .ok (.iload 4, 2) := by decide +kernel
theorem dX4_firstOf_109 : decode cX4_firstOf 109 = .ok (.if_icmp .le 35, 3) := by decide +kernel
theorem dX4_firstOf_112 : decode cX4_firstOf 112 = .ok (.iload 6, 2) := by decide +kernel
theorem dX4_firstOf_114 : decode cX4_firstOf 114 = .ok (.istore_n 3, 1) := by decide +kernel
theorem dX4_firstOf_115 : decode cX4_firstOf 115 = .ok (.iload 7, 2) := by decide +kernel
theorem dX4_firstOf_117 : decode cX4_firstOf 117 = .ok (.iload 8, 2) := by decide +kernel
theorem dX4_firstOf_119 : decode cX4_firstOf 119 = .ok (.iadd, 1) := by decide +kernel
theorem dX4_firstOf_120 : decode cX4_firstOf 120 = .ok (.istore 4, 2) := by decide +kernel
theorem dX4_firstOf_122 : decode cX4_firstOf 122 = .ok (.iload 8, 2) := by decide +kernel
theorem dX4_firstOf_124 : decode cX4_firstOf 124 = .ok (.iload 7, 2) := by decide +kernel
theorem dX4_firstOf_126 : decode cX4_firstOf 126 = .ok (.if_icmp .le 12, 3) := by decide +kernel
theorem dX4_firstOf_129 : decode cX4_firstOf 129 = .ok (.iconst 2, 1) := by decide +kernel
theorem dX4_firstOf_130 : decode cX4_firstOf 130 = .ok (.iload 6, 2) := by decide +kernel
theorem dX4_firstOf_132 : decode cX4_firstOf 132 = .ok (.imul, 1) := by decide +kernel
theorem dX4_firstOf_133 : decode cX4_firstOf 133 = .ok (.iconst 1, 1) := by decide +kernel
theorem dX4_firstOf_134 : decode cX4_firstOf 134 = .ok (.iadd, 1) := by decide +kernel
theorem dX4_firstOf_135 : decode cX4_firstOf 135 = .ok (.goto 7, 3) := by decide +kernel
theorem dX4_firstOf_138 : decode cX4_firstOf 138 = .ok (.iconst 2, 1) := by decide +kernel
theorem dX4_firstOf_139 : decode cX4_firstOf 139 = .ok (.iload 6, 2) := by decide +kernel
theorem dX4_firstOf_141 : decode cX4_firstOf 141 = .ok (.imul, 1) := by decide +kernel
theorem dX4_firstOf_142 : decode cX4_firstOf 142 = .ok (.istore 5, 2) := by decide +kernel
theorem dX4_firstOf_144 : decode cX4_firstOf 144 = .ok (.iinc 6 1, 3) := by decide +kernel
theorem dX4_firstOf_147 : decode cX4_firstOf 147 = .ok (.goto (-136), 3) := by decide +kernel
theorem dX4_firstOf_150 : decode cX4_firstOf 150 = .ok (.iload 5, 2) := by decide +kernel
theorem dX4_firstOf_152 : decode cX4_firstOf 152 = .ok (.ireturn, 1) := by decide +kernel
theorem dX4_first_0 : decode cX4_first 0 = .ok (.aload_n 0, 1) := by decide +kernel
theorem dX4_first_1 : decode cX4_first 1 = .ok (.aload_n 0, 1) := by decide +kernel
theorem dX4_first_2 : decode cX4_first 2 = .ok (.iload_n 1, 1) := by decide +kernel
theorem dX4_first_3 : decode cX4_first 3 = .ok (.iload_n 2, 1) := by decide +kernel
theorem dX4_first_4 : decode cX4_first 4 = .ok (.invokevirtual 88, 3) := by decide +kernel
theorem dX4_first_7 : decode cX4_first 7 = .ok (.ifCond .eq 7, 3) := by decide +kernel
theorem dX4_first_10 : decode cX4_first 10 = .ok (.iconst 1, 1) := by decide +kernel
theorem dX4_first_11 : decode cX4_first 11 = .ok (.goto 4, 3) := by decide +kernel
theorem dX4_first_14 : decode cX4_first 14 = .ok (.iconst 0, 1) := by decide +kernel
theorem dX4_first_15 : decode cX4_first 15 = .ok (.putfield 49, 3) := by decide +kernel
theorem dX4_first_18 : decode cX4_first 18 = .ok (.aload_n 0, 1) := by decide +kernel
theorem dX4_first_19 : decode cX4_first 19 = .ok (.getfield 49, 3) := by decide +kernel
theorem dX4_first_22 : decode cX4_first 22 = .ok (.ifCond .le 7, 3) := by decide +kernel
theorem dX4_first_25 : decode cX4_first 25 = .ok (.iconst 0, 1) := by decide +kernel
theorem dX4_first_26 : decode cX4_first 26 = .ok (.goto 9, 3) := by decide +kernel
theorem dX4_first_29 : decode cX4_first 29 = .ok (.aload_n 0, 1) := by decide +kernel
theorem dX4_first_30 : decode cX4_first 30 = .ok (.iload_n 1, 1) := by decide +kernel
theorem dX4_first_31 : decode cX4_first 31 = .ok (.iload_n 2, 1) := by decide +kernel
theorem dX4_first_32 : decode cX4_first 32 = .ok (.invokevirtual 138, 3) := by decide +kernel
theorem dX4_first_35 : decode cX4_first 35 = .ok (.ireturn, 1) := by decide +kernel
theorem dX4_line_0 : decode cX4_line 0 = .ok (.aload_n 0, 1) := by decide +kernel
theorem dX4_line_1 : decode cX4_line 1 = .ok (.getfield 39, 3) := by decide +kernel
theorem dX4_line_4 : decode cX4_line 4 = .ok (.aload_n 0, 1) := by decide +kernel
theorem dX4_line_5 : decode cX4_line 5 = .ok (.getfield 141, 3) := by decide +kernel
theorem dX4_line_8 : decode cX4_line 8 = .ok (.iload_n 1, 1) := by decide +kernel
theorem dX4_line_9 : decode cX4_line 9 = .ok (.iastore, 1) := by decide +kernel
theorem dX4_line_10 : decode cX4_line 10 = .ok (.aload_n 0, 1) := by decide +kernel
theorem dX4_line_11 : decode cX4_line 11 = .ok (.getfield 42, 3) := by decide +kernel
theorem dX4_line_14 : decode cX4_line 14 = .ok (.aload_n 0, 1) := by decide +kernel
theorem dX4_line_15 : decode cX4_line 15 = .ok (.getfield 141, 3) := by decide +kernel
theorem dX4_line_18 : decode cX4_line 18 = .ok (.iload_n 2, 1) := by decide +kernel
theorem dX4_line_19 : decode cX4_line 19 = .ok (.iastore, 1) := by decide +kernel
theorem dX4_line_20 : decode cX4_line 20 = .ok (.aload_n 0, 1) := by decide +kernel
theorem dX4_line_21 : decode cX4_line 21 = .ok (.dup, 1) := by decide +kernel
theorem dX4_line_22 : decode cX4_line 22 = .ok (.getfield 141, 3) := by decide +kernel
theorem dX4_line_25 : decode cX4_line 25 = .ok (.iconst 1, 1) := by decide +kernel
theorem dX4_line_26 : decode cX4_line 26 = .ok (.iadd, 1) := by decide +kernel
theorem dX4_line_27 : decode cX4_line 27 = .ok (.putfield 141, 3) := by decide +kernel
theorem dX4_line_30 : decode cX4_line 30 = .ok (.return_, 1) := by decide +kernel
theorem dX4_node_0 : decode cX4_node 0 = .ok (.aload_n 0, 1) := by decide +kernel
theorem dX4_node_1 : decode cX4_node 1 = .ok (.dup, 1) := by decide +kernel
theorem dX4_node_2 : decode cX4_node 2 = .ok (.getfield 56, 3) := by decide +kernel
theorem dX4_node_5 : decode cX4_node 5 = .ok (.iconst 1, 1) := by decide +kernel
theorem dX4_node_6 : decode cX4_node 6 = .ok (.iadd, 1) := by decide +kernel
theorem dX4_node_7 : decode cX4_node 7 = .ok (.putfield 56, 3) := by decide +kernel
theorem dX4_node_10 : decode cX4_node 10 = .ok (.iload_n 1, 1) := by decide +kernel
theorem dX4_node_11 : decode cX4_node 11 = .ok (.iconst 1, 1) := by decide +kernel
theorem dX4_node_12 : decode cX4_node 12 = .ok (.aload_n 0, 1) := by decide +kernel
theorem dX4_node_13 : decode cX4_node 13 = .ok (.getfield 45, 3) := by decide +kernel
theorem dX4_node_16 : decode cX4_node 16 = .ok (.ishl, 1) := by decide +kernel
theorem dX4_node_17 : decode cX4_node 17 = .ok (.iconst 1, 1) := by decide +kernel
theorem dX4_node_18 : decode cX4_node 18 = .ok (.isub, 1) := by decide +kernel
theorem dX4_node_19 : decode cX4_node 19 = .ok (.if_icmp .ne 51, 3) := by decide +kernel
theorem dX4_node_22 : decode cX4_node 22 = .ok (.aload_n 0, 1) := by decide +kernel
theorem dX4_node_23 : decode cX4_node 23 = .ok (.iload_n 1, 1) := by decide +kernel
theorem dX4_node_24 : decode cX4_node 24 = .ok (.iload_n 2, 1) := by decide +kernel
theorem dX4_node_25 : decode cX4_node 25 = .ok (.invokevirtual 97, 3) := by decide +kernel
theorem dX4_node_28 : decode cX4_node 28 = .ok (.lstore_n 3, 1) := by decide +kernel
theorem dX4_node_29 : decode cX4_node 29 = .ok (.aload_n 0, 1) := by decide +kernel
theorem dX4_node_30 : decode cX4_node 30 = .ok (.iload_n 1, 1) := by decide +kernel
theorem dX4_node_31 : decode cX4_node 31 = .ok (.iload_n 2, 1) := by decide +kernel
theorem dX4_node_32 : decode cX4_node 32 = .ok (.invokevirtual 92, 3) := by decide +kernel
theorem dX4_node_35 : decode cX4_node 35 = .ok (.ifCond .ne 34, 3) := by decide +kernel
theorem dX4_node_38 : decode cX4_node 38 = .ok (.aload_n 0, 1) := by decide +kernel
theorem dX4_node_39 : decode cX4_node 39 = .ok (.getfield 52, 3) := by decide +kernel
theorem dX4_node_42 : decode cX4_node 42 = .ok (.ifCond .eq 12, 3) := by decide +kernel
theorem dX4_node_45 : decode cX4_node 45 = .ok (.lload_n 3, 1) := by decide +kernel
theorem dX4_node_46 : decode cX4_node 46 = .ok (.aload_n 0, 1) := by decide +kernel
theorem dX4_node_47 : decode cX4_node 47 = .ok (.getfield 144, 3) := by decide +kernel
theorem dX4_node_50 : decode cX4_node 50 = .ok (.lcmp, 1) := by decide +kernel
theorem dX4_node_51 : decode cX4_node 51 = .ok (.ifCond .ge 18, 3) := by decide +kernel
theorem dX4_node_54 : decode cX4_node 54 = .ok (.aload_n 0, 1) := by decide +kernel
theorem dX4_node_55 : decode cX4_node 55 = .ok (.iconst 1, 1) := by decide +kernel
theorem dX4_node_56 : decode cX4_node 56 = .ok (.putfield 52, 3) := by decide +kernel
theorem dX4_node_59 : decode cX4_node 59 = .ok (.aload_n 0, 1) := by decide +kernel
theorem dX4_node_60 : decode cX4_node 60 = .ok (.lload_n 3, 1) := by decide +kernel
theorem dX4_node_61 : decode cX4_node 61 = .ok (.putfield 144, 3) := by decide +kernel
theorem dX4_node_64 : decode cX4_node 64 = .ok (.aload_n 0, 1) := by decide +kernel
theorem dX4_node_65 : decode cX4_node 65 = .ok (.iload_n 2, 1) := by decide +kernel
theorem dX4_node_66 : decode cX4_node 66 = .ok (.putfield 147, 3) := by decide +kernel
theorem dX4_node_69 : decode cX4_node 69 = .ok (.return_, 1) := by decide +kernel
theorem dX4_node_70 : decode cX4_node 70 = .ok (.aload_n 0, 1) := by decide +kernel
theorem dX4_node_71 : decode cX4_node 71 = .ok (.iload_n 1, 1) := by decide +kernel
theorem dX4_node_72 : decode cX4_node 72 = .ok (.iload_n 2, 1) := by decide +kernel
theorem dX4_node_73 : decode cX4_node 73 = .ok (.invokevirtual 134, 3) := by decide +kernel
theorem dX4_node_76 : decode cX4_node 76 = .ok (.aload_n 0, 1) := by decide +kernel
theorem dX4_node_77 : decode cX4_node 77 = .ok (.getfield 120, 3) := by decide +kernel
theorem dX4_node_80 : decode cX4_node 80 = .ok (.ifCond .ne 22, 3) := by decide +kernel
theorem dX4_node_83 : decode cX4_node 83 = .ok (.aload_n 0, 1) := by decide +kernel
theorem dX4_node_84 : decode cX4_node 84 = .ok (.getfield 52, 3) := by decide +kernel
theorem dX4_node_87 : decode cX4_node 87 = .ok (.ifCond .eq 72, 3) := by decide +kernel
theorem dX4_node_90 : decode cX4_node 90 = .ok (.aload_n 0, 1) := by decide +kernel
theorem dX4_node_91 : decode cX4_node 91 = .ok (.getfield 144, 3) := by decide +kernel
theorem dX4_node_94 : decode cX4_node 94 = .ok (.aload_n 0, 1) := by decide +kernel
theorem dX4_node_95 : decode cX4_node 95 = .ok (.getfield 123, 3) := by decide +kernel
theorem dX4_node_98 : decode cX4_node 98 = .ok (.lcmp, 1) := by decide +kernel
theorem dX4_node_99 : decode cX4_node 99 = .ok (.ifCond .gt 60, 3) := by decide +kernel
theorem dX4_node_102 : decode cX4_node 102 = .ok (.aload_n 0, 1) := by decide +kernel
theorem dX4_node_103 : decode cX4_node 103 = .ok (.getfield 30, 3) := by decide +kernel
theorem dX4_node_106 : decode cX4_node 106 = .ok (.aload_n 0, 1) := by decide +kernel
theorem dX4_node_107 : decode cX4_node 107 = .ok (.getfield 59, 3) := by decide +kernel
theorem dX4_node_110 : decode cX4_node 110 = .ok (.iload_n 1, 1) := by decide +kernel
theorem dX4_node_111 : decode cX4_node 111 = .ok (.iastore, 1) := by decide +kernel
theorem dX4_node_112 : decode cX4_node 112 = .ok (.aload_n 0, 1) := by decide +kernel
theorem dX4_node_113 : decode cX4_node 113 = .ok (.getfield 33, 3) := by decide +kernel
theorem dX4_node_116 : decode cX4_node 116 = .ok (.aload_n 0, 1) := by decide +kernel
theorem dX4_node_117 : decode cX4_node 117 = .ok (.getfield 59, 3) := by decide +kernel
theorem dX4_node_120 : decode cX4_node 120 = .ok (.iload_n 2, 1) := by decide +kernel
theorem dX4_node_121 : decode cX4_node 121 = .ok (.iastore, 1) := by decide +kernel
theorem dX4_node_122 : decode cX4_node 122 = .ok (.aload_n 0, 1) := by decide +kernel
theorem dX4_node_123 : decode cX4_node 123 = .ok (.getfield 36, 3) := by decide +kernel
theorem dX4_node_126 : decode cX4_node 126 = .ok (.aload_n 0, 1) := by decide +kernel
theorem dX4_node_127 : decode cX4_node 127 = .ok (.getfield 59, 3) := by decide +kernel
theorem dX4_node_130 : decode cX4_node 130 = .ok (.aload_n 0, 1) := by decide +kernel
theorem dX4_node_131 : decode cX4_node 131 = .ok (.getfield 52, 3) := by decide +kernel
theorem dX4_node_134 : decode cX4_node 134 = .ok (.ifCond .eq 10, 3) := by decide +kernel
theorem dX4_node_137 : decode cX4_node 137 = .ok (.aload_n 0, 1) := by decide +kernel
theorem dX4_node_138 : decode cX4_node 138 = .ok (.getfield 144, 3) := by decide +kernel
theorem dX4_node_141 : decode cX4_node 141 = .ok (.goto 6, 3) := by decide +kernel
theorem dX4_node_144 : decode cX4_node 144 = .ok (.ldc2_w 150, 3) := by decide +kernel
theorem dX4_node_147 : decode cX4_node 147 = .ok (.lastore, 1) := by decide +kernel
theorem dX4_node_148 : decode cX4_node 148 = .ok (.aload_n 0, 1) := by decide +kernel
theorem dX4_node_149 : decode cX4_node 149 = .ok (.dup, 1) := by decide +kernel
theorem dX4_node_150 : decode cX4_node 150 = .ok (.getfield 59, 3) := by decide +kernel
theorem dX4_node_153 : decode cX4_node 153 = .ok (.iconst 1, 1) := by decide +kernel
theorem dX4_node_154 : decode cX4_node 154 = .ok (.iadd, 1) := by decide +kernel
theorem dX4_node_155 : decode cX4_node 155 = .ok (.putfield 59, 3) := by decide +kernel
theorem dX4_node_158 : decode cX4_node 158 = .ok (.return_, 1) := by decide +kernel
theorem dX4_node_159 : decode cX4_node 159 = .ok (.aload_n 0, 1) := by decide +kernel
theorem dX4_node_160 : decode cX4_node 160 = .ok (.iload_n 1, 1) := by decide +kernel
theorem dX4_node_161 : decode cX4_node 161 = .ok (.iload_n 2, 1) := by decide +kernel
theorem dX4_node_162 : decode cX4_node 162 = .ok (.invokevirtual 138, 3) := by decide +kernel
theorem dX4_node_165 : decode cX4_node 165 = .ok (.istore_n 3, 1) := by decide +kernel
theorem dX4_node_166 : decode cX4_node 166 = .ok (.iconst 1, 1) := by decide +kernel
theorem dX4_node_167 : decode cX4_node 167 = .ok (.iload_n 3, 1) := by decide +kernel
theorem dX4_node_168 : decode cX4_node 168 = .ok (.iconst 2, 1) := by decide +kernel
theorem dX4_node_169 : decode cX4_node 169 = .ok (.idiv, 1) := by decide +kernel
theorem dX4_node_170 : decode cX4_node 170 = .ok (.ishl, 1) := by decide +kernel
theorem dX4_node_171 : decode cX4_node 171 = .ok (.istore 4, 2) := by decide +kernel
theorem dX4_node_173 : decode cX4_node 173 = .ok (.aload_n 0, 1) := by decide +kernel
theorem dX4_node_174 : decode cX4_node 174 = .ok (.iload_n 1, 1) := by decide +kernel
theorem dX4_node_175 : decode cX4_node 175 = .ok (.iload 4, 2) := by decide +kernel
theorem dX4_node_177 : decode cX4_node 177 = .ok (.ior, 1) := by decide +kernel
theorem dX4_node_178 : decode cX4_node 178 = .ok (.iload_n 3, 1) := by decide +kernel
theorem dX4_node_179 : decode cX4_node 179 = .ok (.iconst 2, 1) := by decide +kernel
theorem dX4_node_180 : decode cX4_node 180 = .ok (.irem, 1) := by decide +kernel
theorem dX4_node_181 : decode cX4_node 181 = .ok (.ifCond .ne 7, 3) := by decide +kernel
theorem dX4_node_184 : decode cX4_node 184 = .ok (.iload_n 2, 1) := by decide +kernel
theorem dX4_node_185 : decode cX4_node 185 = .ok (.goto 7, 3) := by decide +kernel
theorem dX4_node_188 : decode cX4_node 188 = .ok (.iload_n 2, 1) := by decide +kernel
theorem dX4_node_189 : decode cX4_node 189 = .ok (.iload 4, 2) := by decide +kernel
theorem dX4_node_191 : decode cX4_node 191 = .ok (.ior, 1) := by decide +kernel
theorem dX4_node_192 : decode cX4_node 192 = .ok (.invokevirtual 152, 3) := by decide +kernel
theorem dX4_node_195 : decode cX4_node 195 = .ok (.aload_n 0, 1) := by decide +kernel
theorem dX4_node_196 : decode cX4_node 196 = .ok (.iload_n 1, 1) := by decide +kernel
theorem dX4_node_197 : decode cX4_node 197 = .ok (.iload 4, 2) := by decide +kernel
theorem dX4_node_199 : decode cX4_node 199 = .ok (.ior, 1) := by decide +kernel
theorem dX4_node_200 : decode cX4_node 200 = .ok (.iload_n 3, 1) := by decide +kernel
theorem dX4_node_201 : decode cX4_node 201 = .ok (.iconst 2, 1) := by decide +kernel
theorem dX4_node_202 : decode cX4_node 202 = .ok (.irem, 1) := by decide +kernel
theorem dX4_node_203 : decode cX4_node 203 = .ok (.ifCond .ne 10, 3) := by decide +kernel
theorem dX4_node_206 : decode cX4_node 206 = .ok (.iload_n 2, 1) := by decide +kernel
theorem dX4_node_207 : decode cX4_node 207 = .ok (.iload 4, 2) := by decide +kernel
theorem dX4_node_209 : decode cX4_node 209 = .ok (.ior, 1) := by decide +kernel
theorem dX4_node_210 : decode cX4_node 210 = .ok (.goto 4, 3) := by decide +kernel
theorem dX4_node_213 : decode cX4_node 213 = .ok (.iload_n 2, 1) := by decide +kernel
theorem dX4_node_214 : decode cX4_node 214 = .ok (.invokevirtual 152, 3) := by decide +kernel
theorem dX4_node_217 : decode cX4_node 217 = .ok (.return_, 1) := by decide +kernel
theorem dX4_solve_0 : decode cX4_solve 0 = .ok (.aload_n 0, 1) := by decide +kernel
theorem dX4_solve_1 : decode cX4_solve 1 = .ok (.iconst 0, 1) := by decide +kernel
theorem dX4_solve_2 : decode cX4_solve 2 = .ok (.putfield 49, 3) := by decide +kernel
theorem dX4_solve_5 : decode cX4_solve 5 = .ok (.aload_n 0, 1) := by decide +kernel
theorem dX4_solve_6 : decode cX4_solve 6 = .ok (.invokevirtual 78, 3) := by decide +kernel
theorem dX4_solve_9 : decode cX4_solve 9 = .ok (.aload_n 0, 1) := by decide +kernel
theorem dX4_solve_10 : decode cX4_solve 10 = .ok (.iconst 0, 1) := by decide +kernel
theorem dX4_solve_11 : decode cX4_solve 11 = .ok (.putfield 141, 3) := by decide +kernel
theorem dX4_solve_14 : decode cX4_solve 14 = .ok (.aload_n 0, 1) := by decide +kernel
theorem dX4_solve_15 : decode cX4_solve 15 = .ok (.iconst 0, 1) := by decide +kernel
theorem dX4_solve_16 : decode cX4_solve 16 = .ok (.iconst 0, 1) := by decide +kernel
theorem dX4_solve_17 : decode cX4_solve 17 = .ok (.invokevirtual 152, 3) := by decide +kernel
theorem dX4_solve_20 : decode cX4_solve 20 = .ok (.aload_n 0, 1) := by decide +kernel
theorem dX4_solve_21 : decode cX4_solve 21 = .ok (.getfield 141, 3) := by decide +kernel
theorem dX4_solve_24 : decode cX4_solve 24 = .ok (.ifCond .le 38, 3) := by decide +kernel
theorem dX4_solve_27 : decode cX4_solve 27 = .ok (.aload_n 0, 1) := by decide +kernel
theorem dX4_solve_28 : decode cX4_solve 28 = .ok (.dup, 1) := by decide +kernel
theorem dX4_solve_29 : decode cX4_solve 29 = .ok (.getfield 141, 3) := by decide +kernel
theorem dX4_solve_32 : decode cX4_solve 32 = .ok (.iconst 1, 1) := by decide +kernel
theorem dX4_solve_33 : decode cX4_solve 33 = .ok (.isub, 1) := by decide +kernel
theorem dX4_solve_34 : decode cX4_solve 34 = .ok (.putfield 141, 3) := by decide +kernel
theorem dX4_solve_37 : decode cX4_solve 37 = .ok (.aload_n 0, 1) := by decide +kernel
theorem dX4_solve_38 : decode cX4_solve 38 = .ok (.aload_n 0, 1) := by decide +kernel
theorem dX4_solve_39 : decode cX4_solve 39 = .ok (.getfield 39, 3) := by decide +kernel
theorem dX4_solve_42 : decode cX4_solve 42 = .ok (.aload_n 0, 1) := by decide +kernel
theorem dX4_solve_43 : decode cX4_solve 43 = .ok (.getfield 141, 3) := by decide +kernel
theorem dX4_solve_46 : decode cX4_solve 46 = .ok (.iaload, 1) := by decide +kernel
theorem dX4_solve_47 : decode cX4_solve 47 = .ok (.aload_n 0, 1) := by decide +kernel
end
section
theorem dX4_solve_48 : decode cX4_solve 48 = .ok (.getfield 42, 3) := by decide +kernel
theorem dX4_solve_51 : decode cX4_solve 51 = .ok (.aload_n 0, 1) := by decide +kernel
theorem dX4_solve_52 : decode cX4_solve 52 = .ok (.getfield 141, 3) := by decide +kernel
theorem dX4_solve_55 : decode cX4_solve 55 = .ok (.iaload, 1) := by decide +kernel
theorem dX4_solve_56 : decode cX4_solve 56 = .ok (.invokevirtual 155, 3) := by decide +kernel
theorem dX4_solve_59 : decode cX4_solve 59 = .ok (.goto (-39), 3) := by decide +kernel
theorem dX4_solve_62 : decode cX4_solve 62 = .ok (.aload_n 0, 1) := by decide +kernel
theorem dX4_solve_63 : decode cX4_solve 63 = .ok (.getfield 52, 3) := by decide +kernel
theorem dX4_solve_66 : decode cX4_solve 66 = .ok (.ifCond .eq 10, 3) := by decide +kernel
theorem dX4_solve_69 : decode cX4_solve 69 = .ok (.aload_n 0, 1) := by decide +kernel
theorem dX4_solve_70 : decode cX4_solve 70 = .ok (.getfield 144, 3) := by decide +kernel
theorem dX4_solve_73 : decode cX4_solve 73 = .ok (.goto 6, 3) := by decide +kernel
theorem dX4_solve_76 : decode cX4_solve 76 = .ok (.ldc2_w 95, 3) := by decide +kernel
theorem dX4_solve_79 : decode cX4_solve 79 = .ok (.lreturn, 1) := by decide +kernel
theorem dX4_value_0 : decode cX4_value 0 = .ok (.aload_n 0, 1) := by decide +kernel
theorem dX4_value_1 : decode cX4_value 1 = .ok (.iconst 0, 1) := by decide +kernel
theorem dX4_value_2 : decode cX4_value 2 = .ok (.putfield 49, 3) := by decide +kernel
theorem dX4_value_5 : decode cX4_value 5 = .ok (.iload_n 1, 1) := by decide +kernel
theorem dX4_value_6 : decode cX4_value 6 = .ok (.ifCond .lt 18, 3) := by decide +kernel
theorem dX4_value_9 : decode cX4_value 9 = .ok (.iload_n 1, 1) := by decide +kernel
theorem dX4_value_10 : decode cX4_value 10 = .ok (.aload_n 0, 1) := by decide +kernel
theorem dX4_value_11 : decode cX4_value 11 = .ok (.getfield 45, 3) := by decide +kernel
theorem dX4_value_14 : decode cX4_value 14 = .ok (.if_icmp .ge 10, 3) := by decide +kernel
theorem dX4_value_17 : decode cX4_value 17 = .ok (.aload_n 0, 1) := by decide +kernel
theorem dX4_value_18 : decode cX4_value 18 = .ok (.getfield 52, 3) := by decide +kernel
theorem dX4_value_21 : decode cX4_value 21 = .ok (.ifCond .ne 7, 3) := by decide +kernel
theorem dX4_value_24 : decode cX4_value 24 = .ok (.iconst (-1), 1) := by decide +kernel
theorem dX4_value_25 : decode cX4_value 25 = .ok (.goto 11, 3) := by decide +kernel
theorem dX4_value_28 : decode cX4_value 28 = .ok (.aload_n 0, 1) := by decide +kernel
theorem dX4_value_29 : decode cX4_value 29 = .ok (.getfield 147, 3) := by decide +kernel
theorem dX4_value_32 : decode cX4_value 32 = .ok (.iload_n 1, 1) := by decide +kernel
theorem dX4_value_33 : decode cX4_value 33 = .ok (.ishr, 1) := by decide +kernel
theorem dX4_value_34 : decode cX4_value 34 = .ok (.iconst 1, 1) := by decide +kernel
theorem dX4_value_35 : decode cX4_value 35 = .ok (.iand, 1) := by decide +kernel
theorem dX4_value_36 : decode cX4_value 36 = .ok (.ireturn, 1) := by decide +kernel
theorem dX4_nodes_0 : decode cX4_nodes 0 = .ok (.aload_n 0, 1) := by decide +kernel
theorem dX4_nodes_1 : decode cX4_nodes 1 = .ok (.iconst 0, 1) := by decide +kernel
theorem dX4_nodes_2 : decode cX4_nodes 2 = .ok (.putfield 49, 3) := by decide +kernel
theorem dX4_nodes_5 : decode cX4_nodes 5 = .ok (.aload_n 0, 1) := by decide +kernel
theorem dX4_nodes_6 : decode cX4_nodes 6 = .ok (.getfield 56, 3) := by decide +kernel
theorem dX4_nodes_9 : decode cX4_nodes 9 = .ok (.ireturn, 1) := by decide +kernel
theorem dX4_logged_0 : decode cX4_logged 0 = .ok (.aload_n 0, 1) := by decide +kernel
theorem dX4_logged_1 : decode cX4_logged 1 = .ok (.iconst 0, 1) := by decide +kernel
theorem dX4_logged_2 : decode cX4_logged 2 = .ok (.putfield 49, 3) := by decide +kernel
theorem dX4_logged_5 : decode cX4_logged 5 = .ok (.aload_n 0, 1) := by decide +kernel
theorem dX4_logged_6 : decode cX4_logged 6 = .ok (.getfield 59, 3) := by decide +kernel
theorem dX4_logged_9 : decode cX4_logged 9 = .ok (.ireturn, 1) := by decide +kernel
theorem dX4_log_0 : decode cX4_log 0 = .ok (.aload_n 0, 1) := by decide +kernel
theorem dX4_log_1 : decode cX4_log 1 = .ok (.iconst 0, 1) := by decide +kernel
theorem dX4_log_2 : decode cX4_log 2 = .ok (.putfield 49, 3) := by decide +kernel
theorem dX4_log_5 : decode cX4_log 5 = .ok (.iload_n 1, 1) := by decide +kernel
theorem dX4_log_6 : decode cX4_log 6 = .ok (.ifCond .lt 20, 3) := by decide +kernel
theorem dX4_log_9 : decode cX4_log 9 = .ok (.iload_n 1, 1) := by decide +kernel
theorem dX4_log_10 : decode cX4_log 10 = .ok (.aload_n 0, 1) := by decide +kernel
theorem dX4_log_11 : decode cX4_log 11 = .ok (.getfield 59, 3) := by decide +kernel
theorem dX4_log_14 : decode cX4_log 14 = .ok (.if_icmp .ge 12, 3) := by decide +kernel
theorem dX4_log_17 : decode cX4_log 17 = .ok (.iload_n 2, 1) := by decide +kernel
theorem dX4_log_18 : decode cX4_log 18 = .ok (.ifCond .lt 8, 3) := by decide +kernel
theorem dX4_log_21 : decode cX4_log 21 = .ok (.iload_n 2, 1) := by decide +kernel
theorem dX4_log_22 : decode cX4_log 22 = .ok (.iconst 1, 1) := by decide +kernel
theorem dX4_log_23 : decode cX4_log 23 = .ok (.if_icmp .le 7, 3) := by decide +kernel
theorem dX4_log_26 : decode cX4_log 26 = .ok (.iconst (-1), 1) := by decide +kernel
theorem dX4_log_27 : decode cX4_log 27 = .ok (.goto 22, 3) := by decide +kernel
theorem dX4_log_30 : decode cX4_log 30 = .ok (.iload_n 2, 1) := by decide +kernel
theorem dX4_log_31 : decode cX4_log 31 = .ok (.ifCond .ne 12, 3) := by decide +kernel
theorem dX4_log_34 : decode cX4_log 34 = .ok (.aload_n 0, 1) := by decide +kernel
theorem dX4_log_35 : decode cX4_log 35 = .ok (.getfield 30, 3) := by decide +kernel
theorem dX4_log_38 : decode cX4_log 38 = .ok (.iload_n 1, 1) := by decide +kernel
theorem dX4_log_39 : decode cX4_log 39 = .ok (.iaload, 1) := by decide +kernel
theorem dX4_log_40 : decode cX4_log 40 = .ok (.goto 9, 3) := by decide +kernel
theorem dX4_log_43 : decode cX4_log 43 = .ok (.aload_n 0, 1) := by decide +kernel
theorem dX4_log_44 : decode cX4_log 44 = .ok (.getfield 33, 3) := by decide +kernel
theorem dX4_log_47 : decode cX4_log 47 = .ok (.iload_n 1, 1) := by decide +kernel
theorem dX4_log_48 : decode cX4_log 48 = .ok (.iaload, 1) := by decide +kernel
theorem dX4_log_49 : decode cX4_log 49 = .ok (.ireturn, 1) := by decide +kernel
theorem dX4_best_0 : decode cX4_best 0 = .ok (.aload_n 0, 1) := by decide +kernel
theorem dX4_best_1 : decode cX4_best 1 = .ok (.iconst 0, 1) := by decide +kernel
theorem dX4_best_2 : decode cX4_best 2 = .ok (.putfield 49, 3) := by decide +kernel
theorem dX4_best_5 : decode cX4_best 5 = .ok (.iload_n 1, 1) := by decide +kernel
theorem dX4_best_6 : decode cX4_best 6 = .ok (.ifCond .lt 11, 3) := by decide +kernel
theorem dX4_best_9 : decode cX4_best 9 = .ok (.iload_n 1, 1) := by decide +kernel
theorem dX4_best_10 : decode cX4_best 10 = .ok (.aload_n 0, 1) := by decide +kernel
theorem dX4_best_11 : decode cX4_best 11 = .ok (.getfield 59, 3) := by decide +kernel
theorem dX4_best_14 : decode cX4_best 14 = .ok (.if_icmp .lt 9, 3) := by decide +kernel
theorem dX4_best_17 : decode cX4_best 17 = .ok (.ldc2_w 150, 3) := by decide +kernel
theorem dX4_best_20 : decode cX4_best 20 = .ok (.goto 9, 3) := by decide +kernel
theorem dX4_best_23 : decode cX4_best 23 = .ok (.aload_n 0, 1) := by decide +kernel
theorem dX4_best_24 : decode cX4_best 24 = .ok (.getfield 36, 3) := by decide +kernel
theorem dX4_best_27 : decode cX4_best 27 = .ok (.iload_n 1, 1) := by decide +kernel
theorem dX4_best_28 : decode cX4_best 28 = .ok (.laload, 1) := by decide +kernel
theorem dX4_best_29 : decode cX4_best 29 = .ok (.lreturn, 1) := by decide +kernel
theorem dL_cell_0 : decode cL_cell 0 = .ok (.iload_n 1, 1) := by decide +kernel
theorem dL_cell_1 : decode cL_cell 1 = .ok (.aload_n 0, 1) := by decide +kernel
theorem dL_cell_2 : decode cL_cell 2 = .ok (.arraylength, 1) := by decide +kernel
theorem dL_cell_3 : decode cL_cell 3 = .ok (.if_icmp .ge 9, 3) := by decide +kernel
theorem dL_cell_6 : decode cL_cell 6 = .ok (.aload_n 0, 1) := by decide +kernel
theorem dL_cell_7 : decode cL_cell 7 = .ok (.iload_n 1, 1) := by decide +kernel
theorem dL_cell_8 : decode cL_cell 8 = .ok (.iaload, 1) := by decide +kernel
theorem dL_cell_9 : decode cL_cell 9 = .ok (.goto 4, 3) := by decide +kernel
theorem dL_cell_12 : decode cL_cell 12 = .ok (.iconst 0, 1) := by decide +kernel
theorem dL_cell_13 : decode cL_cell 13 = .ok (.ireturn, 1) := by decide +kernel
theorem dL_clause_0 : decode cL_clause 0 = .ok (.aload 6, 2) := by decide +kernel
theorem dL_clause_2 : decode cL_clause 2 = .ok (.iconst 0, 1) := by decide +kernel
theorem dL_clause_3 : decode cL_clause 3 = .ok (.aload_n 0, 1) := by decide +kernel
theorem dL_clause_4 : decode cL_clause 4 = .ok (.iload_n 1, 1) := by decide +kernel
theorem dL_clause_5 : decode cL_clause 5 = .ok (.iload_n 2, 1) := by decide +kernel
theorem dL_clause_6 : decode cL_clause 6 = .ok (.iload_n 3, 1) := by decide +kernel
theorem dL_clause_7 : decode cL_clause 7 = .ok (.iload 4, 2) := by decide +kernel
theorem dL_clause_9 : decode cL_clause 9 = .ok (.iload 5, 2) := by decide +kernel
theorem dL_clause_11 : decode cL_clause 11 = .ok (.invokevirtual 7, 3) := by decide +kernel
theorem dL_clause_14 : decode cL_clause 14 = .ok (.i2l, 1) := by decide +kernel
theorem dL_clause_15 : decode cL_clause 15 = .ok (.lastore, 1) := by decide +kernel
theorem dL_clause_16 : decode cL_clause 16 = .ok (.goto 11, 3) := by decide +kernel
theorem dL_clause_19 : decode cL_clause 19 = .ok (.astore 7, 2) := by decide +kernel
theorem dL_clause_21 : decode cL_clause 21 = .ok (.iconst 1, 1) := by decide +kernel
theorem dL_clause_22 : decode cL_clause 22 = .ok (.ireturn, 1) := by decide +kernel
theorem dL_clause_23 : decode cL_clause 23 = .ok (.astore 7, 2) := by decide +kernel
theorem dL_clause_25 : decode cL_clause 25 = .ok (.iconst 2, 1) := by decide +kernel
theorem dL_clause_26 : decode cL_clause 26 = .ok (.ireturn, 1) := by decide +kernel
theorem dL_clause_27 : decode cL_clause 27 = .ok (.iconst 0, 1) := by decide +kernel
theorem dL_clause_28 : decode cL_clause 28 = .ok (.ireturn, 1) := by decide +kernel
theorem dL_weigh_0 : decode cL_weigh 0 = .ok (.aload_n 3, 1) := by decide +kernel
theorem dL_weigh_1 : decode cL_weigh 1 = .ok (.iconst 0, 1) := by decide +kernel
theorem dL_weigh_2 : decode cL_weigh 2 = .ok (.aload_n 0, 1) := by decide +kernel
theorem dL_weigh_3 : decode cL_weigh 3 = .ok (.iload_n 1, 1) := by decide +kernel
theorem dL_weigh_4 : decode cL_weigh 4 = .ok (.iload_n 2, 1) := by decide +kernel
theorem dL_weigh_5 : decode cL_weigh 5 = .ok (.invokevirtual 17, 3) := by decide +kernel
theorem dL_weigh_8 : decode cL_weigh 8 = .ok (.i2l, 1) := by decide +kernel
theorem dL_weigh_9 : decode cL_weigh 9 = .ok (.lastore, 1) := by decide +kernel
theorem dL_weigh_10 : decode cL_weigh 10 = .ok (.goto 7, 3) := by decide +kernel
theorem dL_weigh_13 : decode cL_weigh 13 = .ok (.astore 4, 2) := by decide +kernel
theorem dL_weigh_15 : decode cL_weigh 15 = .ok (.iconst 1, 1) := by decide +kernel
theorem dL_weigh_16 : decode cL_weigh 16 = .ok (.ireturn, 1) := by decide +kernel
theorem dL_weigh_17 : decode cL_weigh 17 = .ok (.iconst 0, 1) := by decide +kernel
theorem dL_weigh_18 : decode cL_weigh 18 = .ok (.ireturn, 1) := by decide +kernel
theorem dL_cost_0 : decode cL_cost 0 = .ok (.aload_n 3, 1) := by decide +kernel
theorem dL_cost_1 : decode cL_cost 1 = .ok (.iconst 0, 1) := by decide +kernel
theorem dL_cost_2 : decode cL_cost 2 = .ok (.aload_n 0, 1) := by decide +kernel
theorem dL_cost_3 : decode cL_cost 3 = .ok (.iload_n 1, 1) := by decide +kernel
theorem dL_cost_4 : decode cL_cost 4 = .ok (.iload_n 2, 1) := by decide +kernel
theorem dL_cost_5 : decode cL_cost 5 = .ok (.invokevirtual 21, 3) := by decide +kernel
theorem dL_cost_8 : decode cL_cost 8 = .ok (.lastore, 1) := by decide +kernel
theorem dL_cost_9 : decode cL_cost 9 = .ok (.goto 7, 3) := by decide +kernel
theorem dL_cost_12 : decode cL_cost 12 = .ok (.astore 4, 2) := by decide +kernel
theorem dL_cost_14 : decode cL_cost 14 = .ok (.iconst 1, 1) := by decide +kernel
theorem dL_cost_15 : decode cL_cost 15 = .ok (.ireturn, 1) := by decide +kernel
theorem dL_cost_16 : decode cL_cost 16 = .ok (.iconst 0, 1) := by decide +kernel
theorem dL_cost_17 : decode cL_cost 17 = .ok (.ireturn, 1) := by decide +kernel
theorem dL_bound_0 : decode cL_bound 0 = .ok (.aload_n 3, 1) := by decide +kernel
theorem dL_bound_1 : decode cL_bound 1 = .ok (.iconst 0, 1) := by decide +kernel
theorem dL_bound_2 : decode cL_bound 2 = .ok (.aload_n 0, 1) := by decide +kernel
theorem dL_bound_3 : decode cL_bound 3 = .ok (.iload_n 1, 1) := by decide +kernel
theorem dL_bound_4 : decode cL_bound 4 = .ok (.iload_n 2, 1) := by decide +kernel
theorem dL_bound_5 : decode cL_bound 5 = .ok (.invokevirtual 25, 3) := by decide +kernel
theorem dL_bound_8 : decode cL_bound 8 = .ok (.lastore, 1) := by decide +kernel
theorem dL_bound_9 : decode cL_bound 9 = .ok (.goto 7, 3) := by decide +kernel
theorem dL_bound_12 : decode cL_bound 12 = .ok (.astore 4, 2) := by decide +kernel
theorem dL_bound_14 : decode cL_bound 14 = .ok (.iconst 1, 1) := by decide +kernel
theorem dL_bound_15 : decode cL_bound 15 = .ok (.ireturn, 1) := by decide +kernel
theorem dL_bound_16 : decode cL_bound 16 = .ok (.iconst 0, 1) := by decide +kernel
theorem dL_bound_17 : decode cL_bound 17 = .ok (.ireturn, 1) := by decide +kernel
theorem dL_subset_0 : decode cL_subset 0 = .ok (.aload 4, 2) := by decide +kernel
theorem dL_subset_2 : decode cL_subset 2 = .ok (.iconst 0, 1) := by decide +kernel
theorem dL_subset_3 : decode cL_subset 3 = .ok (.aload_n 0, 1) := by decide +kernel
theorem dL_subset_4 : decode cL_subset 4 = .ok (.iload_n 1, 1) := by decide +kernel
theorem dL_subset_5 : decode cL_subset 5 = .ok (.iload_n 2, 1) := by decide +kernel
theorem dL_subset_6 : decode cL_subset 6 = .ok (.iload_n 3, 1) := by decide +kernel
theorem dL_subset_7 : decode cL_subset 7 = .ok (.invokevirtual 28, 3) := by decide +kernel
theorem dL_subset_10 : decode cL_subset 10 = .ok (.lastore, 1) := by decide +kernel
theorem dL_subset_11 : decode cL_subset 11 = .ok (.goto 7, 3) := by decide +kernel
theorem dL_subset_14 : decode cL_subset 14 = .ok (.astore 5, 2) := by decide +kernel
theorem dL_subset_16 : decode cL_subset 16 = .ok (.iconst 1, 1) := by decide +kernel
theorem dL_subset_17 : decode cL_subset 17 = .ok (.ireturn, 1) := by decide +kernel
theorem dL_subset_18 : decode cL_subset 18 = .ok (.iconst 0, 1) := by decide +kernel
theorem dL_subset_19 : decode cL_subset 19 = .ok (.ireturn, 1) := by decide +kernel
theorem dL_first_0 : decode cL_first 0 = .ok (.aload_n 3, 1) := by decide +kernel
theorem dL_first_1 : decode cL_first 1 = .ok (.iconst 0, 1) := by decide +kernel
theorem dL_first_2 : decode cL_first 2 = .ok (.aload_n 0, 1) := by decide +kernel
theorem dL_first_3 : decode cL_first 3 = .ok (.iload_n 1, 1) := by decide +kernel
theorem dL_first_4 : decode cL_first 4 = .ok (.iload_n 2, 1) := by decide +kernel
theorem dL_first_5 : decode cL_first 5 = .ok (.invokevirtual 32, 3) := by decide +kernel
theorem dL_first_8 : decode cL_first 8 = .ok (.i2l, 1) := by decide +kernel
theorem dL_first_9 : decode cL_first 9 = .ok (.lastore, 1) := by decide +kernel
theorem dL_first_10 : decode cL_first 10 = .ok (.goto 7, 3) := by decide +kernel
theorem dL_first_13 : decode cL_first 13 = .ok (.astore 4, 2) := by decide +kernel
theorem dL_first_15 : decode cL_first 15 = .ok (.iconst 1, 1) := by decide +kernel
theorem dL_first_16 : decode cL_first 16 = .ok (.ireturn, 1) := by decide +kernel
theorem dL_first_17 : decode cL_first 17 = .ok (.iconst 0, 1) := by decide +kernel
theorem dL_first_18 : decode cL_first 18 = .ok (.ireturn, 1) := by decide +kernel
theorem dL_law_0 : decode cL_law 0 = .ok (.new 8, 3) := by decide +kernel
theorem dL_law_3 : decode cL_law 3 = .ok (.dup, 1) := by decide +kernel
theorem dL_law_4 : decode cL_law 4 = .ok (.aload_n 0, 1) := by decide +kernel
theorem dL_law_5 : decode cL_law 5 = .ok (.iconst 0, 1) := by decide +kernel
theorem dL_law_6 : decode cL_law 6 = .ok (.invokestatic 35, 3) := by decide +kernel
theorem dL_law_9 : decode cL_law 9 = .ok (.invokespecial 41, 3) := by decide +kernel
theorem dL_law_12 : decode cL_law 12 = .ok (.astore_n 1, 1) := by decide +kernel
theorem dL_law_13 : decode cL_law 13 = .ok (.new 44, 3) := by decide +kernel
theorem dL_law_16 : decode cL_law 16 = .ok (.dup, 1) := by decide +kernel
theorem dL_law_17 : decode cL_law 17 = .ok (.aload_n 0, 1) := by decide +kernel
theorem dL_law_18 : decode cL_law 18 = .ok (.iconst 0, 1) := by decide +kernel
theorem dL_law_19 : decode cL_law 19 = .ok (.invokestatic 35, 3) := by decide +kernel
theorem dL_law_22 : decode cL_law 22 = .ok (.invokespecial 46, 3) := by decide +kernel
theorem dL_law_25 : decode cL_law 25 = .ok (.astore_n 2, 1) := by decide +kernel
theorem dL_law_26 : decode cL_law 26 = .ok (.iconst 1, 1) := by decide +kernel
theorem dL_law_27 : decode cL_law 27 = .ok (.newarray .long, 2) := by decide +kernel
theorem dL_law_29 : decode cL_law 29 = .ok (.astore_n 3, 1) := by decide +kernel
theorem dL_law_30 : decode cL_law 30 = .ok (.iconst 1, 1) := by decide +kernel
theorem dL_law_31 : decode cL_law 31 = .ok (.istore 4, 2) := by decide +kernel
theorem dL_law_33 : decode cL_law 33 = .ok (.iload 4, 2) := by decide +kernel
theorem dL_law_35 : decode cL_law 35 = .ok (.aload_n 0, 1) := by decide +kernel
theorem dL_law_36 : decode cL_law 36 = .ok (.arraylength, 1) := by decide +kernel
theorem dL_law_37 : decode cL_law 37 = .ok (.bipush 6, 2) := by decide +kernel
theorem dL_law_39 : decode cL_law 39 = .ok (.isub, 1) := by decide +kernel
theorem dL_law_40 : decode cL_law 40 = .ok (.if_icmp .gt 710, 3) := by decide +kernel
theorem dL_law_43 : decode cL_law 43 = .ok (.aload_n 0, 1) := by decide +kernel
theorem dL_law_44 : decode cL_law 44 = .ok (.iload 4, 2) := by decide +kernel
theorem dL_law_46 : decode cL_law 46 = .ok (.iaload, 1) := by decide +kernel
theorem dL_law_47 : decode cL_law 47 = .ok (.bipush 15, 2) := by decide +kernel
theorem dL_law_49 : decode cL_law 49 = .ok (.iand, 1) := by decide +kernel
theorem dL_law_50 : decode cL_law 50 = .ok (.tableswitch 694 0 14 #[74, 87, 191, 204, 272, 285, 352, 419, 498, 566, 580, 605, 618, 631, 668], 74) := by decide +kernel
theorem dL_law_124 : decode cL_law 124 = .ok (.aload_n 1, 1) := by decide +kernel
theorem dL_law_125 : decode cL_law 125 = .ok (.invokevirtual 47, 3) := by decide +kernel
theorem dL_law_128 : decode cL_law 128 = .ok (.aload_n 2, 1) := by decide +kernel
theorem dL_law_129 : decode cL_law 129 = .ok (.invokevirtual 51, 3) := by decide +kernel
theorem dL_law_132 : decode cL_law 132 = .ok (.if_icmp .eq 612, 3) := by decide +kernel
theorem dL_law_135 : decode cL_law 135 = .ok (.iconst 0, 1) := by decide +kernel
theorem dL_law_136 : decode cL_law 136 = .ok (.ireturn, 1) := by decide +kernel
theorem dL_law_137 : decode cL_law 137 = .ok (.aload_n 1, 1) := by decide +kernel
theorem dL_law_138 : decode cL_law 138 = .ok (.aload_n 0, 1) := by decide +kernel
theorem dL_law_139 : decode cL_law 139 = .ok (.iload 4, 2) := by decide +kernel
theorem dL_law_141 : decode cL_law 141 = .ok (.iconst 1, 1) := by decide +kernel
theorem dL_law_142 : decode cL_law 142 = .ok (.iadd, 1) := by decide +kernel
theorem dL_law_143 : decode cL_law 143 = .ok (.iaload, 1) := by decide +kernel
theorem dL_law_144 : decode cL_law 144 = .ok (.aload_n 0, 1) := by decide +kernel
theorem dL_law_145 : decode cL_law 145 = .ok (.iload 4, 2) := by decide +kernel
theorem dL_law_147 : decode cL_law 147 = .ok (.iconst 2, 1) := by decide +kernel
theorem dL_law_148 : decode cL_law 148 = .ok (.iadd, 1) := by decide +kernel
theorem dL_law_149 : decode cL_law 149 = .ok (.iaload, 1) := by decide +kernel
theorem dL_law_150 : decode cL_law 150 = .ok (.aload_n 0, 1) := by decide +kernel
theorem dL_law_151 : decode cL_law 151 = .ok (.iload 4, 2) := by decide +kernel
theorem dL_law_153 : decode cL_law 153 = .ok (.iconst 3, 1) := by decide +kernel
theorem dL_law_154 : decode cL_law 154 = .ok (.iadd, 1) := by decide +kernel
theorem dL_law_155 : decode cL_law 155 = .ok (.iaload, 1) := by decide +kernel
theorem dL_law_156 : decode cL_law 156 = .ok (.aload_n 0, 1) := by decide +kernel
theorem dL_law_157 : decode cL_law 157 = .ok (.iload 4, 2) := by decide +kernel
theorem dL_law_159 : decode cL_law 159 = .ok (.iconst 4, 1) := by decide +kernel
theorem dL_law_160 : decode cL_law 160 = .ok (.iadd, 1) := by decide +kernel
theorem dL_law_161 : decode cL_law 161 = .ok (.iaload, 1) := by decide +kernel
theorem dL_law_162 : decode cL_law 162 = .ok (.aload_n 0, 1) := by decide +kernel
theorem dL_law_163 : decode cL_law 163 = .ok (.iload 4, 2) := by decide +kernel
theorem dL_law_165 : decode cL_law 165 = .ok (.iconst 5, 1) := by decide +kernel
theorem dL_law_166 : decode cL_law 166 = .ok (.iadd, 1) := by decide +kernel
theorem dL_law_167 : decode cL_law 167 = .ok (.iaload, 1) := by decide +kernel
theorem dL_law_168 : decode cL_law 168 = .ok (.aload_n 3, 1) := by decide +kernel
theorem dL_law_169 : decode cL_law 169 = .ok (.invokestatic 52, 3) := by decide +kernel
theorem dL_law_172 : decode cL_law 172 = .ok (.istore 5, 2) := by decide +kernel
theorem dL_law_174 : decode cL_law 174 = .ok (.aload_n 2, 1) := by decide +kernel
theorem dL_law_175 : decode cL_law 175 = .ok (.aload_n 0, 1) := by decide +kernel
theorem dL_law_176 : decode cL_law 176 = .ok (.iload 4, 2) := by decide +kernel
theorem dL_law_178 : decode cL_law 178 = .ok (.iconst 1, 1) := by decide +kernel
end
section
theorem dL_law_179 : decode cL_law 179 = .ok (.iadd, 1) := by decide +kernel
theorem dL_law_180 : decode cL_law 180 = .ok (.iaload, 1) := by decide +kernel
theorem dL_law_181 : decode cL_law 181 = .ok (.aload_n 0, 1) := by decide +kernel
theorem dL_law_182 : decode cL_law 182 = .ok (.iload 4, 2) := by decide +kernel
theorem dL_law_184 : decode cL_law 184 = .ok (.iconst 2, 1) := by decide +kernel
theorem dL_law_185 : decode cL_law 185 = .ok (.iadd, 1) := by decide +kernel
theorem dL_law_186 : decode cL_law 186 = .ok (.iaload, 1) := by decide +kernel
theorem dL_law_187 : decode cL_law 187 = .ok (.aload_n 0, 1) := by decide +kernel
theorem dL_law_188 : decode cL_law 188 = .ok (.iload 4, 2) := by decide +kernel
theorem dL_law_190 : decode cL_law 190 = .ok (.iconst 3, 1) := by decide +kernel
theorem dL_law_191 : decode cL_law 191 = .ok (.iadd, 1) := by decide +kernel
theorem dL_law_192 : decode cL_law 192 = .ok (.iaload, 1) := by decide +kernel
theorem dL_law_193 : decode cL_law 193 = .ok (.aload_n 0, 1) := by decide +kernel
theorem dL_law_194 : decode cL_law 194 = .ok (.iload 4, 2) := by decide +kernel
theorem dL_law_196 : decode cL_law 196 = .ok (.iconst 4, 1) := by decide +kernel
theorem dL_law_197 : decode cL_law 197 = .ok (.iadd, 1) := by decide +kernel
theorem dL_law_198 : decode cL_law 198 = .ok (.iaload, 1) := by decide +kernel
theorem dL_law_199 : decode cL_law 199 = .ok (.aload_n 0, 1) := by decide +kernel
theorem dL_law_200 : decode cL_law 200 = .ok (.iload 4, 2) := by decide +kernel
theorem dL_law_202 : decode cL_law 202 = .ok (.iconst 5, 1) := by decide +kernel
theorem dL_law_203 : decode cL_law 203 = .ok (.iadd, 1) := by decide +kernel
theorem dL_law_204 : decode cL_law 204 = .ok (.iaload, 1) := by decide +kernel
theorem dL_law_205 : decode cL_law 205 = .ok (.invokevirtual 55, 3) := by decide +kernel
theorem dL_law_208 : decode cL_law 208 = .ok (.istore 6, 2) := by decide +kernel
theorem dL_law_210 : decode cL_law 210 = .ok (.aload_n 2, 1) := by decide +kernel
theorem dL_law_211 : decode cL_law 211 = .ok (.invokevirtual 56, 3) := by decide +kernel
theorem dL_law_214 : decode cL_law 214 = .ok (.iload 5, 2) := by decide +kernel
theorem dL_law_216 : decode cL_law 216 = .ok (.if_icmp .eq 5, 3) := by decide +kernel
theorem dL_law_219 : decode cL_law 219 = .ok (.iconst 0, 1) := by decide +kernel
theorem dL_law_220 : decode cL_law 220 = .ok (.ireturn, 1) := by decide +kernel
theorem dL_law_221 : decode cL_law 221 = .ok (.iload 5, 2) := by decide +kernel
theorem dL_law_223 : decode cL_law 223 = .ok (.ifCond .ne 15, 3) := by decide +kernel
theorem dL_law_226 : decode cL_law 226 = .ok (.aload_n 3, 1) := by decide +kernel
theorem dL_law_227 : decode cL_law 227 = .ok (.iconst 0, 1) := by decide +kernel
theorem dL_law_228 : decode cL_law 228 = .ok (.laload, 1) := by decide +kernel
theorem dL_law_229 : decode cL_law 229 = .ok (.iload 6, 2) := by decide +kernel
theorem dL_law_231 : decode cL_law 231 = .ok (.i2l, 1) := by decide +kernel
theorem dL_law_232 : decode cL_law 232 = .ok (.lcmp, 1) := by decide +kernel
theorem dL_law_233 : decode cL_law 233 = .ok (.ifCond .eq 5, 3) := by decide +kernel
theorem dL_law_236 : decode cL_law 236 = .ok (.iconst 0, 1) := by decide +kernel
theorem dL_law_237 : decode cL_law 237 = .ok (.ireturn, 1) := by decide +kernel
theorem dL_law_238 : decode cL_law 238 = .ok (.goto 506, 3) := by decide +kernel
theorem dL_law_241 : decode cL_law 241 = .ok (.aload_n 1, 1) := by decide +kernel
theorem dL_law_242 : decode cL_law 242 = .ok (.invokevirtual 59, 3) := by decide +kernel
theorem dL_law_245 : decode cL_law 245 = .ok (.aload_n 2, 1) := by decide +kernel
theorem dL_law_246 : decode cL_law 246 = .ok (.invokevirtual 62, 3) := by decide +kernel
theorem dL_law_249 : decode cL_law 249 = .ok (.if_icmp .eq 495, 3) := by decide +kernel
theorem dL_law_252 : decode cL_law 252 = .ok (.iconst 0, 1) := by decide +kernel
theorem dL_law_253 : decode cL_law 253 = .ok (.ireturn, 1) := by decide +kernel
theorem dL_law_254 : decode cL_law 254 = .ok (.aload_n 1, 1) := by decide +kernel
theorem dL_law_255 : decode cL_law 255 = .ok (.aload_n 0, 1) := by decide +kernel
theorem dL_law_256 : decode cL_law 256 = .ok (.iload 4, 2) := by decide +kernel
theorem dL_law_258 : decode cL_law 258 = .ok (.iconst 1, 1) := by decide +kernel
theorem dL_law_259 : decode cL_law 259 = .ok (.iadd, 1) := by decide +kernel
theorem dL_law_260 : decode cL_law 260 = .ok (.iaload, 1) := by decide +kernel
theorem dL_law_261 : decode cL_law 261 = .ok (.aload_n 0, 1) := by decide +kernel
theorem dL_law_262 : decode cL_law 262 = .ok (.iload 4, 2) := by decide +kernel
theorem dL_law_264 : decode cL_law 264 = .ok (.iconst 2, 1) := by decide +kernel
theorem dL_law_265 : decode cL_law 265 = .ok (.iadd, 1) := by decide +kernel
theorem dL_law_266 : decode cL_law 266 = .ok (.iaload, 1) := by decide +kernel
theorem dL_law_267 : decode cL_law 267 = .ok (.aload_n 3, 1) := by decide +kernel
theorem dL_law_268 : decode cL_law 268 = .ok (.invokestatic 63, 3) := by decide +kernel
theorem dL_law_271 : decode cL_law 271 = .ok (.istore 5, 2) := by decide +kernel
theorem dL_law_273 : decode cL_law 273 = .ok (.aload_n 2, 1) := by decide +kernel
theorem dL_law_274 : decode cL_law 274 = .ok (.aload_n 0, 1) := by decide +kernel
theorem dL_law_275 : decode cL_law 275 = .ok (.iload 4, 2) := by decide +kernel
theorem dL_law_277 : decode cL_law 277 = .ok (.iconst 1, 1) := by decide +kernel
theorem dL_law_278 : decode cL_law 278 = .ok (.iadd, 1) := by decide +kernel
theorem dL_law_279 : decode cL_law 279 = .ok (.iaload, 1) := by decide +kernel
theorem dL_law_280 : decode cL_law 280 = .ok (.aload_n 0, 1) := by decide +kernel
theorem dL_law_281 : decode cL_law 281 = .ok (.iload 4, 2) := by decide +kernel
theorem dL_law_283 : decode cL_law 283 = .ok (.iconst 2, 1) := by decide +kernel
theorem dL_law_284 : decode cL_law 284 = .ok (.iadd, 1) := by decide +kernel
theorem dL_law_285 : decode cL_law 285 = .ok (.iaload, 1) := by decide +kernel
theorem dL_law_286 : decode cL_law 286 = .ok (.invokevirtual 66, 3) := by decide +kernel
theorem dL_law_289 : decode cL_law 289 = .ok (.istore 6, 2) := by decide +kernel
theorem dL_law_291 : decode cL_law 291 = .ok (.aload_n 2, 1) := by decide +kernel
theorem dL_law_292 : decode cL_law 292 = .ok (.invokevirtual 56, 3) := by decide +kernel
theorem dL_law_295 : decode cL_law 295 = .ok (.iload 5, 2) := by decide +kernel
theorem dL_law_297 : decode cL_law 297 = .ok (.if_icmp .eq 5, 3) := by decide +kernel
theorem dL_law_300 : decode cL_law 300 = .ok (.iconst 0, 1) := by decide +kernel
theorem dL_law_301 : decode cL_law 301 = .ok (.ireturn, 1) := by decide +kernel
theorem dL_law_302 : decode cL_law 302 = .ok (.iload 5, 2) := by decide +kernel
theorem dL_law_304 : decode cL_law 304 = .ok (.ifCond .ne 15, 3) := by decide +kernel
theorem dL_law_307 : decode cL_law 307 = .ok (.aload_n 3, 1) := by decide +kernel
theorem dL_law_308 : decode cL_law 308 = .ok (.iconst 0, 1) := by decide +kernel
theorem dL_law_309 : decode cL_law 309 = .ok (.laload, 1) := by decide +kernel
theorem dL_law_310 : decode cL_law 310 = .ok (.iload 6, 2) := by decide +kernel
theorem dL_law_312 : decode cL_law 312 = .ok (.i2l, 1) := by decide +kernel
theorem dL_law_313 : decode cL_law 313 = .ok (.lcmp, 1) := by decide +kernel
theorem dL_law_314 : decode cL_law 314 = .ok (.ifCond .eq 5, 3) := by decide +kernel
theorem dL_law_317 : decode cL_law 317 = .ok (.iconst 0, 1) := by decide +kernel
theorem dL_law_318 : decode cL_law 318 = .ok (.ireturn, 1) := by decide +kernel
theorem dL_law_319 : decode cL_law 319 = .ok (.goto 425, 3) := by decide +kernel
theorem dL_law_322 : decode cL_law 322 = .ok (.aload_n 1, 1) := by decide +kernel
theorem dL_law_323 : decode cL_law 323 = .ok (.invokevirtual 67, 3) := by decide +kernel
theorem dL_law_326 : decode cL_law 326 = .ok (.aload_n 2, 1) := by decide +kernel
theorem dL_law_327 : decode cL_law 327 = .ok (.invokevirtual 70, 3) := by decide +kernel
theorem dL_law_330 : decode cL_law 330 = .ok (.if_icmp .eq 414, 3) := by decide +kernel
theorem dL_law_333 : decode cL_law 333 = .ok (.iconst 0, 1) := by decide +kernel
theorem dL_law_334 : decode cL_law 334 = .ok (.ireturn, 1) := by decide +kernel
theorem dL_law_335 : decode cL_law 335 = .ok (.aload_n 1, 1) := by decide +kernel
theorem dL_law_336 : decode cL_law 336 = .ok (.aload_n 0, 1) := by decide +kernel
theorem dL_law_337 : decode cL_law 337 = .ok (.iload 4, 2) := by decide +kernel
theorem dL_law_339 : decode cL_law 339 = .ok (.iconst 1, 1) := by decide +kernel
theorem dL_law_340 : decode cL_law 340 = .ok (.iadd, 1) := by decide +kernel
theorem dL_law_341 : decode cL_law 341 = .ok (.iaload, 1) := by decide +kernel
theorem dL_law_342 : decode cL_law 342 = .ok (.aload_n 0, 1) := by decide +kernel
theorem dL_law_343 : decode cL_law 343 = .ok (.iload 4, 2) := by decide +kernel
theorem dL_law_345 : decode cL_law 345 = .ok (.iconst 2, 1) := by decide +kernel
theorem dL_law_346 : decode cL_law 346 = .ok (.iadd, 1) := by decide +kernel
theorem dL_law_347 : decode cL_law 347 = .ok (.iaload, 1) := by decide +kernel
theorem dL_law_348 : decode cL_law 348 = .ok (.aload_n 3, 1) := by decide +kernel
theorem dL_law_349 : decode cL_law 349 = .ok (.invokestatic 71, 3) := by decide +kernel
theorem dL_law_352 : decode cL_law 352 = .ok (.istore 5, 2) := by decide +kernel
theorem dL_law_354 : decode cL_law 354 = .ok (.aload_n 2, 1) := by decide +kernel
theorem dL_law_355 : decode cL_law 355 = .ok (.aload_n 0, 1) := by decide +kernel
theorem dL_law_356 : decode cL_law 356 = .ok (.iload 4, 2) := by decide +kernel
theorem dL_law_358 : decode cL_law 358 = .ok (.iconst 1, 1) := by decide +kernel
theorem dL_law_359 : decode cL_law 359 = .ok (.iadd, 1) := by decide +kernel
theorem dL_law_360 : decode cL_law 360 = .ok (.iaload, 1) := by decide +kernel
theorem dL_law_361 : decode cL_law 361 = .ok (.aload_n 0, 1) := by decide +kernel
theorem dL_law_362 : decode cL_law 362 = .ok (.iload 4, 2) := by decide +kernel
theorem dL_law_364 : decode cL_law 364 = .ok (.iconst 2, 1) := by decide +kernel
theorem dL_law_365 : decode cL_law 365 = .ok (.iadd, 1) := by decide +kernel
theorem dL_law_366 : decode cL_law 366 = .ok (.iaload, 1) := by decide +kernel
theorem dL_law_367 : decode cL_law 367 = .ok (.invokevirtual 73, 3) := by decide +kernel
theorem dL_law_370 : decode cL_law 370 = .ok (.lstore 6, 2) := by decide +kernel
theorem dL_law_372 : decode cL_law 372 = .ok (.aload_n 2, 1) := by decide +kernel
theorem dL_law_373 : decode cL_law 373 = .ok (.invokevirtual 56, 3) := by decide +kernel
theorem dL_law_376 : decode cL_law 376 = .ok (.iload 5, 2) := by decide +kernel
theorem dL_law_378 : decode cL_law 378 = .ok (.if_icmp .eq 5, 3) := by decide +kernel
theorem dL_law_381 : decode cL_law 381 = .ok (.iconst 0, 1) := by decide +kernel
theorem dL_law_382 : decode cL_law 382 = .ok (.ireturn, 1) := by decide +kernel
theorem dL_law_383 : decode cL_law 383 = .ok (.iload 5, 2) := by decide +kernel
theorem dL_law_385 : decode cL_law 385 = .ok (.ifCond .ne 14, 3) := by decide +kernel
theorem dL_law_388 : decode cL_law 388 = .ok (.aload_n 3, 1) := by decide +kernel
theorem dL_law_389 : decode cL_law 389 = .ok (.iconst 0, 1) := by decide +kernel
theorem dL_law_390 : decode cL_law 390 = .ok (.laload, 1) := by decide +kernel
theorem dL_law_391 : decode cL_law 391 = .ok (.lload 6, 2) := by decide +kernel
theorem dL_law_393 : decode cL_law 393 = .ok (.lcmp, 1) := by decide +kernel
theorem dL_law_394 : decode cL_law 394 = .ok (.ifCond .eq 5, 3) := by decide +kernel
theorem dL_law_397 : decode cL_law 397 = .ok (.iconst 0, 1) := by decide +kernel
theorem dL_law_398 : decode cL_law 398 = .ok (.ireturn, 1) := by decide +kernel
theorem dL_law_399 : decode cL_law 399 = .ok (.goto 345, 3) := by decide +kernel
theorem dL_law_402 : decode cL_law 402 = .ok (.aload_n 1, 1) := by decide +kernel
theorem dL_law_403 : decode cL_law 403 = .ok (.aload_n 0, 1) := by decide +kernel
theorem dL_law_404 : decode cL_law 404 = .ok (.iload 4, 2) := by decide +kernel
theorem dL_law_406 : decode cL_law 406 = .ok (.iconst 1, 1) := by decide +kernel
theorem dL_law_407 : decode cL_law 407 = .ok (.iadd, 1) := by decide +kernel
theorem dL_law_408 : decode cL_law 408 = .ok (.iaload, 1) := by decide +kernel
theorem dL_law_409 : decode cL_law 409 = .ok (.aload_n 0, 1) := by decide +kernel
theorem dL_law_410 : decode cL_law 410 = .ok (.iload 4, 2) := by decide +kernel
theorem dL_law_412 : decode cL_law 412 = .ok (.iconst 2, 1) := by decide +kernel
theorem dL_law_413 : decode cL_law 413 = .ok (.iadd, 1) := by decide +kernel
theorem dL_law_414 : decode cL_law 414 = .ok (.iaload, 1) := by decide +kernel
theorem dL_law_415 : decode cL_law 415 = .ok (.aload_n 3, 1) := by decide +kernel
theorem dL_law_416 : decode cL_law 416 = .ok (.invokestatic 74, 3) := by decide +kernel
theorem dL_law_419 : decode cL_law 419 = .ok (.istore 5, 2) := by decide +kernel
theorem dL_law_421 : decode cL_law 421 = .ok (.aload_n 2, 1) := by decide +kernel
theorem dL_law_422 : decode cL_law 422 = .ok (.aload_n 0, 1) := by decide +kernel
theorem dL_law_423 : decode cL_law 423 = .ok (.iload 4, 2) := by decide +kernel
theorem dL_law_425 : decode cL_law 425 = .ok (.iconst 1, 1) := by decide +kernel
theorem dL_law_426 : decode cL_law 426 = .ok (.iadd, 1) := by decide +kernel
theorem dL_law_427 : decode cL_law 427 = .ok (.iaload, 1) := by decide +kernel
theorem dL_law_428 : decode cL_law 428 = .ok (.aload_n 0, 1) := by decide +kernel
theorem dL_law_429 : decode cL_law 429 = .ok (.iload 4, 2) := by decide +kernel
theorem dL_law_431 : decode cL_law 431 = .ok (.iconst 2, 1) := by decide +kernel
theorem dL_law_432 : decode cL_law 432 = .ok (.iadd, 1) := by decide +kernel
theorem dL_law_433 : decode cL_law 433 = .ok (.iaload, 1) := by decide +kernel
theorem dL_law_434 : decode cL_law 434 = .ok (.invokevirtual 76, 3) := by decide +kernel
theorem dL_law_437 : decode cL_law 437 = .ok (.lstore 6, 2) := by decide +kernel
theorem dL_law_439 : decode cL_law 439 = .ok (.aload_n 2, 1) := by decide +kernel
theorem dL_law_440 : decode cL_law 440 = .ok (.invokevirtual 56, 3) := by decide +kernel
theorem dL_law_443 : decode cL_law 443 = .ok (.iload 5, 2) := by decide +kernel
theorem dL_law_445 : decode cL_law 445 = .ok (.if_icmp .eq 5, 3) := by decide +kernel
theorem dL_law_448 : decode cL_law 448 = .ok (.iconst 0, 1) := by decide +kernel
theorem dL_law_449 : decode cL_law 449 = .ok (.ireturn, 1) := by decide +kernel
theorem dL_law_450 : decode cL_law 450 = .ok (.iload 5, 2) := by decide +kernel
theorem dL_law_452 : decode cL_law 452 = .ok (.ifCond .ne 14, 3) := by decide +kernel
theorem dL_law_455 : decode cL_law 455 = .ok (.aload_n 3, 1) := by decide +kernel
theorem dL_law_456 : decode cL_law 456 = .ok (.iconst 0, 1) := by decide +kernel
theorem dL_law_457 : decode cL_law 457 = .ok (.laload, 1) := by decide +kernel
theorem dL_law_458 : decode cL_law 458 = .ok (.lload 6, 2) := by decide +kernel
theorem dL_law_460 : decode cL_law 460 = .ok (.lcmp, 1) := by decide +kernel
theorem dL_law_461 : decode cL_law 461 = .ok (.ifCond .eq 5, 3) := by decide +kernel
theorem dL_law_464 : decode cL_law 464 = .ok (.iconst 0, 1) := by decide +kernel
theorem dL_law_465 : decode cL_law 465 = .ok (.ireturn, 1) := by decide +kernel
theorem dL_law_466 : decode cL_law 466 = .ok (.goto 278, 3) := by decide +kernel
theorem dL_law_469 : decode cL_law 469 = .ok (.aload_n 1, 1) := by decide +kernel
theorem dL_law_470 : decode cL_law 470 = .ok (.aload_n 0, 1) := by decide +kernel
theorem dL_law_471 : decode cL_law 471 = .ok (.iload 4, 2) := by decide +kernel
theorem dL_law_473 : decode cL_law 473 = .ok (.iconst 1, 1) := by decide +kernel
theorem dL_law_474 : decode cL_law 474 = .ok (.iadd, 1) := by decide +kernel
theorem dL_law_475 : decode cL_law 475 = .ok (.iaload, 1) := by decide +kernel
theorem dL_law_476 : decode cL_law 476 = .ok (.aload_n 0, 1) := by decide +kernel
theorem dL_law_477 : decode cL_law 477 = .ok (.iload 4, 2) := by decide +kernel
theorem dL_law_479 : decode cL_law 479 = .ok (.iconst 2, 1) := by decide +kernel
theorem dL_law_480 : decode cL_law 480 = .ok (.iadd, 1) := by decide +kernel
theorem dL_law_481 : decode cL_law 481 = .ok (.iaload, 1) := by decide +kernel
theorem dL_law_482 : decode cL_law 482 = .ok (.aload_n 0, 1) := by decide +kernel
theorem dL_law_483 : decode cL_law 483 = .ok (.iload 4, 2) := by decide +kernel
theorem dL_law_485 : decode cL_law 485 = .ok (.iconst 3, 1) := by decide +kernel
theorem dL_law_486 : decode cL_law 486 = .ok (.iadd, 1) := by decide +kernel
theorem dL_law_487 : decode cL_law 487 = .ok (.iaload, 1) := by decide +kernel
theorem dL_law_488 : decode cL_law 488 = .ok (.aload_n 3, 1) := by decide +kernel
theorem dL_law_489 : decode cL_law 489 = .ok (.invokestatic 77, 3) := by decide +kernel
theorem dL_law_492 : decode cL_law 492 = .ok (.istore 5, 2) := by decide +kernel
theorem dL_law_494 : decode cL_law 494 = .ok (.aload_n 2, 1) := by decide +kernel
theorem dL_law_495 : decode cL_law 495 = .ok (.aload_n 0, 1) := by decide +kernel
theorem dL_law_496 : decode cL_law 496 = .ok (.iload 4, 2) := by decide +kernel
theorem dL_law_498 : decode cL_law 498 = .ok (.iconst 1, 1) := by decide +kernel
theorem dL_law_499 : decode cL_law 499 = .ok (.iadd, 1) := by decide +kernel
theorem dL_law_500 : decode cL_law 500 = .ok (.iaload, 1) := by decide +kernel
theorem dL_law_501 : decode cL_law 501 = .ok (.aload_n 0, 1) := by decide +kernel
theorem dL_law_502 : decode cL_law 502 = .ok (.iload 4, 2) := by decide +kernel
theorem dL_law_504 : decode cL_law 504 = .ok (.iconst 2, 1) := by decide +kernel
theorem dL_law_505 : decode cL_law 505 = .ok (.iadd, 1) := by decide +kernel
theorem dL_law_506 : decode cL_law 506 = .ok (.iaload, 1) := by decide +kernel
theorem dL_law_507 : decode cL_law 507 = .ok (.aload_n 0, 1) := by decide +kernel
theorem dL_law_508 : decode cL_law 508 = .ok (.iload 4, 2) := by decide +kernel
theorem dL_law_510 : decode cL_law 510 = .ok (.iconst 3, 1) := by decide +kernel
theorem dL_law_511 : decode cL_law 511 = .ok (.iadd, 1) := by decide +kernel
theorem dL_law_512 : decode cL_law 512 = .ok (.iaload, 1) := by decide +kernel
theorem dL_law_513 : decode cL_law 513 = .ok (.invokevirtual 80, 3) := by decide +kernel
theorem dL_law_516 : decode cL_law 516 = .ok (.lstore 6, 2) := by decide +kernel
theorem dL_law_518 : decode cL_law 518 = .ok (.aload_n 2, 1) := by decide +kernel
theorem dL_law_519 : decode cL_law 519 = .ok (.invokevirtual 56, 3) := by decide +kernel
theorem dL_law_522 : decode cL_law 522 = .ok (.iload 5, 2) := by decide +kernel
theorem dL_law_524 : decode cL_law 524 = .ok (.if_icmp .eq 5, 3) := by decide +kernel
theorem dL_law_527 : decode cL_law 527 = .ok (.iconst 0, 1) := by decide +kernel
theorem dL_law_528 : decode cL_law 528 = .ok (.ireturn, 1) := by decide +kernel
theorem dL_law_529 : decode cL_law 529 = .ok (.iload 5, 2) := by decide +kernel
theorem dL_law_531 : decode cL_law 531 = .ok (.ifCond .ne 14, 3) := by decide +kernel
theorem dL_law_534 : decode cL_law 534 = .ok (.aload_n 3, 1) := by decide +kernel
theorem dL_law_535 : decode cL_law 535 = .ok (.iconst 0, 1) := by decide +kernel
theorem dL_law_536 : decode cL_law 536 = .ok (.laload, 1) := by decide +kernel
theorem dL_law_537 : decode cL_law 537 = .ok (.lload 6, 2) := by decide +kernel
theorem dL_law_539 : decode cL_law 539 = .ok (.lcmp, 1) := by decide +kernel
theorem dL_law_540 : decode cL_law 540 = .ok (.ifCond .eq 5, 3) := by decide +kernel
theorem dL_law_543 : decode cL_law 543 = .ok (.iconst 0, 1) := by decide +kernel
theorem dL_law_544 : decode cL_law 544 = .ok (.ireturn, 1) := by decide +kernel
theorem dL_law_545 : decode cL_law 545 = .ok (.goto 199, 3) := by decide +kernel
theorem dL_law_548 : decode cL_law 548 = .ok (.aload_n 1, 1) := by decide +kernel
theorem dL_law_549 : decode cL_law 549 = .ok (.aload_n 0, 1) := by decide +kernel
theorem dL_law_550 : decode cL_law 550 = .ok (.iload 4, 2) := by decide +kernel
theorem dL_law_552 : decode cL_law 552 = .ok (.iconst 1, 1) := by decide +kernel
theorem dL_law_553 : decode cL_law 553 = .ok (.iadd, 1) := by decide +kernel
theorem dL_law_554 : decode cL_law 554 = .ok (.iaload, 1) := by decide +kernel
theorem dL_law_555 : decode cL_law 555 = .ok (.aload_n 0, 1) := by decide +kernel
theorem dL_law_556 : decode cL_law 556 = .ok (.iload 4, 2) := by decide +kernel
theorem dL_law_558 : decode cL_law 558 = .ok (.iconst 2, 1) := by decide +kernel
theorem dL_law_559 : decode cL_law 559 = .ok (.iadd, 1) := by decide +kernel
theorem dL_law_560 : decode cL_law 560 = .ok (.iaload, 1) := by decide +kernel
theorem dL_law_561 : decode cL_law 561 = .ok (.aload_n 3, 1) := by decide +kernel
theorem dL_law_562 : decode cL_law 562 = .ok (.invokestatic 81, 3) := by decide +kernel
theorem dL_law_565 : decode cL_law 565 = .ok (.istore 5, 2) := by decide +kernel
theorem dL_law_567 : decode cL_law 567 = .ok (.aload_n 2, 1) := by decide +kernel
theorem dL_law_568 : decode cL_law 568 = .ok (.aload_n 0, 1) := by decide +kernel
theorem dL_law_569 : decode cL_law 569 = .ok (.iload 4, 2) := by decide +kernel
end
section
theorem dL_law_571 : decode cL_law 571 = .ok (.iconst 1, 1) := by decide +kernel
theorem dL_law_572 : decode cL_law 572 = .ok (.iadd, 1) := by decide +kernel
theorem dL_law_573 : decode cL_law 573 = .ok (.iaload, 1) := by decide +kernel
theorem dL_law_574 : decode cL_law 574 = .ok (.aload_n 0, 1) := by decide +kernel
theorem dL_law_575 : decode cL_law 575 = .ok (.iload 4, 2) := by decide +kernel
theorem dL_law_577 : decode cL_law 577 = .ok (.iconst 2, 1) := by decide +kernel
theorem dL_law_578 : decode cL_law 578 = .ok (.iadd, 1) := by decide +kernel
theorem dL_law_579 : decode cL_law 579 = .ok (.iaload, 1) := by decide +kernel
theorem dL_law_580 : decode cL_law 580 = .ok (.invokevirtual 83, 3) := by decide +kernel
theorem dL_law_583 : decode cL_law 583 = .ok (.istore 6, 2) := by decide +kernel
theorem dL_law_585 : decode cL_law 585 = .ok (.aload_n 2, 1) := by decide +kernel
theorem dL_law_586 : decode cL_law 586 = .ok (.invokevirtual 56, 3) := by decide +kernel
theorem dL_law_589 : decode cL_law 589 = .ok (.iload 5, 2) := by decide +kernel
theorem dL_law_591 : decode cL_law 591 = .ok (.if_icmp .eq 5, 3) := by decide +kernel
theorem dL_law_594 : decode cL_law 594 = .ok (.iconst 0, 1) := by decide +kernel
theorem dL_law_595 : decode cL_law 595 = .ok (.ireturn, 1) := by decide +kernel
theorem dL_law_596 : decode cL_law 596 = .ok (.iload 5, 2) := by decide +kernel
theorem dL_law_598 : decode cL_law 598 = .ok (.ifCond .ne 15, 3) := by decide +kernel
theorem dL_law_601 : decode cL_law 601 = .ok (.aload_n 3, 1) := by decide +kernel
theorem dL_law_602 : decode cL_law 602 = .ok (.iconst 0, 1) := by decide +kernel
theorem dL_law_603 : decode cL_law 603 = .ok (.laload, 1) := by decide +kernel
theorem dL_law_604 : decode cL_law 604 = .ok (.iload 6, 2) := by decide +kernel
theorem dL_law_606 : decode cL_law 606 = .ok (.i2l, 1) := by decide +kernel
theorem dL_law_607 : decode cL_law 607 = .ok (.lcmp, 1) := by decide +kernel
theorem dL_law_608 : decode cL_law 608 = .ok (.ifCond .eq 5, 3) := by decide +kernel
theorem dL_law_611 : decode cL_law 611 = .ok (.iconst 0, 1) := by decide +kernel
theorem dL_law_612 : decode cL_law 612 = .ok (.ireturn, 1) := by decide +kernel
theorem dL_law_613 : decode cL_law 613 = .ok (.goto 131, 3) := by decide +kernel
theorem dL_law_616 : decode cL_law 616 = .ok (.aload_n 1, 1) := by decide +kernel
theorem dL_law_617 : decode cL_law 617 = .ok (.invokevirtual 84, 3) := by decide +kernel
theorem dL_law_620 : decode cL_law 620 = .ok (.aload_n 2, 1) := by decide +kernel
theorem dL_law_621 : decode cL_law 621 = .ok (.invokevirtual 88, 3) := by decide +kernel
theorem dL_law_624 : decode cL_law 624 = .ok (.lcmp, 1) := by decide +kernel
theorem dL_law_625 : decode cL_law 625 = .ok (.ifCond .eq 119, 3) := by decide +kernel
theorem dL_law_628 : decode cL_law 628 = .ok (.iconst 0, 1) := by decide +kernel
theorem dL_law_629 : decode cL_law 629 = .ok (.ireturn, 1) := by decide +kernel
theorem dL_law_630 : decode cL_law 630 = .ok (.aload_n 1, 1) := by decide +kernel
theorem dL_law_631 : decode cL_law 631 = .ok (.aload_n 0, 1) := by decide +kernel
theorem dL_law_632 : decode cL_law 632 = .ok (.iload 4, 2) := by decide +kernel
theorem dL_law_634 : decode cL_law 634 = .ok (.iconst 1, 1) := by decide +kernel
theorem dL_law_635 : decode cL_law 635 = .ok (.iadd, 1) := by decide +kernel
theorem dL_law_636 : decode cL_law 636 = .ok (.iaload, 1) := by decide +kernel
theorem dL_law_637 : decode cL_law 637 = .ok (.invokevirtual 89, 3) := by decide +kernel
theorem dL_law_640 : decode cL_law 640 = .ok (.aload_n 2, 1) := by decide +kernel
theorem dL_law_641 : decode cL_law 641 = .ok (.aload_n 0, 1) := by decide +kernel
theorem dL_law_642 : decode cL_law 642 = .ok (.iload 4, 2) := by decide +kernel
theorem dL_law_644 : decode cL_law 644 = .ok (.iconst 1, 1) := by decide +kernel
theorem dL_law_645 : decode cL_law 645 = .ok (.iadd, 1) := by decide +kernel
theorem dL_law_646 : decode cL_law 646 = .ok (.iaload, 1) := by decide +kernel
theorem dL_law_647 : decode cL_law 647 = .ok (.invokevirtual 93, 3) := by decide +kernel
theorem dL_law_650 : decode cL_law 650 = .ok (.if_icmp .eq 94, 3) := by decide +kernel
theorem dL_law_653 : decode cL_law 653 = .ok (.iconst 0, 1) := by decide +kernel
theorem dL_law_654 : decode cL_law 654 = .ok (.ireturn, 1) := by decide +kernel
theorem dL_law_655 : decode cL_law 655 = .ok (.aload_n 1, 1) := by decide +kernel
theorem dL_law_656 : decode cL_law 656 = .ok (.invokevirtual 94, 3) := by decide +kernel
theorem dL_law_659 : decode cL_law 659 = .ok (.aload_n 2, 1) := by decide +kernel
theorem dL_law_660 : decode cL_law 660 = .ok (.invokevirtual 97, 3) := by decide +kernel
theorem dL_law_663 : decode cL_law 663 = .ok (.if_icmp .eq 81, 3) := by decide +kernel
theorem dL_law_666 : decode cL_law 666 = .ok (.iconst 0, 1) := by decide +kernel
theorem dL_law_667 : decode cL_law 667 = .ok (.ireturn, 1) := by decide +kernel
theorem dL_law_668 : decode cL_law 668 = .ok (.aload_n 1, 1) := by decide +kernel
theorem dL_law_669 : decode cL_law 669 = .ok (.invokevirtual 98, 3) := by decide +kernel
theorem dL_law_672 : decode cL_law 672 = .ok (.aload_n 2, 1) := by decide +kernel
theorem dL_law_673 : decode cL_law 673 = .ok (.invokevirtual 101, 3) := by decide +kernel
theorem dL_law_676 : decode cL_law 676 = .ok (.if_icmp .eq 68, 3) := by decide +kernel
theorem dL_law_679 : decode cL_law 679 = .ok (.iconst 0, 1) := by decide +kernel
theorem dL_law_680 : decode cL_law 680 = .ok (.ireturn, 1) := by decide +kernel
theorem dL_law_681 : decode cL_law 681 = .ok (.aload_n 1, 1) := by decide +kernel
theorem dL_law_682 : decode cL_law 682 = .ok (.aload_n 0, 1) := by decide +kernel
theorem dL_law_683 : decode cL_law 683 = .ok (.iload 4, 2) := by decide +kernel
theorem dL_law_685 : decode cL_law 685 = .ok (.iconst 1, 1) := by decide +kernel
theorem dL_law_686 : decode cL_law 686 = .ok (.iadd, 1) := by decide +kernel
theorem dL_law_687 : decode cL_law 687 = .ok (.iaload, 1) := by decide +kernel
theorem dL_law_688 : decode cL_law 688 = .ok (.aload_n 0, 1) := by decide +kernel
theorem dL_law_689 : decode cL_law 689 = .ok (.iload 4, 2) := by decide +kernel
theorem dL_law_691 : decode cL_law 691 = .ok (.iconst 2, 1) := by decide +kernel
theorem dL_law_692 : decode cL_law 692 = .ok (.iadd, 1) := by decide +kernel
theorem dL_law_693 : decode cL_law 693 = .ok (.iaload, 1) := by decide +kernel
theorem dL_law_694 : decode cL_law 694 = .ok (.invokevirtual 102, 3) := by decide +kernel
theorem dL_law_697 : decode cL_law 697 = .ok (.aload_n 2, 1) := by decide +kernel
theorem dL_law_698 : decode cL_law 698 = .ok (.aload_n 0, 1) := by decide +kernel
theorem dL_law_699 : decode cL_law 699 = .ok (.iload 4, 2) := by decide +kernel
theorem dL_law_701 : decode cL_law 701 = .ok (.iconst 1, 1) := by decide +kernel
theorem dL_law_702 : decode cL_law 702 = .ok (.iadd, 1) := by decide +kernel
theorem dL_law_703 : decode cL_law 703 = .ok (.iaload, 1) := by decide +kernel
theorem dL_law_704 : decode cL_law 704 = .ok (.aload_n 0, 1) := by decide +kernel
theorem dL_law_705 : decode cL_law 705 = .ok (.iload 4, 2) := by decide +kernel
theorem dL_law_707 : decode cL_law 707 = .ok (.iconst 2, 1) := by decide +kernel
theorem dL_law_708 : decode cL_law 708 = .ok (.iadd, 1) := by decide +kernel
theorem dL_law_709 : decode cL_law 709 = .ok (.iaload, 1) := by decide +kernel
theorem dL_law_710 : decode cL_law 710 = .ok (.invokevirtual 105, 3) := by decide +kernel
theorem dL_law_713 : decode cL_law 713 = .ok (.if_icmp .eq 31, 3) := by decide +kernel
theorem dL_law_716 : decode cL_law 716 = .ok (.iconst 0, 1) := by decide +kernel
theorem dL_law_717 : decode cL_law 717 = .ok (.ireturn, 1) := by decide +kernel
theorem dL_law_718 : decode cL_law 718 = .ok (.aload_n 1, 1) := by decide +kernel
theorem dL_law_719 : decode cL_law 719 = .ok (.aload_n 0, 1) := by decide +kernel
theorem dL_law_720 : decode cL_law 720 = .ok (.iload 4, 2) := by decide +kernel
theorem dL_law_722 : decode cL_law 722 = .ok (.iconst 1, 1) := by decide +kernel
theorem dL_law_723 : decode cL_law 723 = .ok (.iadd, 1) := by decide +kernel
theorem dL_law_724 : decode cL_law 724 = .ok (.iaload, 1) := by decide +kernel
theorem dL_law_725 : decode cL_law 725 = .ok (.invokevirtual 106, 3) := by decide +kernel
theorem dL_law_728 : decode cL_law 728 = .ok (.aload_n 2, 1) := by decide +kernel
theorem dL_law_729 : decode cL_law 729 = .ok (.aload_n 0, 1) := by decide +kernel
theorem dL_law_730 : decode cL_law 730 = .ok (.iload 4, 2) := by decide +kernel
theorem dL_law_732 : decode cL_law 732 = .ok (.iconst 1, 1) := by decide +kernel
theorem dL_law_733 : decode cL_law 733 = .ok (.iadd, 1) := by decide +kernel
theorem dL_law_734 : decode cL_law 734 = .ok (.iaload, 1) := by decide +kernel
theorem dL_law_735 : decode cL_law 735 = .ok (.invokevirtual 110, 3) := by decide +kernel
theorem dL_law_738 : decode cL_law 738 = .ok (.lcmp, 1) := by decide +kernel
theorem dL_law_739 : decode cL_law 739 = .ok (.ifCond .eq 5, 3) := by decide +kernel
theorem dL_law_742 : decode cL_law 742 = .ok (.iconst 0, 1) := by decide +kernel
theorem dL_law_743 : decode cL_law 743 = .ok (.ireturn, 1) := by decide +kernel
theorem dL_law_744 : decode cL_law 744 = .ok (.iinc 4 6, 3) := by decide +kernel
theorem dL_law_747 : decode cL_law 747 = .ok (.goto (-714), 3) := by decide +kernel
theorem dL_law_750 : decode cL_law 750 = .ok (.iconst 1, 1) := by decide +kernel
theorem dL_law_751 : decode cL_law 751 = .ok (.ireturn, 1) := by decide +kernel
theorem dJ6_bitCount_0 : decode cJ6_bitCount 0 = .ok (.iload_n 0, 1) := by decide +kernel
theorem dJ6_bitCount_1 : decode cJ6_bitCount 1 = .ok (.iload_n 0, 1) := by decide +kernel
theorem dJ6_bitCount_2 : decode cJ6_bitCount 2 = .ok (.iconst 1, 1) := by decide +kernel
theorem dJ6_bitCount_3 : decode cJ6_bitCount 3 = .ok (.iushr, 1) := by decide +kernel
theorem dJ6_bitCount_4 : decode cJ6_bitCount 4 = .ok (.ldc_w 265, 3) := by decide +kernel
theorem dJ6_bitCount_7 : decode cJ6_bitCount 7 = .ok (.iand, 1) := by decide +kernel
theorem dJ6_bitCount_8 : decode cJ6_bitCount 8 = .ok (.isub, 1) := by decide +kernel
theorem dJ6_bitCount_9 : decode cJ6_bitCount 9 = .ok (.istore_n 0, 1) := by decide +kernel
theorem dJ6_bitCount_10 : decode cJ6_bitCount 10 = .ok (.iload_n 0, 1) := by decide +kernel
theorem dJ6_bitCount_11 : decode cJ6_bitCount 11 = .ok (.ldc_w 266, 3) := by decide +kernel
theorem dJ6_bitCount_14 : decode cJ6_bitCount 14 = .ok (.iand, 1) := by decide +kernel
theorem dJ6_bitCount_15 : decode cJ6_bitCount 15 = .ok (.iload_n 0, 1) := by decide +kernel
theorem dJ6_bitCount_16 : decode cJ6_bitCount 16 = .ok (.iconst 2, 1) := by decide +kernel
theorem dJ6_bitCount_17 : decode cJ6_bitCount 17 = .ok (.iushr, 1) := by decide +kernel
theorem dJ6_bitCount_18 : decode cJ6_bitCount 18 = .ok (.ldc_w 266, 3) := by decide +kernel
theorem dJ6_bitCount_21 : decode cJ6_bitCount 21 = .ok (.iand, 1) := by decide +kernel
theorem dJ6_bitCount_22 : decode cJ6_bitCount 22 = .ok (.iadd, 1) := by decide +kernel
theorem dJ6_bitCount_23 : decode cJ6_bitCount 23 = .ok (.istore_n 0, 1) := by decide +kernel
theorem dJ6_bitCount_24 : decode cJ6_bitCount 24 = .ok (.iload_n 0, 1) := by decide +kernel
theorem dJ6_bitCount_25 : decode cJ6_bitCount 25 = .ok (.iload_n 0, 1) := by decide +kernel
theorem dJ6_bitCount_26 : decode cJ6_bitCount 26 = .ok (.iconst 4, 1) := by decide +kernel
theorem dJ6_bitCount_27 : decode cJ6_bitCount 27 = .ok (.iushr, 1) := by decide +kernel
theorem dJ6_bitCount_28 : decode cJ6_bitCount 28 = .ok (.iadd, 1) := by decide +kernel
theorem dJ6_bitCount_29 : decode cJ6_bitCount 29 = .ok (.ldc_w 267, 3) := by decide +kernel
theorem dJ6_bitCount_32 : decode cJ6_bitCount 32 = .ok (.iand, 1) := by decide +kernel
theorem dJ6_bitCount_33 : decode cJ6_bitCount 33 = .ok (.istore_n 0, 1) := by decide +kernel
theorem dJ6_bitCount_34 : decode cJ6_bitCount 34 = .ok (.iload_n 0, 1) := by decide +kernel
theorem dJ6_bitCount_35 : decode cJ6_bitCount 35 = .ok (.iload_n 0, 1) := by decide +kernel
theorem dJ6_bitCount_36 : decode cJ6_bitCount 36 = .ok (.bipush 8, 2) := by decide +kernel
theorem dJ6_bitCount_38 : decode cJ6_bitCount 38 = .ok (.iushr, 1) := by decide +kernel
theorem dJ6_bitCount_39 : decode cJ6_bitCount 39 = .ok (.iadd, 1) := by decide +kernel
theorem dJ6_bitCount_40 : decode cJ6_bitCount 40 = .ok (.istore_n 0, 1) := by decide +kernel
theorem dJ6_bitCount_41 : decode cJ6_bitCount 41 = .ok (.iload_n 0, 1) := by decide +kernel
theorem dJ6_bitCount_42 : decode cJ6_bitCount 42 = .ok (.iload_n 0, 1) := by decide +kernel
theorem dJ6_bitCount_43 : decode cJ6_bitCount 43 = .ok (.bipush 16, 2) := by decide +kernel
theorem dJ6_bitCount_45 : decode cJ6_bitCount 45 = .ok (.iushr, 1) := by decide +kernel
theorem dJ6_bitCount_46 : decode cJ6_bitCount 46 = .ok (.iadd, 1) := by decide +kernel
theorem dJ6_bitCount_47 : decode cJ6_bitCount 47 = .ok (.istore_n 0, 1) := by decide +kernel
theorem dJ6_bitCount_48 : decode cJ6_bitCount 48 = .ok (.iload_n 0, 1) := by decide +kernel
theorem dJ6_bitCount_49 : decode cJ6_bitCount 49 = .ok (.bipush 63, 2) := by decide +kernel
theorem dJ6_bitCount_51 : decode cJ6_bitCount 51 = .ok (.iand, 1) := by decide +kernel
theorem dJ6_bitCount_52 : decode cJ6_bitCount 52 = .ok (.ireturn, 1) := by decide +kernel
end
section
theorem wd_0 : (.selects "WeightedClauses$Search" ⟨"WeightedClauses$Search", "putWaiting", "(II)V"⟩ ⟨"WeightedClauses$Search", "putWaiting", "(II)V"⟩ : Cond) ∈ xtb := xtb_of 0 (by decide +kernel) rfl
theorem wd_1 : (.selects "WeightedClauses$Search" ⟨"WeightedClauses$Search", "visit", "(II)V"⟩ ⟨"WeightedClauses$Search", "visit", "(II)V"⟩ : Cond) ∈ xtb := xtb_of 1 (by decide +kernel) rfl
theorem wd_2 : (.selects "WeightedClauses$Search" ⟨"WeightedClauses$Search", "visitLeaf", "(I)V"⟩ ⟨"WeightedClauses$Search", "visitLeaf", "(I)V"⟩ : Cond) ∈ xtb := xtb_of 2 (by decide +kernel) rfl
theorem wd_3 : (.selects "WeightedClauses$Bounds" ⟨"WeightedClauses$Bounds", "nextSubset", "(II)J"⟩ ⟨"WeightedClauses$Bounds", "nextSubset", "(II)J"⟩ : Cond) ∈ xtb := xtb_of 3 (by decide +kernel) rfl
theorem wd_4 : (.selects "WeightedClauses$Bounds" ⟨"WeightedClauses$Bounds", "firstFalseClause", "()I"⟩ ⟨"WeightedClauses$Bounds", "firstFalseClause", "()I"⟩ : Cond) ∈ xtb := xtb_of 4 (by decide +kernel) rfl
theorem wd_5 : (.selects "WeightedClauses$Bounds" ⟨"WeightedClauses$Bounds", "isAvailable", "(I)Z"⟩ ⟨"WeightedClauses$Bounds", "isAvailable", "(I)Z"⟩ : Cond) ∈ xtb := xtb_of 5 (by decide +kernel) rfl
theorem wd_6 : (.selects "WeightedClauses$Bounds" ⟨"WeightedClauses$Bounds", "subsetBehind", "(I)J"⟩ ⟨"WeightedClauses$Bounds", "subsetBehind", "(I)J"⟩ : Cond) ∈ xtb := xtb_of 6 (by decide +kernel) rfl
theorem wd_7 : (.selects "WeightedClauses$Bounds" ⟨"WeightedClauses$Bounds", "firstUnitClause", "()I"⟩ ⟨"WeightedClauses$Bounds", "firstUnitClause", "()I"⟩ : Cond) ∈ xtb := xtb_of 7 (by decide +kernel) rfl
theorem wd_8 : (.selects "WeightedClauses$Bounds" ⟨"WeightedClauses$Bounds", "growBy", "(I)V"⟩ ⟨"WeightedClauses$Bounds", "growBy", "(I)V"⟩ : Cond) ∈ xtb := xtb_of 8 (by decide +kernel) rfl
theorem wd_9 : (.selects "WeightedClauses$Search" ⟨"WeightedClauses$Search", "isGivenUp", "(J)Z"⟩ ⟨"WeightedClauses$Search", "isGivenUp", "(J)Z"⟩ : Cond) ∈ xtb := xtb_of 9 (by decide +kernel) rfl
theorem wd_10 : (.selects "WeightedClauses$Search" ⟨"WeightedClauses$Search", "putIntoLog", "(II)V"⟩ ⟨"WeightedClauses$Search", "putIntoLog", "(II)V"⟩ : Cond) ∈ xtb := xtb_of 10 (by decide +kernel) rfl
theorem wd_11 : (.selects "WeightedClauses$Search" ⟨"WeightedClauses$Search", "branch", "(II)V"⟩ ⟨"WeightedClauses$Search", "branch", "(II)V"⟩ : Cond) ∈ xtb := xtb_of 11 (by decide +kernel) rfl
theorem wd_12 : (.selects "WeightedClauses$Formula" ⟨"WeightedClauses$Formula", "countHolding", "([IIJ)I"⟩ ⟨"WeightedClauses$Formula", "countHolding", "([IIJ)I"⟩ : Cond) ∈ xtb := xtb_of 12 (by decide +kernel) rfl
theorem wd_13 : (.selects "WeightedClauses" ⟨"WeightedClauses", "areLiterals", "(IIII)Z"⟩ ⟨"WeightedClauses", "areLiterals", "(IIII)Z"⟩ : Cond) ∈ xtb := xtb_of 13 (by decide +kernel) rfl
theorem wd_14 : (.selects "WeightedClauses" ⟨"WeightedClauses", "isLiteralOrAbsent", "(I)Z"⟩ ⟨"WeightedClauses", "isLiteralOrAbsent", "(I)Z"⟩ : Cond) ∈ xtb := xtb_of 14 (by decide +kernel) rfl
theorem wd_15 : (.selects "java/lang/Throwable" ⟨"java/lang/Throwable", "fillInStackTrace", "(I)Ljava/lang/Throwable;"⟩ ⟨"java/lang/Throwable", "fillInStackTrace", "(I)Ljava/lang/Throwable;"⟩ : Cond) ∈ xtb := xtb_of 15 (by decide +kernel) rfl
theorem wd_16 : (.selects "WeightedClauses" ⟨"WeightedClauses", "isState", "(II)Z"⟩ ⟨"WeightedClauses", "isState", "(II)Z"⟩ : Cond) ∈ xtb := xtb_of 16 (by decide +kernel) rfl
theorem wd_17 : (.selects "WeightedClausesModel" ⟨"WeightedClausesModel", "noLiteral", "(I)Z"⟩ ⟨"WeightedClausesModel", "noLiteral", "(I)Z"⟩ : Cond) ∈ xtb := xtb_of 17 (by decide +kernel) rfl
theorem wd_18 : (.selects "WeightedClausesModel" ⟨"WeightedClausesModel", "forget", "()V"⟩ ⟨"WeightedClausesModel", "forget", "()V"⟩ : Cond) ∈ xtb := xtb_of 18 (by decide +kernel) rfl
theorem wd_19 : (.selects "WeightedClausesModel" ⟨"WeightedClausesModel", "noState", "(II)Z"⟩ ⟨"WeightedClausesModel", "noState", "(II)Z"⟩ : Cond) ∈ xtb := xtb_of 19 (by decide +kernel) rfl
theorem wd_20 : (.selects "WeightedClausesModel" ⟨"WeightedClausesModel", "breaks", "(II)Z"⟩ ⟨"WeightedClausesModel", "breaks", "(II)Z"⟩ : Cond) ∈ xtb := xtb_of 20 (by decide +kernel) rfl
theorem wd_21 : (.selects "WeightedClausesModel" ⟨"WeightedClausesModel", "isFalse", "(III)Z"⟩ ⟨"WeightedClausesModel", "isFalse", "(III)Z"⟩ : Cond) ∈ xtb := xtb_of 21 (by decide +kernel) rfl
theorem wd_22 : (.selects "WeightedClausesModel" ⟨"WeightedClausesModel", "isTrue", "(III)Z"⟩ ⟨"WeightedClausesModel", "isTrue", "(III)Z"⟩ : Cond) ∈ xtb := xtb_of 22 (by decide +kernel) rfl
theorem wd_23 : (.selects "WeightedClausesModel" ⟨"WeightedClausesModel", "costOf", "(II)J"⟩ ⟨"WeightedClausesModel", "costOf", "(II)J"⟩ : Cond) ∈ xtb := xtb_of 23 (by decide +kernel) rfl
theorem wd_24 : (.selects "WeightedClausesModel" ⟨"WeightedClausesModel", "reckon", "(II)V"⟩ ⟨"WeightedClausesModel", "reckon", "(II)V"⟩ : Cond) ∈ xtb := xtb_of 24 (by decide +kernel) rfl
theorem wd_25 : (.selects "WeightedClausesModel" ⟨"WeightedClausesModel", "isOpen", "(III)Z"⟩ ⟨"WeightedClausesModel", "isOpen", "(III)Z"⟩ : Cond) ∈ xtb := xtb_of 25 (by decide +kernel) rfl
theorem wd_26 : (.selects "WeightedClausesModel" ⟨"WeightedClausesModel", "grow", "(II)I"⟩ ⟨"WeightedClausesModel", "grow", "(II)I"⟩ : Cond) ∈ xtb := xtb_of 26 (by decide +kernel) rfl
theorem wd_27 : (.selects "WeightedClausesModel" ⟨"WeightedClausesModel", "broken", "()I"⟩ ⟨"WeightedClausesModel", "broken", "()I"⟩ : Cond) ∈ xtb := xtb_of 27 (by decide +kernel) rfl
theorem wd_28 : (.selects "WeightedClausesModel" ⟨"WeightedClausesModel", "single", "()I"⟩ ⟨"WeightedClausesModel", "single", "()I"⟩ : Cond) ∈ xtb := xtb_of 28 (by decide +kernel) rfl
theorem wd_29 : (.selects "WeightedClausesModel" ⟨"WeightedClausesModel", "gather", "(I)J"⟩ ⟨"WeightedClausesModel", "gather", "(I)J"⟩ : Cond) ∈ xtb := xtb_of 29 (by decide +kernel) rfl
theorem wd_30 : (.selects "WeightedClausesModel" ⟨"WeightedClausesModel", "firstOf", "(II)I"⟩ ⟨"WeightedClausesModel", "firstOf", "(II)I"⟩ : Cond) ∈ xtb := xtb_of 30 (by decide +kernel) rfl
theorem wd_31 : (.selects "WeightedClausesModel" ⟨"WeightedClausesModel", "line", "(II)V"⟩ ⟨"WeightedClausesModel", "line", "(II)V"⟩ : Cond) ∈ xtb := xtb_of 31 (by decide +kernel) rfl
theorem wd_32 : (.selects "WeightedClausesModel" ⟨"WeightedClausesModel", "node", "(II)V"⟩ ⟨"WeightedClausesModel", "node", "(II)V"⟩ : Cond) ∈ xtb := xtb_of 32 (by decide +kernel) rfl
theorem wd_33 : (.initialized "WeightedClausesLaw" : Cond) ∈ xtb := xtb_of 33 (by decide +kernel) rfl
theorem wd_34 : (.initialized "WeightedClauses" : Cond) ∈ xtb := xtb_of 34 (by decide +kernel) rfl
theorem wd_35 : (.initialized "WeightedClauses$Formula" : Cond) ∈ xtb := xtb_of 35 (by decide +kernel) rfl
theorem wd_36 : (.initialized "java/lang/Math" : Cond) ∈ xtb := xtb_of 36 (by decide +kernel) rfl
theorem wd_37 : (.initialized "WeightedClauses$Bounds" : Cond) ∈ xtb := xtb_of 37 (by decide +kernel) rfl
theorem wd_38 : (.initialized "WeightedClauses$Search" : Cond) ∈ xtb := xtb_of 38 (by decide +kernel) rfl
theorem wd_39 : (.initialized "WeightedClausesModel" : Cond) ∈ xtb := xtb_of 39 (by decide +kernel) rfl
theorem wd_40 : (.initialized "java/lang/Integer" : Cond) ∈ xtb := xtb_of 40 (by decide +kernel) rfl
theorem wd_41 : (.initialized "java/lang/Throwable" : Cond) ∈ xtb := xtb_of 41 (by decide +kernel) rfl
theorem wd_42 : (.initialized "java/lang/Exception" : Cond) ∈ xtb := xtb_of 42 (by decide +kernel) rfl
theorem wd_43 : (.initialized "java/lang/RuntimeException" : Cond) ∈ xtb := xtb_of 43 (by decide +kernel) rfl
theorem wd_44 : (.initialized "java/lang/IllegalArgumentException" : Cond) ∈ xtb := xtb_of 44 (by decide +kernel) rfl
theorem wd_45 : (.initialized "java/lang/IllegalStateException" : Cond) ∈ xtb := xtb_of 45 (by decide +kernel) rfl
theorem wd_46 : (.classLink "WeightedClausesLaw" 8 "WeightedClauses" : Cond) ∈ xtb := xtb_of 46 (by decide +kernel) rfl
theorem wd_47 : (.instantiable "WeightedClauses" 3 : Cond) ∈ xtb := xtb_of 47 (by decide +kernel) rfl
theorem wd_48 : (.methodLink "WeightedClausesLaw" 41 ⟨"WeightedClauses", "<init>", "(I)V"⟩ : Cond) ∈ xtb := xtb_of 48 (by decide +kernel) rfl
theorem wd_49 : (.instanceMethod ⟨"WeightedClauses", "<init>", "(I)V"⟩ : Cond) ∈ xtb := xtb_of 49 (by decide +kernel) rfl
theorem wd_50 : (.code ⟨"WeightedClauses", "<init>", "(I)V"⟩ prog_1_method_1_code 2 (none) : Cond) ∈ xtb := xtb_of 50 (by decide +kernel) rfl
theorem wd_51 : (.methodLink "WeightedClauses" 1 ⟨"java/lang/Object", "<init>", "()V"⟩ : Cond) ∈ xtb := xtb_of 51 (by decide +kernel) rfl
theorem wd_52 : (.instanceMethod ⟨"java/lang/Object", "<init>", "()V"⟩ : Cond) ∈ xtb := xtb_of 52 (by decide +kernel) rfl
theorem wd_53 : (.code ⟨"java/lang/Object", "<init>", "()V"⟩ object_method_1_code 1 (none) : Cond) ∈ xtb := xtb_of 53 (by decide +kernel) rfl
theorem wd_54 : (.classLink "WeightedClauses" 7 "WeightedClauses$Formula" : Cond) ∈ xtb := xtb_of 54 (by decide +kernel) rfl
theorem wd_55 : (.instantiable "WeightedClauses$Formula" 6 : Cond) ∈ xtb := xtb_of 55 (by decide +kernel) rfl
theorem wd_56 : (.methodLink "WeightedClauses" 11 ⟨"java/lang/Math", "min", "(II)I"⟩ : Cond) ∈ xtb := xtb_of 56 (by decide +kernel) rfl
theorem wd_57 : (.static ⟨"java/lang/Math", "min", "(II)I"⟩ : Cond) ∈ xtb := xtb_of 57 (by decide +kernel) rfl
theorem wd_58 : (.code ⟨"java/lang/Math", "min", "(II)I"⟩ prog_11_method_69_code 2 (some .int) : Cond) ∈ xtb := xtb_of 58 (by decide +kernel) rfl
theorem wd_59 : (.methodLink "WeightedClauses" 17 ⟨"java/lang/Math", "max", "(II)I"⟩ : Cond) ∈ xtb := xtb_of 59 (by decide +kernel) rfl
theorem wd_60 : (.static ⟨"java/lang/Math", "max", "(II)I"⟩ : Cond) ∈ xtb := xtb_of 60 (by decide +kernel) rfl
theorem wd_61 : (.code ⟨"java/lang/Math", "max", "(II)I"⟩ prog_11_method_65_code 2 (some .int) : Cond) ∈ xtb := xtb_of 61 (by decide +kernel) rfl
theorem wd_62 : (.methodLink "WeightedClauses" 20 ⟨"WeightedClauses$Formula", "<init>", "(I)V"⟩ : Cond) ∈ xtb := xtb_of 62 (by decide +kernel) rfl
theorem wd_63 : (.instanceMethod ⟨"WeightedClauses$Formula", "<init>", "(I)V"⟩ : Cond) ∈ xtb := xtb_of 63 (by decide +kernel) rfl
theorem wd_64 : (.code ⟨"WeightedClauses$Formula", "<init>", "(I)V"⟩ prog_3_method_1_code 2 (none) : Cond) ∈ xtb := xtb_of 64 (by decide +kernel) rfl
theorem wd_65 : (.methodLink "WeightedClauses$Formula" 3 ⟨"java/lang/Object", "<init>", "()V"⟩ : Cond) ∈ xtb := xtb_of 65 (by decide +kernel) rfl
theorem wd_66 : (.fieldLink "WeightedClauses$Formula" 21 "WeightedClauses$Formula" "variableCount" "I" : Cond) ∈ xtb := xtb_of 66 (by decide +kernel) rfl
theorem wd_67 : (.fieldLink "WeightedClauses$Search" 32 "WeightedClauses$Formula" "variableCount" "I" : Cond) ∈ xtb := xtb_of 67 (by decide +kernel) rfl
theorem wd_68 : (.fieldLink "WeightedClauses" 45 "WeightedClauses$Formula" "variableCount" "I" : Cond) ∈ xtb := xtb_of 68 (by decide +kernel) rfl
theorem wd_69 : (.fieldLink "WeightedClauses$Formula" 25 "WeightedClauses$Formula" "allVariables" "I" : Cond) ∈ xtb := xtb_of 69 (by decide +kernel) rfl
theorem wd_70 : (.fieldLink "WeightedClauses$Search" 70 "WeightedClauses$Formula" "allVariables" "I" : Cond) ∈ xtb := xtb_of 70 (by decide +kernel) rfl
theorem wd_71 : (.fieldLink "WeightedClauses" 144 "WeightedClauses$Formula" "allVariables" "I" : Cond) ∈ xtb := xtb_of 71 (by decide +kernel) rfl
theorem wd_72 : (.fieldLink "WeightedClauses$Formula" 28 "WeightedClauses$Formula" "clauseCount" "I" : Cond) ∈ xtb := xtb_of 72 (by decide +kernel) rfl
theorem wd_73 : (.fieldLink "WeightedClauses" 60 "WeightedClauses$Formula" "clauseCount" "I" : Cond) ∈ xtb := xtb_of 73 (by decide +kernel) rfl
theorem wd_74 : (.fieldLink "WeightedClauses$Bounds" 78 "WeightedClauses$Formula" "clauseCount" "I" : Cond) ∈ xtb := xtb_of 74 (by decide +kernel) rfl
theorem wd_75 : (.fieldLink "WeightedClauses$Formula" 9 "WeightedClauses$Formula" "makesTrue" "[I" : Cond) ∈ xtb := xtb_of 75 (by decide +kernel) rfl
theorem wd_76 : (.fieldLink "WeightedClauses$Formula" 15 "WeightedClauses$Formula" "makesFalse" "[I" : Cond) ∈ xtb := xtb_of 76 (by decide +kernel) rfl
theorem wd_77 : (.fieldLink "WeightedClauses$Formula" 18 "WeightedClauses$Formula" "weights" "[I" : Cond) ∈ xtb := xtb_of 77 (by decide +kernel) rfl
theorem wd_91 : (.arrayClass .int : Cond) ∈ xtb := xtb_of 91 (by decide +kernel) rfl
theorem wd_92 : (.classLink "WeightedClauses" 27 "WeightedClauses$Bounds" : Cond) ∈ xtb := xtb_of 92 (by decide +kernel) rfl
theorem wd_93 : (.instantiable "WeightedClauses$Bounds" 9 : Cond) ∈ xtb := xtb_of 93 (by decide +kernel) rfl
theorem wd_94 : (.methodLink "WeightedClauses" 29 ⟨"WeightedClauses$Bounds", "<init>", "(LWeightedClauses$Formula;)V"⟩ : Cond) ∈ xtb := xtb_of 94 (by decide +kernel) rfl
theorem wd_95 : (.instanceMethod ⟨"WeightedClauses$Bounds", "<init>", "(LWeightedClauses$Formula;)V"⟩ : Cond) ∈ xtb := xtb_of 95 (by decide +kernel) rfl
theorem wd_96 : (.code ⟨"WeightedClauses$Bounds", "<init>", "(LWeightedClauses$Formula;)V"⟩ prog_2_method_1_code 2 (none) : Cond) ∈ xtb := xtb_of 96 (by decide +kernel) rfl
theorem wd_97 : (.methodLink "WeightedClauses$Bounds" 3 ⟨"java/lang/Object", "<init>", "()V"⟩ : Cond) ∈ xtb := xtb_of 97 (by decide +kernel) rfl
theorem wd_98 : (.fieldLink "WeightedClauses$Bounds" 22 "WeightedClauses$Bounds" "formula" "LWeightedClauses$Formula;" : Cond) ∈ xtb := xtb_of 98 (by decide +kernel) rfl
theorem wd_99 : (.fieldLink "WeightedClauses$Bounds" 9 "WeightedClauses$Bounds" "subsets" "[J" : Cond) ∈ xtb := xtb_of 99 (by decide +kernel) rfl
theorem wd_100 : (.fieldLink "WeightedClauses$Bounds" 26 "WeightedClauses$Bounds" "subsetCount" "I" : Cond) ∈ xtb := xtb_of 100 (by decide +kernel) rfl
theorem wd_101 : (.fieldLink "WeightedClauses$Bounds" 41 "WeightedClauses$Bounds" "available" "J" : Cond) ∈ xtb := xtb_of 101 (by decide +kernel) rfl
theorem wd_102 : (.fieldLink "WeightedClauses$Bounds" 54 "WeightedClauses$Bounds" "grownHave" "I" : Cond) ∈ xtb := xtb_of 102 (by decide +kernel) rfl
theorem wd_103 : (.fieldLink "WeightedClauses$Bounds" 57 "WeightedClauses$Bounds" "grownValues" "I" : Cond) ∈ xtb := xtb_of 103 (by decide +kernel) rfl
theorem wd_104 : (.fieldLink "WeightedClauses$Bounds" 15 "WeightedClauses$Bounds" "stepVariable" "[I" : Cond) ∈ xtb := xtb_of 104 (by decide +kernel) rfl
theorem wd_105 : (.fieldLink "WeightedClauses$Bounds" 19 "WeightedClauses$Bounds" "stepReason" "[I" : Cond) ∈ xtb := xtb_of 105 (by decide +kernel) rfl
theorem wd_106 : (.fieldLink "WeightedClauses$Bounds" 60 "WeightedClauses$Bounds" "stepCount" "I" : Cond) ∈ xtb := xtb_of 106 (by decide +kernel) rfl
theorem wd_126 : (.arrayClass .long : Cond) ∈ xtb := xtb_of 126 (by decide +kernel) rfl
theorem wd_127 : (.classLink "WeightedClauses" 36 "WeightedClauses$Search" : Cond) ∈ xtb := xtb_of 127 (by decide +kernel) rfl
theorem wd_128 : (.instantiable "WeightedClauses$Search" 12 : Cond) ∈ xtb := xtb_of 128 (by decide +kernel) rfl
theorem wd_129 : (.methodLink "WeightedClauses" 38 ⟨"WeightedClauses$Search", "<init>", "(LWeightedClauses$Formula;LWeightedClauses$Bounds;)V"⟩ : Cond) ∈ xtb := xtb_of 129 (by decide +kernel) rfl
theorem wd_130 : (.instanceMethod ⟨"WeightedClauses$Search", "<init>", "(LWeightedClauses$Formula;LWeightedClauses$Bounds;)V"⟩ : Cond) ∈ xtb := xtb_of 130 (by decide +kernel) rfl
theorem wd_131 : (.code ⟨"WeightedClauses$Search", "<init>", "(LWeightedClauses$Formula;LWeightedClauses$Bounds;)V"⟩ prog_4_method_1_code 4 (none) : Cond) ∈ xtb := xtb_of 131 (by decide +kernel) rfl
theorem wd_132 : (.methodLink "WeightedClauses$Search" 3 ⟨"java/lang/Object", "<init>", "()V"⟩ : Cond) ∈ xtb := xtb_of 132 (by decide +kernel) rfl
theorem wd_133 : (.constantLong "WeightedClauses$Search" 9 (-1) : Cond) ∈ xtb := xtb_of 133 (by decide +kernel) rfl
theorem wd_134 : (.fieldLink "WeightedClauses$Search" 48 "WeightedClauses$Search" "nodeCount" "I" : Cond) ∈ xtb := xtb_of 134 (by decide +kernel) rfl
theorem wd_135 : (.fieldLink "WeightedClauses" 121 "WeightedClauses$Search" "nodeCount" "I" : Cond) ∈ xtb := xtb_of 135 (by decide +kernel) rfl
theorem wd_136 : (.fieldLink "WeightedClauses$Search" 51 "WeightedClauses$Search" "logCount" "I" : Cond) ∈ xtb := xtb_of 136 (by decide +kernel) rfl
theorem wd_137 : (.fieldLink "WeightedClauses" 124 "WeightedClauses$Search" "logCount" "I" : Cond) ∈ xtb := xtb_of 137 (by decide +kernel) rfl
theorem wd_138 : (.fieldLink "WeightedClauses$Search" 11 "WeightedClauses$Search" "bestCost" "J" : Cond) ∈ xtb := xtb_of 138 (by decide +kernel) rfl
theorem wd_139 : (.fieldLink "WeightedClauses" 112 "WeightedClauses$Search" "bestCost" "J" : Cond) ∈ xtb := xtb_of 139 (by decide +kernel) rfl
theorem wd_140 : (.fieldLink "WeightedClauses$Search" 54 "WeightedClauses$Search" "bestValues" "I" : Cond) ∈ xtb := xtb_of 140 (by decide +kernel) rfl
theorem wd_141 : (.fieldLink "WeightedClauses" 118 "WeightedClauses$Search" "bestValues" "I" : Cond) ∈ xtb := xtb_of 141 (by decide +kernel) rfl
theorem wd_142 : (.fieldLink "WeightedClauses$Search" 38 "WeightedClauses$Search" "logHave" "[I" : Cond) ∈ xtb := xtb_of 142 (by decide +kernel) rfl
theorem wd_143 : (.fieldLink "WeightedClauses" 130 "WeightedClauses$Search" "logHave" "[I" : Cond) ∈ xtb := xtb_of 143 (by decide +kernel) rfl
theorem wd_144 : (.fieldLink "WeightedClauses$Search" 41 "WeightedClauses$Search" "logValues" "[I" : Cond) ∈ xtb := xtb_of 144 (by decide +kernel) rfl
theorem wd_145 : (.fieldLink "WeightedClauses" 134 "WeightedClauses$Search" "logValues" "[I" : Cond) ∈ xtb := xtb_of 145 (by decide +kernel) rfl
theorem wd_146 : (.fieldLink "WeightedClauses$Search" 44 "WeightedClauses$Search" "logBest" "[J" : Cond) ∈ xtb := xtb_of 146 (by decide +kernel) rfl
theorem wd_147 : (.fieldLink "WeightedClauses" 137 "WeightedClauses$Search" "logBest" "[J" : Cond) ∈ xtb := xtb_of 147 (by decide +kernel) rfl
theorem wd_148 : (.fieldLink "WeightedClauses$Search" 24 "WeightedClauses$Search" "formula" "LWeightedClauses$Formula;" : Cond) ∈ xtb := xtb_of 148 (by decide +kernel) rfl
theorem wd_149 : (.fieldLink "WeightedClauses$Search" 28 "WeightedClauses$Search" "bounds" "LWeightedClauses$Bounds;" : Cond) ∈ xtb := xtb_of 149 (by decide +kernel) rfl
theorem wd_150 : (.fieldLink "WeightedClauses$Search" 17 "WeightedClauses$Search" "waitingHave" "[I" : Cond) ∈ xtb := xtb_of 150 (by decide +kernel) rfl
theorem wd_151 : (.fieldLink "WeightedClauses$Search" 21 "WeightedClauses$Search" "waitingValues" "[I" : Cond) ∈ xtb := xtb_of 151 (by decide +kernel) rfl
theorem wd_152 : (.fieldLink "WeightedClauses$Search" 57 "WeightedClauses$Search" "waitingCount" "I" : Cond) ∈ xtb := xtb_of 152 (by decide +kernel) rfl
theorem wd_178 : (.fieldLink "WeightedClauses" 23 "WeightedClauses" "formula" "LWeightedClauses$Formula;" : Cond) ∈ xtb := xtb_of 178 (by decide +kernel) rfl
theorem wd_179 : (.fieldLink "WeightedClauses" 32 "WeightedClauses" "bounds" "LWeightedClauses$Bounds;" : Cond) ∈ xtb := xtb_of 179 (by decide +kernel) rfl
theorem wd_180 : (.fieldLink "WeightedClauses" 41 "WeightedClauses" "search" "LWeightedClauses$Search;" : Cond) ∈ xtb := xtb_of 180 (by decide +kernel) rfl
theorem wd_188 : (.methodLink "WeightedClausesLaw" 47 ⟨"WeightedClauses", "variables", "()I"⟩ : Cond) ∈ xtb := xtb_of 188 (by decide +kernel) rfl
theorem wd_189 : (.instanceMethod ⟨"WeightedClauses", "variables", "()I"⟩ : Cond) ∈ xtb := xtb_of 189 (by decide +kernel) rfl
theorem wd_190 : (.selects "WeightedClauses" ⟨"WeightedClauses", "variables", "()I"⟩ ⟨"WeightedClauses", "variables", "()I"⟩ : Cond) ∈ xtb := xtb_of 190 (by decide +kernel) rfl
theorem wd_191 : (.code ⟨"WeightedClauses", "variables", "()I"⟩ prog_1_method_2_code 1 (some .int) : Cond) ∈ xtb := xtb_of 191 (by decide +kernel) rfl
theorem wd_192 : (.methodLink "WeightedClausesLaw" 59 ⟨"WeightedClauses", "drop", "()I"⟩ : Cond) ∈ xtb := xtb_of 192 (by decide +kernel) rfl
theorem wd_193 : (.instanceMethod ⟨"WeightedClauses", "drop", "()I"⟩ : Cond) ∈ xtb := xtb_of 193 (by decide +kernel) rfl
theorem wd_194 : (.selects "WeightedClauses" ⟨"WeightedClauses", "drop", "()I"⟩ ⟨"WeightedClauses", "drop", "()I"⟩ : Cond) ∈ xtb := xtb_of 194 (by decide +kernel) rfl
theorem wd_195 : (.code ⟨"WeightedClauses", "drop", "()I"⟩ prog_1_method_4_code 1 (some .int) : Cond) ∈ xtb := xtb_of 195 (by decide +kernel) rfl
theorem wd_196 : (.methodLink "WeightedClauses" 66 ⟨"WeightedClauses$Search", "forget", "()V"⟩ : Cond) ∈ xtb := xtb_of 196 (by decide +kernel) rfl
theorem wd_197 : (.instanceMethod ⟨"WeightedClauses$Search", "forget", "()V"⟩ : Cond) ∈ xtb := xtb_of 197 (by decide +kernel) rfl
theorem wd_198 : (.selects "WeightedClauses$Search" ⟨"WeightedClauses$Search", "forget", "()V"⟩ ⟨"WeightedClauses$Search", "forget", "()V"⟩ : Cond) ∈ xtb := xtb_of 198 (by decide +kernel) rfl
theorem wd_199 : (.code ⟨"WeightedClauses$Search", "forget", "()V"⟩ prog_4_method_2_code 1 (none) : Cond) ∈ xtb := xtb_of 199 (by decide +kernel) rfl
theorem wd_200 : (.methodLink "WeightedClauses" 80 ⟨"WeightedClauses$Formula", "removeLast", "()I"⟩ : Cond) ∈ xtb := xtb_of 200 (by decide +kernel) rfl
theorem wd_201 : (.instanceMethod ⟨"WeightedClauses$Formula", "removeLast", "()I"⟩ : Cond) ∈ xtb := xtb_of 201 (by decide +kernel) rfl
theorem wd_202 : (.selects "WeightedClauses$Formula" ⟨"WeightedClauses$Formula", "removeLast", "()I"⟩ ⟨"WeightedClauses$Formula", "removeLast", "()I"⟩ : Cond) ∈ xtb := xtb_of 202 (by decide +kernel) rfl
theorem wd_203 : (.code ⟨"WeightedClauses$Formula", "removeLast", "()I"⟩ prog_3_method_3_code 1 (some .int) : Cond) ∈ xtb := xtb_of 203 (by decide +kernel) rfl
theorem wd_204 : (.methodLink "WeightedClauses$Formula" 31 ⟨"java/lang/Math", "max", "(II)I"⟩ : Cond) ∈ xtb := xtb_of 204 (by decide +kernel) rfl
theorem wd_205 : (.methodLink "WeightedClausesLaw" 67 ⟨"WeightedClauses", "clauses", "()I"⟩ : Cond) ∈ xtb := xtb_of 205 (by decide +kernel) rfl
theorem wd_206 : (.instanceMethod ⟨"WeightedClauses", "clauses", "()I"⟩ : Cond) ∈ xtb := xtb_of 206 (by decide +kernel) rfl
theorem wd_207 : (.selects "WeightedClauses" ⟨"WeightedClauses", "clauses", "()I"⟩ ⟨"WeightedClauses", "clauses", "()I"⟩ : Cond) ∈ xtb := xtb_of 207 (by decide +kernel) rfl
theorem wd_208 : (.code ⟨"WeightedClauses", "clauses", "()I"⟩ prog_1_method_6_code 1 (some .int) : Cond) ∈ xtb := xtb_of 208 (by decide +kernel) rfl
theorem wd_209 : (.methodLink "WeightedClausesLaw" 84 ⟨"WeightedClauses", "solve", "()J"⟩ : Cond) ∈ xtb := xtb_of 209 (by decide +kernel) rfl
theorem wd_210 : (.instanceMethod ⟨"WeightedClauses", "solve", "()J"⟩ : Cond) ∈ xtb := xtb_of 210 (by decide +kernel) rfl
theorem wd_211 : (.selects "WeightedClauses" ⟨"WeightedClauses", "solve", "()J"⟩ ⟨"WeightedClauses", "solve", "()J"⟩ : Cond) ∈ xtb := xtb_of 211 (by decide +kernel) rfl
theorem wd_212 : (.code ⟨"WeightedClauses", "solve", "()J"⟩ prog_1_method_11_code 1 (some .long) : Cond) ∈ xtb := xtb_of 212 (by decide +kernel) rfl
theorem wd_213 : (.methodLink "WeightedClauses" 105 ⟨"WeightedClauses$Search", "run", "()V"⟩ : Cond) ∈ xtb := xtb_of 213 (by decide +kernel) rfl
theorem wd_214 : (.instanceMethod ⟨"WeightedClauses$Search", "run", "()V"⟩ : Cond) ∈ xtb := xtb_of 214 (by decide +kernel) rfl
theorem wd_215 : (.selects "WeightedClauses$Search" ⟨"WeightedClauses$Search", "run", "()V"⟩ ⟨"WeightedClauses$Search", "run", "()V"⟩ : Cond) ∈ xtb := xtb_of 215 (by decide +kernel) rfl
theorem wd_216 : (.code ⟨"WeightedClauses$Search", "run", "()V"⟩ prog_4_method_3_code 2 (none) : Cond) ∈ xtb := xtb_of 216 (by decide +kernel) rfl
theorem wd_217 : (.methodLink "WeightedClauses$Search" 60 ⟨"WeightedClauses$Search", "forget", "()V"⟩ : Cond) ∈ xtb := xtb_of 217 (by decide +kernel) rfl
theorem wd_218 : (.methodLink "WeightedClauses$Search" 63 ⟨"WeightedClauses$Search", "putWaiting", "(II)V"⟩ : Cond) ∈ xtb := xtb_of 218 (by decide +kernel) rfl
theorem wd_220 : (.instanceMethod ⟨"WeightedClauses$Search", "putWaiting", "(II)V"⟩ : Cond) ∈ xtb := xtb_of 220 (by decide +kernel) rfl
theorem wd_221 : (.code ⟨"WeightedClauses$Search", "putWaiting", "(II)V"⟩ prog_4_method_6_code 3 (none) : Cond) ∈ xtb := xtb_of 221 (by decide +kernel) rfl
theorem wd_222 : (.methodLink "WeightedClauses$Search" 67 ⟨"WeightedClauses$Search", "visit", "(II)V"⟩ : Cond) ∈ xtb := xtb_of 222 (by decide +kernel) rfl
theorem wd_224 : (.instanceMethod ⟨"WeightedClauses$Search", "visit", "(II)V"⟩ : Cond) ∈ xtb := xtb_of 224 (by decide +kernel) rfl
theorem wd_225 : (.code ⟨"WeightedClauses$Search", "visit", "(II)V"⟩ prog_4_method_7_code 3 (none) : Cond) ∈ xtb := xtb_of 225 (by decide +kernel) rfl
theorem wd_226 : (.methodLink "WeightedClauses$Search" 73 ⟨"WeightedClauses$Search", "visitLeaf", "(I)V"⟩ : Cond) ∈ xtb := xtb_of 226 (by decide +kernel) rfl
theorem wd_228 : (.instanceMethod ⟨"WeightedClauses$Search", "visitLeaf", "(I)V"⟩ : Cond) ∈ xtb := xtb_of 228 (by decide +kernel) rfl
theorem wd_229 : (.code ⟨"WeightedClauses$Search", "visitLeaf", "(I)V"⟩ prog_4_method_8_code 4 (none) : Cond) ∈ xtb := xtb_of 229 (by decide +kernel) rfl
theorem wd_230 : (.methodLink "WeightedClauses$Search" 93 ⟨"WeightedClauses$Formula", "costOf", "(II)J"⟩ : Cond) ∈ xtb := xtb_of 230 (by decide +kernel) rfl
theorem wd_231 : (.instanceMethod ⟨"WeightedClauses$Formula", "costOf", "(II)J"⟩ : Cond) ∈ xtb := xtb_of 231 (by decide +kernel) rfl
theorem wd_232 : (.selects "WeightedClauses$Formula" ⟨"WeightedClauses$Formula", "costOf", "(II)J"⟩ ⟨"WeightedClauses$Formula", "costOf", "(II)J"⟩ : Cond) ∈ xtb := xtb_of 232 (by decide +kernel) rfl
theorem wd_233 : (.code ⟨"WeightedClauses$Formula", "costOf", "(II)J"⟩ prog_3_method_11_code 6 (some .long) : Cond) ∈ xtb := xtb_of 233 (by decide +kernel) rfl
theorem wd_234 : (.methodLink "WeightedClauses$Formula" 44 ⟨"WeightedClauses$Formula", "isFalse", "(III)Z"⟩ : Cond) ∈ xtb := xtb_of 234 (by decide +kernel) rfl
theorem wd_235 : (.instanceMethod ⟨"WeightedClauses$Formula", "isFalse", "(III)Z"⟩ : Cond) ∈ xtb := xtb_of 235 (by decide +kernel) rfl
theorem wd_236 : (.selects "WeightedClauses$Formula" ⟨"WeightedClauses$Formula", "isFalse", "(III)Z"⟩ ⟨"WeightedClauses$Formula", "isFalse", "(III)Z"⟩ : Cond) ∈ xtb := xtb_of 236 (by decide +kernel) rfl
theorem wd_237 : (.code ⟨"WeightedClauses$Formula", "isFalse", "(III)Z"⟩ prog_3_method_9_code 5 (some .boolean) : Cond) ∈ xtb := xtb_of 237 (by decide +kernel) rfl
theorem wd_238 : (.constantLong "WeightedClauses$Formula" 47 (-2) : Cond) ∈ xtb := xtb_of 238 (by decide +kernel) rfl
theorem wd_239 : (.constantLong "WeightedClauses$Search" 96 (-2) : Cond) ∈ xtb := xtb_of 239 (by decide +kernel) rfl
theorem wd_240 : (.methodLink "WeightedClauses$Search" 98 ⟨"WeightedClauses$Search", "hasBest", "()Z"⟩ : Cond) ∈ xtb := xtb_of 240 (by decide +kernel) rfl
theorem wd_241 : (.instanceMethod ⟨"WeightedClauses$Search", "hasBest", "()Z"⟩ : Cond) ∈ xtb := xtb_of 241 (by decide +kernel) rfl
theorem wd_242 : (.selects "WeightedClauses$Search" ⟨"WeightedClauses$Search", "hasBest", "()Z"⟩ ⟨"WeightedClauses$Search", "hasBest", "()Z"⟩ : Cond) ∈ xtb := xtb_of 242 (by decide +kernel) rfl
theorem wd_243 : (.code ⟨"WeightedClauses$Search", "hasBest", "()Z"⟩ prog_4_method_4_code 1 (some .boolean) : Cond) ∈ xtb := xtb_of 243 (by decide +kernel) rfl
theorem wd_244 : (.methodLink "WeightedClauses$Search" 77 ⟨"WeightedClauses$Bounds", "boundOf", "(II)J"⟩ : Cond) ∈ xtb := xtb_of 244 (by decide +kernel) rfl
theorem wd_245 : (.instanceMethod ⟨"WeightedClauses$Bounds", "boundOf", "(II)J"⟩ : Cond) ∈ xtb := xtb_of 245 (by decide +kernel) rfl
theorem wd_246 : (.selects "WeightedClauses$Bounds" ⟨"WeightedClauses$Bounds", "boundOf", "(II)J"⟩ ⟨"WeightedClauses$Bounds", "boundOf", "(II)J"⟩ : Cond) ∈ xtb := xtb_of 246 (by decide +kernel) rfl
theorem wd_247 : (.code ⟨"WeightedClauses$Bounds", "boundOf", "(II)J"⟩ prog_2_method_2_code 9 (some .long) : Cond) ∈ xtb := xtb_of 247 (by decide +kernel) rfl
theorem wd_248 : (.methodLink "WeightedClauses$Bounds" 30 ⟨"WeightedClauses$Formula", "costOf", "(II)J"⟩ : Cond) ∈ xtb := xtb_of 248 (by decide +kernel) rfl
theorem wd_249 : (.constantLong "WeightedClauses$Bounds" 36 (-2) : Cond) ∈ xtb := xtb_of 249 (by decide +kernel) rfl
theorem wd_250 : (.methodLink "WeightedClauses$Bounds" 38 ⟨"WeightedClauses$Formula", "openClauses", "(II)J"⟩ : Cond) ∈ xtb := xtb_of 250 (by decide +kernel) rfl
end
section
theorem wd_251 : (.instanceMethod ⟨"WeightedClauses$Formula", "openClauses", "(II)J"⟩ : Cond) ∈ xtb := xtb_of 251 (by decide +kernel) rfl
theorem wd_252 : (.selects "WeightedClauses$Formula" ⟨"WeightedClauses$Formula", "openClauses", "(II)J"⟩ ⟨"WeightedClauses$Formula", "openClauses", "(II)J"⟩ : Cond) ∈ xtb := xtb_of 252 (by decide +kernel) rfl
theorem wd_253 : (.code ⟨"WeightedClauses$Formula", "openClauses", "(II)J"⟩ prog_3_method_10_code 6 (some .long) : Cond) ∈ xtb := xtb_of 253 (by decide +kernel) rfl
theorem wd_254 : (.methodLink "WeightedClauses$Formula" 37 ⟨"WeightedClauses$Formula", "withoutValue", "(II)I"⟩ : Cond) ∈ xtb := xtb_of 254 (by decide +kernel) rfl
theorem wd_255 : (.instanceMethod ⟨"WeightedClauses$Formula", "withoutValue", "(II)I"⟩ : Cond) ∈ xtb := xtb_of 255 (by decide +kernel) rfl
theorem wd_256 : (.selects "WeightedClauses$Formula" ⟨"WeightedClauses$Formula", "withoutValue", "(II)I"⟩ ⟨"WeightedClauses$Formula", "withoutValue", "(II)I"⟩ : Cond) ∈ xtb := xtb_of 256 (by decide +kernel) rfl
theorem wd_257 : (.code ⟨"WeightedClauses$Formula", "withoutValue", "(II)I"⟩ prog_3_method_6_code 3 (some .int) : Cond) ∈ xtb := xtb_of 257 (by decide +kernel) rfl
theorem wd_258 : (.methodLink "WeightedClauses$Formula" 40 ⟨"WeightedClauses$Formula", "isTrue", "(III)Z"⟩ : Cond) ∈ xtb := xtb_of 258 (by decide +kernel) rfl
theorem wd_259 : (.instanceMethod ⟨"WeightedClauses$Formula", "isTrue", "(III)Z"⟩ : Cond) ∈ xtb := xtb_of 259 (by decide +kernel) rfl
theorem wd_260 : (.selects "WeightedClauses$Formula" ⟨"WeightedClauses$Formula", "isTrue", "(III)Z"⟩ ⟨"WeightedClauses$Formula", "isTrue", "(III)Z"⟩ : Cond) ∈ xtb := xtb_of 260 (by decide +kernel) rfl
theorem wd_261 : (.code ⟨"WeightedClauses$Formula", "isTrue", "(III)Z"⟩ prog_3_method_8_code 4 (some .boolean) : Cond) ∈ xtb := xtb_of 261 (by decide +kernel) rfl
theorem wd_262 : (.methodLink "WeightedClauses$Bounds" 45 ⟨"WeightedClauses$Bounds", "nextSubset", "(II)J"⟩ : Cond) ∈ xtb := xtb_of 262 (by decide +kernel) rfl
theorem wd_264 : (.instanceMethod ⟨"WeightedClauses$Bounds", "nextSubset", "(II)J"⟩ : Cond) ∈ xtb := xtb_of 264 (by decide +kernel) rfl
theorem wd_265 : (.code ⟨"WeightedClauses$Bounds", "nextSubset", "(II)J"⟩ prog_2_method_4_code 6 (some .long) : Cond) ∈ xtb := xtb_of 265 (by decide +kernel) rfl
theorem wd_266 : (.methodLink "WeightedClauses$Bounds" 63 ⟨"WeightedClauses$Bounds", "firstFalseClause", "()I"⟩ : Cond) ∈ xtb := xtb_of 266 (by decide +kernel) rfl
theorem wd_268 : (.instanceMethod ⟨"WeightedClauses$Bounds", "firstFalseClause", "()I"⟩ : Cond) ∈ xtb := xtb_of 268 (by decide +kernel) rfl
theorem wd_269 : (.code ⟨"WeightedClauses$Bounds", "firstFalseClause", "()I"⟩ prog_2_method_6_code 2 (some .int) : Cond) ∈ xtb := xtb_of 269 (by decide +kernel) rfl
theorem wd_270 : (.methodLink "WeightedClauses$Bounds" 81 ⟨"WeightedClauses$Bounds", "isAvailable", "(I)Z"⟩ : Cond) ∈ xtb := xtb_of 270 (by decide +kernel) rfl
theorem wd_272 : (.instanceMethod ⟨"WeightedClauses$Bounds", "isAvailable", "(I)Z"⟩ : Cond) ∈ xtb := xtb_of 272 (by decide +kernel) rfl
theorem wd_273 : (.code ⟨"WeightedClauses$Bounds", "isAvailable", "(I)Z"⟩ prog_2_method_5_code 2 (some .boolean) : Cond) ∈ xtb := xtb_of 273 (by decide +kernel) rfl
theorem wd_274 : (.methodLink "WeightedClauses$Bounds" 85 ⟨"WeightedClauses$Formula", "isFalse", "(III)Z"⟩ : Cond) ∈ xtb := xtb_of 274 (by decide +kernel) rfl
theorem wd_275 : (.methodLink "WeightedClauses$Bounds" 67 ⟨"WeightedClauses$Bounds", "subsetBehind", "(I)J"⟩ : Cond) ∈ xtb := xtb_of 275 (by decide +kernel) rfl
theorem wd_277 : (.instanceMethod ⟨"WeightedClauses$Bounds", "subsetBehind", "(I)J"⟩ : Cond) ∈ xtb := xtb_of 277 (by decide +kernel) rfl
theorem wd_278 : (.code ⟨"WeightedClauses$Bounds", "subsetBehind", "(I)J"⟩ prog_2_method_9_code 6 (some .long) : Cond) ∈ xtb := xtb_of 278 (by decide +kernel) rfl
theorem wd_279 : (.methodLink "WeightedClauses$Bounds" 105 ⟨"WeightedClauses$Formula", "variablesOf", "(I)I"⟩ : Cond) ∈ xtb := xtb_of 279 (by decide +kernel) rfl
theorem wd_280 : (.instanceMethod ⟨"WeightedClauses$Formula", "variablesOf", "(I)I"⟩ : Cond) ∈ xtb := xtb_of 280 (by decide +kernel) rfl
theorem wd_281 : (.selects "WeightedClauses$Formula" ⟨"WeightedClauses$Formula", "variablesOf", "(I)I"⟩ ⟨"WeightedClauses$Formula", "variablesOf", "(I)I"⟩ : Cond) ∈ xtb := xtb_of 281 (by decide +kernel) rfl
theorem wd_282 : (.code ⟨"WeightedClauses$Formula", "variablesOf", "(I)I"⟩ prog_3_method_5_code 2 (some .int) : Cond) ∈ xtb := xtb_of 282 (by decide +kernel) rfl
theorem wd_283 : (.methodLink "WeightedClauses$Bounds" 71 ⟨"WeightedClauses$Bounds", "firstUnitClause", "()I"⟩ : Cond) ∈ xtb := xtb_of 283 (by decide +kernel) rfl
theorem wd_285 : (.instanceMethod ⟨"WeightedClauses$Bounds", "firstUnitClause", "()I"⟩ : Cond) ∈ xtb := xtb_of 285 (by decide +kernel) rfl
theorem wd_286 : (.code ⟨"WeightedClauses$Bounds", "firstUnitClause", "()I"⟩ prog_2_method_7_code 3 (some .int) : Cond) ∈ xtb := xtb_of 286 (by decide +kernel) rfl
theorem wd_287 : (.methodLink "WeightedClauses$Bounds" 89 ⟨"WeightedClauses$Formula", "withoutValue", "(II)I"⟩ : Cond) ∈ xtb := xtb_of 287 (by decide +kernel) rfl
theorem wd_288 : (.methodLink "WeightedClauses$Bounds" 93 ⟨"java/lang/Integer", "bitCount", "(I)I"⟩ : Cond) ∈ xtb := xtb_of 288 (by decide +kernel) rfl
theorem wd_289 : (.static ⟨"java/lang/Integer", "bitCount", "(I)I"⟩ : Cond) ∈ xtb := xtb_of 289 (by decide +kernel) rfl
theorem wd_290 : (.code ⟨"java/lang/Integer", "bitCount", "(I)I"⟩ prog_10_method_49_code 1 (some .int) : Cond) ∈ xtb := xtb_of 290 (by decide +kernel) rfl
theorem wd_291 : (.constant "java/lang/Integer" 265 1431655765 : Cond) ∈ xtb := xtb_of 291 (by decide +kernel) rfl
theorem wd_292 : (.constant "java/lang/Integer" 266 858993459 : Cond) ∈ xtb := xtb_of 292 (by decide +kernel) rfl
theorem wd_293 : (.constant "java/lang/Integer" 267 252645135 : Cond) ∈ xtb := xtb_of 293 (by decide +kernel) rfl
theorem wd_294 : (.methodLink "WeightedClauses$Bounds" 99 ⟨"WeightedClauses$Formula", "isTrue", "(III)Z"⟩ : Cond) ∈ xtb := xtb_of 294 (by decide +kernel) rfl
theorem wd_295 : (.methodLink "WeightedClauses$Bounds" 74 ⟨"WeightedClauses$Bounds", "growBy", "(I)V"⟩ : Cond) ∈ xtb := xtb_of 295 (by decide +kernel) rfl
theorem wd_297 : (.instanceMethod ⟨"WeightedClauses$Bounds", "growBy", "(I)V"⟩ : Cond) ∈ xtb := xtb_of 297 (by decide +kernel) rfl
theorem wd_298 : (.code ⟨"WeightedClauses$Bounds", "growBy", "(I)V"⟩ prog_2_method_8_code 3 (none) : Cond) ∈ xtb := xtb_of 298 (by decide +kernel) rfl
theorem wd_299 : (.methodLink "WeightedClauses$Bounds" 102 ⟨"WeightedClauses$Formula", "literalsSayingTrue", "(I)I"⟩ : Cond) ∈ xtb := xtb_of 299 (by decide +kernel) rfl
theorem wd_300 : (.instanceMethod ⟨"WeightedClauses$Formula", "literalsSayingTrue", "(I)I"⟩ : Cond) ∈ xtb := xtb_of 300 (by decide +kernel) rfl
theorem wd_301 : (.selects "WeightedClauses$Formula" ⟨"WeightedClauses$Formula", "literalsSayingTrue", "(I)I"⟩ ⟨"WeightedClauses$Formula", "literalsSayingTrue", "(I)I"⟩ : Cond) ∈ xtb := xtb_of 301 (by decide +kernel) rfl
theorem wd_302 : (.code ⟨"WeightedClauses$Formula", "literalsSayingTrue", "(I)I"⟩ prog_3_method_7_code 2 (some .int) : Cond) ∈ xtb := xtb_of 302 (by decide +kernel) rfl
theorem wd_303 : (.methodLink "WeightedClauses$Bounds" 48 ⟨"WeightedClauses$Formula", "lightestWeight", "(J)I"⟩ : Cond) ∈ xtb := xtb_of 303 (by decide +kernel) rfl
theorem wd_304 : (.instanceMethod ⟨"WeightedClauses$Formula", "lightestWeight", "(J)I"⟩ : Cond) ∈ xtb := xtb_of 304 (by decide +kernel) rfl
theorem wd_305 : (.selects "WeightedClauses$Formula" ⟨"WeightedClauses$Formula", "lightestWeight", "(J)I"⟩ ⟨"WeightedClauses$Formula", "lightestWeight", "(J)I"⟩ : Cond) ∈ xtb := xtb_of 305 (by decide +kernel) rfl
theorem wd_306 : (.code ⟨"WeightedClauses$Formula", "lightestWeight", "(J)I"⟩ prog_3_method_12_code 6 (some .int) : Cond) ∈ xtb := xtb_of 306 (by decide +kernel) rfl
theorem wd_307 : (.constantLong "WeightedClauses$Bounds" 52 (-1) : Cond) ∈ xtb := xtb_of 307 (by decide +kernel) rfl
theorem wd_308 : (.methodLink "WeightedClauses$Search" 83 ⟨"WeightedClauses$Search", "isGivenUp", "(J)Z"⟩ : Cond) ∈ xtb := xtb_of 308 (by decide +kernel) rfl
theorem wd_310 : (.instanceMethod ⟨"WeightedClauses$Search", "isGivenUp", "(J)Z"⟩ : Cond) ∈ xtb := xtb_of 310 (by decide +kernel) rfl
theorem wd_311 : (.code ⟨"WeightedClauses$Search", "isGivenUp", "(J)Z"⟩ prog_4_method_9_code 3 (some .boolean) : Cond) ∈ xtb := xtb_of 311 (by decide +kernel) rfl
theorem wd_312 : (.methodLink "WeightedClauses$Search" 87 ⟨"WeightedClauses$Search", "putIntoLog", "(II)V"⟩ : Cond) ∈ xtb := xtb_of 312 (by decide +kernel) rfl
theorem wd_314 : (.instanceMethod ⟨"WeightedClauses$Search", "putIntoLog", "(II)V"⟩ : Cond) ∈ xtb := xtb_of 314 (by decide +kernel) rfl
theorem wd_315 : (.code ⟨"WeightedClauses$Search", "putIntoLog", "(II)V"⟩ prog_4_method_10_code 3 (none) : Cond) ∈ xtb := xtb_of 315 (by decide +kernel) rfl
theorem wd_316 : (.methodLink "WeightedClauses$Search" 90 ⟨"WeightedClauses$Search", "branch", "(II)V"⟩ : Cond) ∈ xtb := xtb_of 316 (by decide +kernel) rfl
theorem wd_318 : (.instanceMethod ⟨"WeightedClauses$Search", "branch", "(II)V"⟩ : Cond) ∈ xtb := xtb_of 318 (by decide +kernel) rfl
theorem wd_319 : (.code ⟨"WeightedClauses$Search", "branch", "(II)V"⟩ prog_4_method_11_code 7 (none) : Cond) ∈ xtb := xtb_of 319 (by decide +kernel) rfl
theorem wd_320 : (.methodLink "WeightedClauses$Search" 102 ⟨"WeightedClauses$Formula", "firstLiteral", "(II)I"⟩ : Cond) ∈ xtb := xtb_of 320 (by decide +kernel) rfl
theorem wd_321 : (.instanceMethod ⟨"WeightedClauses$Formula", "firstLiteral", "(II)I"⟩ : Cond) ∈ xtb := xtb_of 321 (by decide +kernel) rfl
theorem wd_322 : (.selects "WeightedClauses$Formula" ⟨"WeightedClauses$Formula", "firstLiteral", "(II)I"⟩ ⟨"WeightedClauses$Formula", "firstLiteral", "(II)I"⟩ : Cond) ∈ xtb := xtb_of 322 (by decide +kernel) rfl
theorem wd_323 : (.code ⟨"WeightedClauses$Formula", "firstLiteral", "(II)I"⟩ prog_3_method_13_code 10 (some .int) : Cond) ∈ xtb := xtb_of 323 (by decide +kernel) rfl
theorem wd_324 : (.methodLink "WeightedClauses$Formula" 49 ⟨"WeightedClauses$Formula", "openClauses", "(II)J"⟩ : Cond) ∈ xtb := xtb_of 324 (by decide +kernel) rfl
theorem wd_325 : (.methodLink "WeightedClauses$Formula" 53 ⟨"WeightedClauses$Formula", "countHolding", "([IIJ)I"⟩ : Cond) ∈ xtb := xtb_of 325 (by decide +kernel) rfl
theorem wd_327 : (.instanceMethod ⟨"WeightedClauses$Formula", "countHolding", "([IIJ)I"⟩ : Cond) ∈ xtb := xtb_of 327 (by decide +kernel) rfl
theorem wd_328 : (.code ⟨"WeightedClauses$Formula", "countHolding", "([IIJ)I"⟩ prog_3_method_14_code 7 (some .int) : Cond) ∈ xtb := xtb_of 328 (by decide +kernel) rfl
theorem wd_329 : (.methodLink "WeightedClauses" 108 ⟨"WeightedClauses$Search", "hasBest", "()Z"⟩ : Cond) ∈ xtb := xtb_of 329 (by decide +kernel) rfl
theorem wd_330 : (.constantLong "WeightedClauses" 116 (-2) : Cond) ∈ xtb := xtb_of 330 (by decide +kernel) rfl
theorem wd_331 : (.methodLink "WeightedClausesLaw" 89 ⟨"WeightedClauses", "value", "(I)I"⟩ : Cond) ∈ xtb := xtb_of 331 (by decide +kernel) rfl
theorem wd_332 : (.instanceMethod ⟨"WeightedClauses", "value", "(I)I"⟩ : Cond) ∈ xtb := xtb_of 332 (by decide +kernel) rfl
theorem wd_333 : (.selects "WeightedClauses" ⟨"WeightedClauses", "value", "(I)I"⟩ ⟨"WeightedClauses", "value", "(I)I"⟩ : Cond) ∈ xtb := xtb_of 333 (by decide +kernel) rfl
theorem wd_334 : (.code ⟨"WeightedClauses", "value", "(I)I"⟩ prog_1_method_12_code 2 (some .int) : Cond) ∈ xtb := xtb_of 334 (by decide +kernel) rfl
theorem wd_335 : (.methodLink "WeightedClausesLaw" 94 ⟨"WeightedClauses", "nodes", "()I"⟩ : Cond) ∈ xtb := xtb_of 335 (by decide +kernel) rfl
theorem wd_336 : (.instanceMethod ⟨"WeightedClauses", "nodes", "()I"⟩ : Cond) ∈ xtb := xtb_of 336 (by decide +kernel) rfl
theorem wd_337 : (.selects "WeightedClauses" ⟨"WeightedClauses", "nodes", "()I"⟩ ⟨"WeightedClauses", "nodes", "()I"⟩ : Cond) ∈ xtb := xtb_of 337 (by decide +kernel) rfl
theorem wd_338 : (.code ⟨"WeightedClauses", "nodes", "()I"⟩ prog_1_method_13_code 1 (some .int) : Cond) ∈ xtb := xtb_of 338 (by decide +kernel) rfl
theorem wd_339 : (.methodLink "WeightedClausesLaw" 98 ⟨"WeightedClauses", "logged", "()I"⟩ : Cond) ∈ xtb := xtb_of 339 (by decide +kernel) rfl
theorem wd_340 : (.instanceMethod ⟨"WeightedClauses", "logged", "()I"⟩ : Cond) ∈ xtb := xtb_of 340 (by decide +kernel) rfl
theorem wd_341 : (.selects "WeightedClauses" ⟨"WeightedClauses", "logged", "()I"⟩ ⟨"WeightedClauses", "logged", "()I"⟩ : Cond) ∈ xtb := xtb_of 341 (by decide +kernel) rfl
theorem wd_342 : (.code ⟨"WeightedClauses", "logged", "()I"⟩ prog_1_method_14_code 1 (some .int) : Cond) ∈ xtb := xtb_of 342 (by decide +kernel) rfl
theorem wd_343 : (.methodLink "WeightedClausesLaw" 102 ⟨"WeightedClauses", "log", "(II)I"⟩ : Cond) ∈ xtb := xtb_of 343 (by decide +kernel) rfl
theorem wd_344 : (.instanceMethod ⟨"WeightedClauses", "log", "(II)I"⟩ : Cond) ∈ xtb := xtb_of 344 (by decide +kernel) rfl
theorem wd_345 : (.selects "WeightedClauses" ⟨"WeightedClauses", "log", "(II)I"⟩ ⟨"WeightedClauses", "log", "(II)I"⟩ : Cond) ∈ xtb := xtb_of 345 (by decide +kernel) rfl
theorem wd_346 : (.code ⟨"WeightedClauses", "log", "(II)I"⟩ prog_1_method_15_code 3 (some .int) : Cond) ∈ xtb := xtb_of 346 (by decide +kernel) rfl
theorem wd_347 : (.methodLink "WeightedClauses" 127 ⟨"WeightedClauses$Search", "isLogged", "(I)Z"⟩ : Cond) ∈ xtb := xtb_of 347 (by decide +kernel) rfl
theorem wd_348 : (.instanceMethod ⟨"WeightedClauses$Search", "isLogged", "(I)Z"⟩ : Cond) ∈ xtb := xtb_of 348 (by decide +kernel) rfl
theorem wd_349 : (.selects "WeightedClauses$Search" ⟨"WeightedClauses$Search", "isLogged", "(I)Z"⟩ ⟨"WeightedClauses$Search", "isLogged", "(I)Z"⟩ : Cond) ∈ xtb := xtb_of 349 (by decide +kernel) rfl
theorem wd_350 : (.code ⟨"WeightedClauses$Search", "isLogged", "(I)Z"⟩ prog_4_method_5_code 2 (some .boolean) : Cond) ∈ xtb := xtb_of 350 (by decide +kernel) rfl
theorem wd_351 : (.methodLink "WeightedClausesLaw" 106 ⟨"WeightedClauses", "best", "(I)J"⟩ : Cond) ∈ xtb := xtb_of 351 (by decide +kernel) rfl
theorem wd_352 : (.instanceMethod ⟨"WeightedClauses", "best", "(I)J"⟩ : Cond) ∈ xtb := xtb_of 352 (by decide +kernel) rfl
theorem wd_353 : (.selects "WeightedClauses" ⟨"WeightedClauses", "best", "(I)J"⟩ ⟨"WeightedClauses", "best", "(I)J"⟩ : Cond) ∈ xtb := xtb_of 353 (by decide +kernel) rfl
theorem wd_354 : (.code ⟨"WeightedClauses", "best", "(I)J"⟩ prog_1_method_16_code 2 (some .long) : Cond) ∈ xtb := xtb_of 354 (by decide +kernel) rfl
theorem wd_355 : (.constantLong "WeightedClauses" 141 (-1) : Cond) ∈ xtb := xtb_of 355 (by decide +kernel) rfl
theorem wd_356 : (.methodLink "WeightedClausesLaw" 35 ⟨"WeightedClausesLaw", "cell", "([II)I"⟩ : Cond) ∈ xtb := xtb_of 356 (by decide +kernel) rfl
theorem wd_357 : (.static ⟨"WeightedClausesLaw", "cell", "([II)I"⟩ : Cond) ∈ xtb := xtb_of 357 (by decide +kernel) rfl
theorem wd_358 : (.code ⟨"WeightedClausesLaw", "cell", "([II)I"⟩ method_2_code 2 (some .int) : Cond) ∈ xtb := xtb_of 358 (by decide +kernel) rfl
theorem wd_359 : (.methodLink "WeightedClausesLaw" 52 ⟨"WeightedClausesLaw", "clause", "(LWeightedClauses;IIIII[J)I"⟩ : Cond) ∈ xtb := xtb_of 359 (by decide +kernel) rfl
theorem wd_360 : (.static ⟨"WeightedClausesLaw", "clause", "(LWeightedClauses;IIIII[J)I"⟩ : Cond) ∈ xtb := xtb_of 360 (by decide +kernel) rfl
theorem wd_362 : (.classLink "WeightedClausesLaw" 13 "java/lang/IllegalArgumentException" : Cond) ∈ xtb := xtb_of 362 (by decide +kernel) rfl
theorem wd_363 : (.classLink "WeightedClausesLaw" 15 "java/lang/IllegalStateException" : Cond) ∈ xtb := xtb_of 363 (by decide +kernel) rfl
theorem wd_364 : (.methodLink "WeightedClausesLaw" 7 ⟨"WeightedClauses", "clause", "(IIIII)I"⟩ : Cond) ∈ xtb := xtb_of 364 (by decide +kernel) rfl
theorem wd_365 : (.instanceMethod ⟨"WeightedClauses", "clause", "(IIIII)I"⟩ : Cond) ∈ xtb := xtb_of 365 (by decide +kernel) rfl
theorem wd_366 : (.selects "WeightedClauses" ⟨"WeightedClauses", "clause", "(IIIII)I"⟩ ⟨"WeightedClauses", "clause", "(IIIII)I"⟩ : Cond) ∈ xtb := xtb_of 366 (by decide +kernel) rfl
theorem wd_367 : (.code ⟨"WeightedClauses", "clause", "(IIIII)I"⟩ prog_1_method_3_code 8 (some .int) : Cond) ∈ xtb := xtb_of 367 (by decide +kernel) rfl
theorem wd_368 : (.methodLink "WeightedClauses" 49 ⟨"WeightedClauses", "isWeight", "(I)Z"⟩ : Cond) ∈ xtb := xtb_of 368 (by decide +kernel) rfl
theorem wd_369 : (.static ⟨"WeightedClauses", "isWeight", "(I)Z"⟩ : Cond) ∈ xtb := xtb_of 369 (by decide +kernel) rfl
theorem wd_370 : (.code ⟨"WeightedClauses", "isWeight", "(I)Z"⟩ prog_1_method_17_code 1 (some .boolean) : Cond) ∈ xtb := xtb_of 370 (by decide +kernel) rfl
theorem wd_371 : (.constant "WeightedClauses" 143 1000000 : Cond) ∈ xtb := xtb_of 371 (by decide +kernel) rfl
theorem wd_372 : (.methodLink "WeightedClauses" 53 ⟨"WeightedClauses", "areLiterals", "(IIII)Z"⟩ : Cond) ∈ xtb := xtb_of 372 (by decide +kernel) rfl
theorem wd_374 : (.instanceMethod ⟨"WeightedClauses", "areLiterals", "(IIII)Z"⟩ : Cond) ∈ xtb := xtb_of 374 (by decide +kernel) rfl
theorem wd_375 : (.code ⟨"WeightedClauses", "areLiterals", "(IIII)Z"⟩ prog_1_method_19_code 7 (some .boolean) : Cond) ∈ xtb := xtb_of 375 (by decide +kernel) rfl
theorem wd_376 : (.methodLink "WeightedClauses" 147 ⟨"WeightedClauses", "isLiteralOrAbsent", "(I)Z"⟩ : Cond) ∈ xtb := xtb_of 376 (by decide +kernel) rfl
theorem wd_378 : (.instanceMethod ⟨"WeightedClauses", "isLiteralOrAbsent", "(I)Z"⟩ : Cond) ∈ xtb := xtb_of 378 (by decide +kernel) rfl
theorem wd_379 : (.code ⟨"WeightedClauses", "isLiteralOrAbsent", "(I)Z"⟩ prog_1_method_20_code 2 (some .boolean) : Cond) ∈ xtb := xtb_of 379 (by decide +kernel) rfl
theorem wd_380 : (.methodLink "WeightedClauses" 150 ⟨"WeightedClauses", "countIfPresent", "(I)I"⟩ : Cond) ∈ xtb := xtb_of 380 (by decide +kernel) rfl
theorem wd_381 : (.static ⟨"WeightedClauses", "countIfPresent", "(I)I"⟩ : Cond) ∈ xtb := xtb_of 381 (by decide +kernel) rfl
theorem wd_382 : (.code ⟨"WeightedClauses", "countIfPresent", "(I)I"⟩ prog_1_method_21_code 1 (some .int) : Cond) ∈ xtb := xtb_of 382 (by decide +kernel) rfl
theorem wd_383 : (.methodLink "WeightedClauses" 153 ⟨"WeightedClauses", "variableBit", "(I)I"⟩ : Cond) ∈ xtb := xtb_of 383 (by decide +kernel) rfl
theorem wd_384 : (.static ⟨"WeightedClauses", "variableBit", "(I)I"⟩ : Cond) ∈ xtb := xtb_of 384 (by decide +kernel) rfl
theorem wd_385 : (.code ⟨"WeightedClauses", "variableBit", "(I)I"⟩ prog_1_method_22_code 1 (some .int) : Cond) ∈ xtb := xtb_of 385 (by decide +kernel) rfl
theorem wd_386 : (.methodLink "WeightedClauses" 69 ⟨"WeightedClauses", "bitIfTrue", "(I)I"⟩ : Cond) ∈ xtb := xtb_of 386 (by decide +kernel) rfl
theorem wd_387 : (.static ⟨"WeightedClauses", "bitIfTrue", "(I)I"⟩ : Cond) ∈ xtb := xtb_of 387 (by decide +kernel) rfl
theorem wd_388 : (.code ⟨"WeightedClauses", "bitIfTrue", "(I)I"⟩ prog_1_method_23_code 1 (some .int) : Cond) ∈ xtb := xtb_of 388 (by decide +kernel) rfl
theorem wd_389 : (.methodLink "WeightedClauses" 73 ⟨"WeightedClauses", "bitIfFalse", "(I)I"⟩ : Cond) ∈ xtb := xtb_of 389 (by decide +kernel) rfl
theorem wd_390 : (.static ⟨"WeightedClauses", "bitIfFalse", "(I)I"⟩ : Cond) ∈ xtb := xtb_of 390 (by decide +kernel) rfl
theorem wd_391 : (.code ⟨"WeightedClauses", "bitIfFalse", "(I)I"⟩ prog_1_method_24_code 1 (some .int) : Cond) ∈ xtb := xtb_of 391 (by decide +kernel) rfl
theorem wd_392 : (.methodLink "WeightedClauses" 156 ⟨"java/lang/Integer", "bitCount", "(I)I"⟩ : Cond) ∈ xtb := xtb_of 392 (by decide +kernel) rfl
theorem wd_393 : (.classLink "WeightedClauses" 57 "java/lang/IllegalArgumentException" : Cond) ∈ xtb := xtb_of 393 (by decide +kernel) rfl
theorem wd_394 : (.instantiable "java/lang/IllegalArgumentException" 6 : Cond) ∈ xtb := xtb_of 394 (by decide +kernel) rfl
theorem wd_402 : (.selects "java/lang/IllegalArgumentException" ⟨"java/lang/Throwable", "fillInStackTrace", "(I)Ljava/lang/Throwable;"⟩ ⟨"java/lang/Throwable", "fillInStackTrace", "(I)Ljava/lang/Throwable;"⟩ : Cond) ∈ xtb := xtb_of 402 (by decide +kernel) rfl
theorem wd_403 : (.selects "java/lang/IllegalArgumentException" ⟨"java/lang/Throwable", "fillInStackTrace", "()Ljava/lang/Throwable;"⟩ ⟨"java/lang/Throwable", "fillInStackTrace", "()Ljava/lang/Throwable;"⟩ : Cond) ∈ xtb := xtb_of 403 (by decide +kernel) rfl
theorem wd_414 : (.fieldLink "java/lang/Throwable" 198 "java/lang/Throwable" "backtrace" "Ljava/lang/Object;" : Cond) ∈ xtb := xtb_of 414 (by decide +kernel) rfl
theorem wd_416 : (.instanceMethod ⟨"java/lang/Throwable", "<init>", "()V"⟩ : Cond) ∈ xtb := xtb_of 416 (by decide +kernel) rfl
theorem wd_417 : (.code ⟨"java/lang/Throwable", "<init>", "()V"⟩ prog_13_method_1_code 1 (none) : Cond) ∈ xtb := xtb_of 417 (by decide +kernel) rfl
theorem wd_418 : (.methodLink "java/lang/Throwable" 1 ⟨"java/lang/Object", "<init>", "()V"⟩ : Cond) ∈ xtb := xtb_of 418 (by decide +kernel) rfl
theorem wd_419 : (.fieldLink "java/lang/Throwable" 13 "java/lang/Throwable" "UNASSIGNED_STACK" "[Ljava/lang/StackTraceElement;" : Cond) ∈ xtb := xtb_of 419 (by decide +kernel) rfl
theorem wd_421 : (.fieldLink "java/lang/Throwable" 20 "java/lang/Throwable" "SUPPRESSED_SENTINEL" "Ljava/util/List;" : Cond) ∈ xtb := xtb_of 421 (by decide +kernel) rfl
theorem wd_423 : (.methodLink "java/lang/Throwable" 27 ⟨"java/lang/Throwable", "fillInStackTrace", "()Ljava/lang/Throwable;"⟩ : Cond) ∈ xtb := xtb_of 423 (by decide +kernel) rfl
theorem wd_424 : (.instanceMethod ⟨"java/lang/Throwable", "fillInStackTrace", "()Ljava/lang/Throwable;"⟩ : Cond) ∈ xtb := xtb_of 424 (by decide +kernel) rfl
theorem wd_426 : (.selects "java/lang/IllegalStateException" ⟨"java/lang/Throwable", "fillInStackTrace", "()Ljava/lang/Throwable;"⟩ ⟨"java/lang/Throwable", "fillInStackTrace", "()Ljava/lang/Throwable;"⟩ : Cond) ∈ xtb := xtb_of 426 (by decide +kernel) rfl
theorem wd_428 : (.methodLink "java/lang/Throwable" 202 ⟨"java/lang/Throwable", "fillInStackTrace", "(I)Ljava/lang/Throwable;"⟩ : Cond) ∈ xtb := xtb_of 428 (by decide +kernel) rfl
theorem wd_430 : (.instanceMethod ⟨"java/lang/Throwable", "fillInStackTrace", "(I)Ljava/lang/Throwable;"⟩ : Cond) ∈ xtb := xtb_of 430 (by decide +kernel) rfl
theorem wd_431 : (.instantiable "java/lang/Throwable" 6 : Cond) ∈ xtb := xtb_of 431 (by decide +kernel) rfl
theorem wd_433 : (.methodLink "WeightedClauses" 59 ⟨"java/lang/IllegalArgumentException", "<init>", "()V"⟩ : Cond) ∈ xtb := xtb_of 433 (by decide +kernel) rfl
theorem wd_434 : (.instanceMethod ⟨"java/lang/IllegalArgumentException", "<init>", "()V"⟩ : Cond) ∈ xtb := xtb_of 434 (by decide +kernel) rfl
theorem wd_435 : (.code ⟨"java/lang/IllegalArgumentException", "<init>", "()V"⟩ prog_8_method_1_code 1 (none) : Cond) ∈ xtb := xtb_of 435 (by decide +kernel) rfl
theorem wd_436 : (.methodLink "java/lang/IllegalArgumentException" 1 ⟨"java/lang/RuntimeException", "<init>", "()V"⟩ : Cond) ∈ xtb := xtb_of 436 (by decide +kernel) rfl
theorem wd_437 : (.instanceMethod ⟨"java/lang/RuntimeException", "<init>", "()V"⟩ : Cond) ∈ xtb := xtb_of 437 (by decide +kernel) rfl
theorem wd_438 : (.code ⟨"java/lang/RuntimeException", "<init>", "()V"⟩ prog_12_method_1_code 1 (none) : Cond) ∈ xtb := xtb_of 438 (by decide +kernel) rfl
theorem wd_439 : (.methodLink "java/lang/RuntimeException" 1 ⟨"java/lang/Exception", "<init>", "()V"⟩ : Cond) ∈ xtb := xtb_of 439 (by decide +kernel) rfl
theorem wd_440 : (.instanceMethod ⟨"java/lang/Exception", "<init>", "()V"⟩ : Cond) ∈ xtb := xtb_of 440 (by decide +kernel) rfl
theorem wd_441 : (.code ⟨"java/lang/Exception", "<init>", "()V"⟩ prog_7_method_1_code 1 (none) : Cond) ∈ xtb := xtb_of 441 (by decide +kernel) rfl
theorem wd_442 : (.methodLink "java/lang/Exception" 1 ⟨"java/lang/Throwable", "<init>", "()V"⟩ : Cond) ∈ xtb := xtb_of 442 (by decide +kernel) rfl
theorem wd_444 : (.fieldLink "java/lang/Throwable" 7 "java/lang/Throwable" "cause" "Ljava/lang/Throwable;" : Cond) ∈ xtb := xtb_of 444 (by decide +kernel) rfl
theorem wd_445 : (.fieldLink "java/lang/Throwable" 17 "java/lang/Throwable" "stackTrace" "[Ljava/lang/StackTraceElement;" : Cond) ∈ xtb := xtb_of 445 (by decide +kernel) rfl
theorem wd_446 : (.fieldLink "java/lang/Throwable" 24 "java/lang/Throwable" "suppressedExceptions" "Ljava/util/List;" : Cond) ∈ xtb := xtb_of 446 (by decide +kernel) rfl
theorem wd_455 : (.classLink "WeightedClauses" 63 "java/lang/IllegalStateException" : Cond) ∈ xtb := xtb_of 455 (by decide +kernel) rfl
theorem wd_456 : (.instantiable "java/lang/IllegalStateException" 6 : Cond) ∈ xtb := xtb_of 456 (by decide +kernel) rfl
theorem wd_458 : (.selects "java/lang/IllegalStateException" ⟨"java/lang/Throwable", "fillInStackTrace", "(I)Ljava/lang/Throwable;"⟩ ⟨"java/lang/Throwable", "fillInStackTrace", "(I)Ljava/lang/Throwable;"⟩ : Cond) ∈ xtb := xtb_of 458 (by decide +kernel) rfl
theorem wd_464 : (.methodLink "WeightedClauses" 65 ⟨"java/lang/IllegalStateException", "<init>", "()V"⟩ : Cond) ∈ xtb := xtb_of 464 (by decide +kernel) rfl
theorem wd_465 : (.instanceMethod ⟨"java/lang/IllegalStateException", "<init>", "()V"⟩ : Cond) ∈ xtb := xtb_of 465 (by decide +kernel) rfl
theorem wd_466 : (.code ⟨"java/lang/IllegalStateException", "<init>", "()V"⟩ prog_9_method_1_code 1 (none) : Cond) ∈ xtb := xtb_of 466 (by decide +kernel) rfl
theorem wd_467 : (.methodLink "java/lang/IllegalStateException" 1 ⟨"java/lang/RuntimeException", "<init>", "()V"⟩ : Cond) ∈ xtb := xtb_of 467 (by decide +kernel) rfl
theorem wd_470 : (.methodLink "WeightedClauses" 76 ⟨"WeightedClauses$Formula", "add", "(III)I"⟩ : Cond) ∈ xtb := xtb_of 470 (by decide +kernel) rfl
theorem wd_471 : (.instanceMethod ⟨"WeightedClauses$Formula", "add", "(III)I"⟩ : Cond) ∈ xtb := xtb_of 471 (by decide +kernel) rfl
theorem wd_472 : (.selects "WeightedClauses$Formula" ⟨"WeightedClauses$Formula", "add", "(III)I"⟩ ⟨"WeightedClauses$Formula", "add", "(III)I"⟩ : Cond) ∈ xtb := xtb_of 472 (by decide +kernel) rfl
theorem wd_473 : (.code ⟨"WeightedClauses$Formula", "add", "(III)I"⟩ prog_3_method_2_code 5 (some .int) : Cond) ∈ xtb := xtb_of 473 (by decide +kernel) rfl
theorem wd_474 : (.methodLink "WeightedClausesLaw" 63 ⟨"WeightedClausesLaw", "weigh", "(LWeightedClauses;II[J)I"⟩ : Cond) ∈ xtb := xtb_of 474 (by decide +kernel) rfl
theorem wd_475 : (.static ⟨"WeightedClausesLaw", "weigh", "(LWeightedClauses;II[J)I"⟩ : Cond) ∈ xtb := xtb_of 475 (by decide +kernel) rfl
theorem wd_477 : (.methodLink "WeightedClausesLaw" 17 ⟨"WeightedClauses", "weigh", "(II)I"⟩ : Cond) ∈ xtb := xtb_of 477 (by decide +kernel) rfl
theorem wd_478 : (.instanceMethod ⟨"WeightedClauses", "weigh", "(II)I"⟩ : Cond) ∈ xtb := xtb_of 478 (by decide +kernel) rfl
theorem wd_479 : (.selects "WeightedClauses" ⟨"WeightedClauses", "weigh", "(II)I"⟩ ⟨"WeightedClauses", "weigh", "(II)I"⟩ : Cond) ∈ xtb := xtb_of 479 (by decide +kernel) rfl
theorem wd_480 : (.code ⟨"WeightedClauses", "weigh", "(II)I"⟩ prog_1_method_5_code 3 (some .int) : Cond) ∈ xtb := xtb_of 480 (by decide +kernel) rfl
theorem wd_481 : (.methodLink "WeightedClauses" 84 ⟨"WeightedClauses$Formula", "replaceWeight", "(II)I"⟩ : Cond) ∈ xtb := xtb_of 481 (by decide +kernel) rfl
theorem wd_482 : (.instanceMethod ⟨"WeightedClauses$Formula", "replaceWeight", "(II)I"⟩ : Cond) ∈ xtb := xtb_of 482 (by decide +kernel) rfl
theorem wd_483 : (.selects "WeightedClauses$Formula" ⟨"WeightedClauses$Formula", "replaceWeight", "(II)I"⟩ ⟨"WeightedClauses$Formula", "replaceWeight", "(II)I"⟩ : Cond) ∈ xtb := xtb_of 483 (by decide +kernel) rfl
theorem wd_484 : (.code ⟨"WeightedClauses$Formula", "replaceWeight", "(II)I"⟩ prog_3_method_4_code 4 (some .int) : Cond) ∈ xtb := xtb_of 484 (by decide +kernel) rfl
theorem wd_485 : (.methodLink "WeightedClausesLaw" 71 ⟨"WeightedClausesLaw", "cost", "(LWeightedClauses;II[J)I"⟩ : Cond) ∈ xtb := xtb_of 485 (by decide +kernel) rfl
theorem wd_486 : (.static ⟨"WeightedClausesLaw", "cost", "(LWeightedClauses;II[J)I"⟩ : Cond) ∈ xtb := xtb_of 486 (by decide +kernel) rfl
theorem wd_488 : (.methodLink "WeightedClausesLaw" 21 ⟨"WeightedClauses", "cost", "(II)J"⟩ : Cond) ∈ xtb := xtb_of 488 (by decide +kernel) rfl
theorem wd_489 : (.instanceMethod ⟨"WeightedClauses", "cost", "(II)J"⟩ : Cond) ∈ xtb := xtb_of 489 (by decide +kernel) rfl
theorem wd_490 : (.selects "WeightedClauses" ⟨"WeightedClauses", "cost", "(II)J"⟩ ⟨"WeightedClauses", "cost", "(II)J"⟩ : Cond) ∈ xtb := xtb_of 490 (by decide +kernel) rfl
end
section
theorem wd_491 : (.code ⟨"WeightedClauses", "cost", "(II)J"⟩ prog_1_method_7_code 3 (some .long) : Cond) ∈ xtb := xtb_of 491 (by decide +kernel) rfl
theorem wd_492 : (.methodLink "WeightedClauses" 87 ⟨"WeightedClauses", "isState", "(II)Z"⟩ : Cond) ∈ xtb := xtb_of 492 (by decide +kernel) rfl
theorem wd_494 : (.instanceMethod ⟨"WeightedClauses", "isState", "(II)Z"⟩ : Cond) ∈ xtb := xtb_of 494 (by decide +kernel) rfl
theorem wd_495 : (.code ⟨"WeightedClauses", "isState", "(II)Z"⟩ prog_1_method_18_code 3 (some .boolean) : Cond) ∈ xtb := xtb_of 495 (by decide +kernel) rfl
theorem wd_496 : (.methodLink "WeightedClauses" 91 ⟨"WeightedClauses$Formula", "costOf", "(II)J"⟩ : Cond) ∈ xtb := xtb_of 496 (by decide +kernel) rfl
theorem wd_497 : (.methodLink "WeightedClausesLaw" 74 ⟨"WeightedClausesLaw", "bound", "(LWeightedClauses;II[J)I"⟩ : Cond) ∈ xtb := xtb_of 497 (by decide +kernel) rfl
theorem wd_498 : (.static ⟨"WeightedClausesLaw", "bound", "(LWeightedClauses;II[J)I"⟩ : Cond) ∈ xtb := xtb_of 498 (by decide +kernel) rfl
theorem wd_500 : (.methodLink "WeightedClausesLaw" 25 ⟨"WeightedClauses", "bound", "(II)J"⟩ : Cond) ∈ xtb := xtb_of 500 (by decide +kernel) rfl
theorem wd_501 : (.instanceMethod ⟨"WeightedClauses", "bound", "(II)J"⟩ : Cond) ∈ xtb := xtb_of 501 (by decide +kernel) rfl
theorem wd_502 : (.selects "WeightedClauses" ⟨"WeightedClauses", "bound", "(II)J"⟩ ⟨"WeightedClauses", "bound", "(II)J"⟩ : Cond) ∈ xtb := xtb_of 502 (by decide +kernel) rfl
theorem wd_503 : (.code ⟨"WeightedClauses", "bound", "(II)J"⟩ prog_1_method_8_code 3 (some .long) : Cond) ∈ xtb := xtb_of 503 (by decide +kernel) rfl
theorem wd_504 : (.methodLink "WeightedClauses" 95 ⟨"WeightedClauses$Bounds", "boundOf", "(II)J"⟩ : Cond) ∈ xtb := xtb_of 504 (by decide +kernel) rfl
theorem wd_505 : (.methodLink "WeightedClausesLaw" 77 ⟨"WeightedClausesLaw", "subset", "(LWeightedClauses;III[J)I"⟩ : Cond) ∈ xtb := xtb_of 505 (by decide +kernel) rfl
theorem wd_506 : (.static ⟨"WeightedClausesLaw", "subset", "(LWeightedClauses;III[J)I"⟩ : Cond) ∈ xtb := xtb_of 506 (by decide +kernel) rfl
theorem wd_508 : (.methodLink "WeightedClausesLaw" 28 ⟨"WeightedClauses", "subset", "(III)J"⟩ : Cond) ∈ xtb := xtb_of 508 (by decide +kernel) rfl
theorem wd_509 : (.instanceMethod ⟨"WeightedClauses", "subset", "(III)J"⟩ : Cond) ∈ xtb := xtb_of 509 (by decide +kernel) rfl
theorem wd_510 : (.selects "WeightedClauses" ⟨"WeightedClauses", "subset", "(III)J"⟩ ⟨"WeightedClauses", "subset", "(III)J"⟩ : Cond) ∈ xtb := xtb_of 510 (by decide +kernel) rfl
theorem wd_511 : (.code ⟨"WeightedClauses", "subset", "(III)J"⟩ prog_1_method_9_code 4 (some .long) : Cond) ∈ xtb := xtb_of 511 (by decide +kernel) rfl
theorem wd_512 : (.methodLink "WeightedClauses" 98 ⟨"WeightedClauses$Bounds", "subsetAt", "(I)J"⟩ : Cond) ∈ xtb := xtb_of 512 (by decide +kernel) rfl
theorem wd_513 : (.instanceMethod ⟨"WeightedClauses$Bounds", "subsetAt", "(I)J"⟩ : Cond) ∈ xtb := xtb_of 513 (by decide +kernel) rfl
theorem wd_514 : (.selects "WeightedClauses$Bounds" ⟨"WeightedClauses$Bounds", "subsetAt", "(I)J"⟩ ⟨"WeightedClauses$Bounds", "subsetAt", "(I)J"⟩ : Cond) ∈ xtb := xtb_of 514 (by decide +kernel) rfl
theorem wd_515 : (.code ⟨"WeightedClauses$Bounds", "subsetAt", "(I)J"⟩ prog_2_method_3_code 2 (some .long) : Cond) ∈ xtb := xtb_of 515 (by decide +kernel) rfl
theorem wd_516 : (.methodLink "WeightedClausesLaw" 81 ⟨"WeightedClausesLaw", "first", "(LWeightedClauses;II[J)I"⟩ : Cond) ∈ xtb := xtb_of 516 (by decide +kernel) rfl
theorem wd_517 : (.static ⟨"WeightedClausesLaw", "first", "(LWeightedClauses;II[J)I"⟩ : Cond) ∈ xtb := xtb_of 517 (by decide +kernel) rfl
theorem wd_519 : (.methodLink "WeightedClausesLaw" 32 ⟨"WeightedClauses", "first", "(II)I"⟩ : Cond) ∈ xtb := xtb_of 519 (by decide +kernel) rfl
theorem wd_520 : (.instanceMethod ⟨"WeightedClauses", "first", "(II)I"⟩ : Cond) ∈ xtb := xtb_of 520 (by decide +kernel) rfl
theorem wd_521 : (.selects "WeightedClauses" ⟨"WeightedClauses", "first", "(II)I"⟩ ⟨"WeightedClauses", "first", "(II)I"⟩ : Cond) ∈ xtb := xtb_of 521 (by decide +kernel) rfl
theorem wd_522 : (.code ⟨"WeightedClauses", "first", "(II)I"⟩ prog_1_method_10_code 3 (some .int) : Cond) ∈ xtb := xtb_of 522 (by decide +kernel) rfl
theorem wd_523 : (.methodLink "WeightedClauses" 102 ⟨"WeightedClauses$Formula", "firstLiteral", "(II)I"⟩ : Cond) ∈ xtb := xtb_of 523 (by decide +kernel) rfl
theorem wd_524 : (.classLink "WeightedClausesLaw" 44 "WeightedClausesModel" : Cond) ∈ xtb := xtb_of 524 (by decide +kernel) rfl
theorem wd_525 : (.instantiable "WeightedClausesModel" 25 : Cond) ∈ xtb := xtb_of 525 (by decide +kernel) rfl
theorem wd_526 : (.methodLink "WeightedClausesLaw" 46 ⟨"WeightedClausesModel", "<init>", "(I)V"⟩ : Cond) ∈ xtb := xtb_of 526 (by decide +kernel) rfl
theorem wd_527 : (.instanceMethod ⟨"WeightedClausesModel", "<init>", "(I)V"⟩ : Cond) ∈ xtb := xtb_of 527 (by decide +kernel) rfl
theorem wd_528 : (.code ⟨"WeightedClausesModel", "<init>", "(I)V"⟩ prog_6_method_1_code 2 (none) : Cond) ∈ xtb := xtb_of 528 (by decide +kernel) rfl
theorem wd_529 : (.methodLink "WeightedClausesModel" 1 ⟨"java/lang/Object", "<init>", "()V"⟩ : Cond) ∈ xtb := xtb_of 529 (by decide +kernel) rfl
theorem wd_530 : (.fieldLink "WeightedClausesModel" 49 "WeightedClausesModel" "code" "I" : Cond) ∈ xtb := xtb_of 530 (by decide +kernel) rfl
theorem wd_531 : (.fieldLink "WeightedClausesModel" 45 "WeightedClausesModel" "variables" "I" : Cond) ∈ xtb := xtb_of 531 (by decide +kernel) rfl
theorem wd_532 : (.fieldLink "WeightedClausesModel" 75 "WeightedClausesModel" "clauses" "I" : Cond) ∈ xtb := xtb_of 532 (by decide +kernel) rfl
theorem wd_533 : (.fieldLink "WeightedClausesModel" 7 "WeightedClausesModel" "yes" "[I" : Cond) ∈ xtb := xtb_of 533 (by decide +kernel) rfl
theorem wd_534 : (.fieldLink "WeightedClausesModel" 13 "WeightedClausesModel" "no" "[I" : Cond) ∈ xtb := xtb_of 534 (by decide +kernel) rfl
theorem wd_535 : (.fieldLink "WeightedClausesModel" 16 "WeightedClausesModel" "weights" "[I" : Cond) ∈ xtb := xtb_of 535 (by decide +kernel) rfl
theorem wd_536 : (.fieldLink "WeightedClausesModel" 120 "WeightedClausesModel" "hopeless" "Z" : Cond) ∈ xtb := xtb_of 536 (by decide +kernel) rfl
theorem wd_537 : (.fieldLink "WeightedClausesModel" 123 "WeightedClausesModel" "bound" "J" : Cond) ∈ xtb := xtb_of 537 (by decide +kernel) rfl
theorem wd_538 : (.fieldLink "WeightedClausesModel" 117 "WeightedClausesModel" "subsets" "I" : Cond) ∈ xtb := xtb_of 538 (by decide +kernel) rfl
theorem wd_539 : (.fieldLink "WeightedClausesModel" 19 "WeightedClausesModel" "subset" "[J" : Cond) ∈ xtb := xtb_of 539 (by decide +kernel) rfl
theorem wd_540 : (.fieldLink "WeightedClausesModel" 23 "WeightedClausesModel" "available" "[Z" : Cond) ∈ xtb := xtb_of 540 (by decide +kernel) rfl
theorem wd_541 : (.fieldLink "WeightedClausesModel" 27 "WeightedClausesModel" "reason" "[I" : Cond) ∈ xtb := xtb_of 541 (by decide +kernel) rfl
theorem wd_542 : (.fieldLink "WeightedClausesModel" 101 "WeightedClausesModel" "grownHave" "I" : Cond) ∈ xtb := xtb_of 542 (by decide +kernel) rfl
theorem wd_543 : (.fieldLink "WeightedClausesModel" 104 "WeightedClausesModel" "grownValues" "I" : Cond) ∈ xtb := xtb_of 543 (by decide +kernel) rfl
theorem wd_544 : (.fieldLink "WeightedClausesModel" 52 "WeightedClausesModel" "found" "Z" : Cond) ∈ xtb := xtb_of 544 (by decide +kernel) rfl
theorem wd_545 : (.fieldLink "WeightedClausesModel" 147 "WeightedClausesModel" "bestValues" "I" : Cond) ∈ xtb := xtb_of 545 (by decide +kernel) rfl
theorem wd_546 : (.fieldLink "WeightedClausesModel" 144 "WeightedClausesModel" "bestCost" "J" : Cond) ∈ xtb := xtb_of 546 (by decide +kernel) rfl
theorem wd_547 : (.fieldLink "WeightedClausesModel" 56 "WeightedClausesModel" "nodes" "I" : Cond) ∈ xtb := xtb_of 547 (by decide +kernel) rfl
theorem wd_548 : (.fieldLink "WeightedClausesModel" 59 "WeightedClausesModel" "logs" "I" : Cond) ∈ xtb := xtb_of 548 (by decide +kernel) rfl
theorem wd_549 : (.fieldLink "WeightedClausesModel" 30 "WeightedClausesModel" "logHave" "[I" : Cond) ∈ xtb := xtb_of 549 (by decide +kernel) rfl
theorem wd_550 : (.fieldLink "WeightedClausesModel" 33 "WeightedClausesModel" "logValues" "[I" : Cond) ∈ xtb := xtb_of 550 (by decide +kernel) rfl
theorem wd_551 : (.fieldLink "WeightedClausesModel" 36 "WeightedClausesModel" "logBest" "[J" : Cond) ∈ xtb := xtb_of 551 (by decide +kernel) rfl
theorem wd_552 : (.fieldLink "WeightedClausesModel" 141 "WeightedClausesModel" "waiting" "I" : Cond) ∈ xtb := xtb_of 552 (by decide +kernel) rfl
theorem wd_553 : (.fieldLink "WeightedClausesModel" 39 "WeightedClausesModel" "waitHave" "[I" : Cond) ∈ xtb := xtb_of 553 (by decide +kernel) rfl
theorem wd_554 : (.fieldLink "WeightedClausesModel" 42 "WeightedClausesModel" "waitValues" "[I" : Cond) ∈ xtb := xtb_of 554 (by decide +kernel) rfl
theorem wd_606 : (.arrayClass .boolean : Cond) ∈ xtb := xtb_of 606 (by decide +kernel) rfl
theorem wd_607 : (.methodLink "WeightedClausesLaw" 56 ⟨"WeightedClausesModel", "thrown", "()I"⟩ : Cond) ∈ xtb := xtb_of 607 (by decide +kernel) rfl
theorem wd_608 : (.instanceMethod ⟨"WeightedClausesModel", "thrown", "()I"⟩ : Cond) ∈ xtb := xtb_of 608 (by decide +kernel) rfl
theorem wd_609 : (.selects "WeightedClausesModel" ⟨"WeightedClausesModel", "thrown", "()I"⟩ ⟨"WeightedClausesModel", "thrown", "()I"⟩ : Cond) ∈ xtb := xtb_of 609 (by decide +kernel) rfl
theorem wd_610 : (.code ⟨"WeightedClausesModel", "thrown", "()I"⟩ prog_6_method_2_code 1 (some .int) : Cond) ∈ xtb := xtb_of 610 (by decide +kernel) rfl
theorem wd_611 : (.methodLink "WeightedClausesLaw" 51 ⟨"WeightedClausesModel", "variables", "()I"⟩ : Cond) ∈ xtb := xtb_of 611 (by decide +kernel) rfl
theorem wd_612 : (.instanceMethod ⟨"WeightedClausesModel", "variables", "()I"⟩ : Cond) ∈ xtb := xtb_of 612 (by decide +kernel) rfl
theorem wd_613 : (.selects "WeightedClausesModel" ⟨"WeightedClausesModel", "variables", "()I"⟩ ⟨"WeightedClausesModel", "variables", "()I"⟩ : Cond) ∈ xtb := xtb_of 613 (by decide +kernel) rfl
theorem wd_614 : (.code ⟨"WeightedClausesModel", "variables", "()I"⟩ prog_6_method_3_code 1 (some .int) : Cond) ∈ xtb := xtb_of 614 (by decide +kernel) rfl
theorem wd_615 : (.methodLink "WeightedClausesLaw" 55 ⟨"WeightedClausesModel", "clause", "(IIIII)I"⟩ : Cond) ∈ xtb := xtb_of 615 (by decide +kernel) rfl
theorem wd_616 : (.instanceMethod ⟨"WeightedClausesModel", "clause", "(IIIII)I"⟩ : Cond) ∈ xtb := xtb_of 616 (by decide +kernel) rfl
theorem wd_617 : (.selects "WeightedClausesModel" ⟨"WeightedClausesModel", "clause", "(IIIII)I"⟩ ⟨"WeightedClausesModel", "clause", "(IIIII)I"⟩ : Cond) ∈ xtb := xtb_of 617 (by decide +kernel) rfl
theorem wd_618 : (.code ⟨"WeightedClausesModel", "clause", "(IIIII)I"⟩ prog_6_method_8_code 10 (some .int) : Cond) ∈ xtb := xtb_of 618 (by decide +kernel) rfl
theorem wd_619 : (.constant "WeightedClausesModel" 62 1000000 : Cond) ∈ xtb := xtb_of 619 (by decide +kernel) rfl
theorem wd_620 : (.methodLink "WeightedClausesModel" 63 ⟨"WeightedClausesModel", "noLiteral", "(I)Z"⟩ : Cond) ∈ xtb := xtb_of 620 (by decide +kernel) rfl
theorem wd_622 : (.instanceMethod ⟨"WeightedClausesModel", "noLiteral", "(I)Z"⟩ : Cond) ∈ xtb := xtb_of 622 (by decide +kernel) rfl
theorem wd_623 : (.code ⟨"WeightedClausesModel", "noLiteral", "(I)Z"⟩ prog_6_method_5_code 2 (some .boolean) : Cond) ∈ xtb := xtb_of 623 (by decide +kernel) rfl
theorem wd_624 : (.methodLink "WeightedClausesModel" 67 ⟨"WeightedClausesModel", "says", "(II)I"⟩ : Cond) ∈ xtb := xtb_of 624 (by decide +kernel) rfl
theorem wd_625 : (.static ⟨"WeightedClausesModel", "says", "(II)I"⟩ : Cond) ∈ xtb := xtb_of 625 (by decide +kernel) rfl
theorem wd_626 : (.code ⟨"WeightedClausesModel", "says", "(II)I"⟩ prog_6_method_6_code 2 (some .int) : Cond) ∈ xtb := xtb_of 626 (by decide +kernel) rfl
theorem wd_627 : (.methodLink "WeightedClausesModel" 71 ⟨"WeightedClausesModel", "count", "(I)I"⟩ : Cond) ∈ xtb := xtb_of 627 (by decide +kernel) rfl
theorem wd_628 : (.static ⟨"WeightedClausesModel", "count", "(I)I"⟩ : Cond) ∈ xtb := xtb_of 628 (by decide +kernel) rfl
theorem wd_629 : (.code ⟨"WeightedClausesModel", "count", "(I)I"⟩ prog_6_method_7_code 3 (some .int) : Cond) ∈ xtb := xtb_of 629 (by decide +kernel) rfl
theorem wd_630 : (.methodLink "WeightedClausesModel" 78 ⟨"WeightedClausesModel", "forget", "()V"⟩ : Cond) ∈ xtb := xtb_of 630 (by decide +kernel) rfl
theorem wd_632 : (.instanceMethod ⟨"WeightedClausesModel", "forget", "()V"⟩ : Cond) ∈ xtb := xtb_of 632 (by decide +kernel) rfl
theorem wd_633 : (.code ⟨"WeightedClausesModel", "forget", "()V"⟩ prog_6_method_4_code 1 (none) : Cond) ∈ xtb := xtb_of 633 (by decide +kernel) rfl
theorem wd_634 : (.methodLink "WeightedClausesLaw" 62 ⟨"WeightedClausesModel", "drop", "()I"⟩ : Cond) ∈ xtb := xtb_of 634 (by decide +kernel) rfl
theorem wd_635 : (.instanceMethod ⟨"WeightedClausesModel", "drop", "()I"⟩ : Cond) ∈ xtb := xtb_of 635 (by decide +kernel) rfl
theorem wd_636 : (.selects "WeightedClausesModel" ⟨"WeightedClausesModel", "drop", "()I"⟩ ⟨"WeightedClausesModel", "drop", "()I"⟩ : Cond) ∈ xtb := xtb_of 636 (by decide +kernel) rfl
theorem wd_637 : (.code ⟨"WeightedClausesModel", "drop", "()I"⟩ prog_6_method_9_code 1 (some .int) : Cond) ∈ xtb := xtb_of 637 (by decide +kernel) rfl
theorem wd_638 : (.methodLink "WeightedClausesLaw" 66 ⟨"WeightedClausesModel", "weigh", "(II)I"⟩ : Cond) ∈ xtb := xtb_of 638 (by decide +kernel) rfl
theorem wd_639 : (.instanceMethod ⟨"WeightedClausesModel", "weigh", "(II)I"⟩ : Cond) ∈ xtb := xtb_of 639 (by decide +kernel) rfl
theorem wd_640 : (.selects "WeightedClausesModel" ⟨"WeightedClausesModel", "weigh", "(II)I"⟩ ⟨"WeightedClausesModel", "weigh", "(II)I"⟩ : Cond) ∈ xtb := xtb_of 640 (by decide +kernel) rfl
theorem wd_641 : (.code ⟨"WeightedClausesModel", "weigh", "(II)I"⟩ prog_6_method_10_code 4 (some .int) : Cond) ∈ xtb := xtb_of 641 (by decide +kernel) rfl
theorem wd_642 : (.methodLink "WeightedClausesLaw" 70 ⟨"WeightedClausesModel", "clauses", "()I"⟩ : Cond) ∈ xtb := xtb_of 642 (by decide +kernel) rfl
theorem wd_643 : (.instanceMethod ⟨"WeightedClausesModel", "clauses", "()I"⟩ : Cond) ∈ xtb := xtb_of 643 (by decide +kernel) rfl
theorem wd_644 : (.selects "WeightedClausesModel" ⟨"WeightedClausesModel", "clauses", "()I"⟩ ⟨"WeightedClausesModel", "clauses", "()I"⟩ : Cond) ∈ xtb := xtb_of 644 (by decide +kernel) rfl
theorem wd_645 : (.code ⟨"WeightedClausesModel", "clauses", "()I"⟩ prog_6_method_11_code 1 (some .int) : Cond) ∈ xtb := xtb_of 645 (by decide +kernel) rfl
theorem wd_646 : (.methodLink "WeightedClausesLaw" 73 ⟨"WeightedClausesModel", "cost", "(II)J"⟩ : Cond) ∈ xtb := xtb_of 646 (by decide +kernel) rfl
theorem wd_647 : (.instanceMethod ⟨"WeightedClausesModel", "cost", "(II)J"⟩ : Cond) ∈ xtb := xtb_of 647 (by decide +kernel) rfl
theorem wd_648 : (.selects "WeightedClausesModel" ⟨"WeightedClausesModel", "cost", "(II)J"⟩ ⟨"WeightedClausesModel", "cost", "(II)J"⟩ : Cond) ∈ xtb := xtb_of 648 (by decide +kernel) rfl
theorem wd_649 : (.code ⟨"WeightedClausesModel", "cost", "(II)J"⟩ prog_6_method_18_code 3 (some .long) : Cond) ∈ xtb := xtb_of 649 (by decide +kernel) rfl
theorem wd_650 : (.methodLink "WeightedClausesModel" 88 ⟨"WeightedClausesModel", "noState", "(II)Z"⟩ : Cond) ∈ xtb := xtb_of 650 (by decide +kernel) rfl
theorem wd_652 : (.instanceMethod ⟨"WeightedClausesModel", "noState", "(II)Z"⟩ : Cond) ∈ xtb := xtb_of 652 (by decide +kernel) rfl
theorem wd_653 : (.code ⟨"WeightedClausesModel", "noState", "(II)Z"⟩ prog_6_method_12_code 3 (some .boolean) : Cond) ∈ xtb := xtb_of 653 (by decide +kernel) rfl
theorem wd_654 : (.methodLink "WeightedClausesModel" 92 ⟨"WeightedClausesModel", "breaks", "(II)Z"⟩ : Cond) ∈ xtb := xtb_of 654 (by decide +kernel) rfl
theorem wd_656 : (.instanceMethod ⟨"WeightedClausesModel", "breaks", "(II)Z"⟩ : Cond) ∈ xtb := xtb_of 656 (by decide +kernel) rfl
theorem wd_657 : (.code ⟨"WeightedClausesModel", "breaks", "(II)Z"⟩ prog_6_method_17_code 5 (some .boolean) : Cond) ∈ xtb := xtb_of 657 (by decide +kernel) rfl
theorem wd_658 : (.methodLink "WeightedClausesModel" 85 ⟨"WeightedClausesModel", "isFalse", "(III)Z"⟩ : Cond) ∈ xtb := xtb_of 658 (by decide +kernel) rfl
theorem wd_660 : (.instanceMethod ⟨"WeightedClausesModel", "isFalse", "(III)Z"⟩ : Cond) ∈ xtb := xtb_of 660 (by decide +kernel) rfl
theorem wd_661 : (.code ⟨"WeightedClausesModel", "isFalse", "(III)Z"⟩ prog_6_method_14_code 4 (some .boolean) : Cond) ∈ xtb := xtb_of 661 (by decide +kernel) rfl
theorem wd_662 : (.methodLink "WeightedClausesModel" 81 ⟨"WeightedClausesModel", "isTrue", "(III)Z"⟩ : Cond) ∈ xtb := xtb_of 662 (by decide +kernel) rfl
theorem wd_664 : (.instanceMethod ⟨"WeightedClausesModel", "isTrue", "(III)Z"⟩ : Cond) ∈ xtb := xtb_of 664 (by decide +kernel) rfl
theorem wd_665 : (.code ⟨"WeightedClausesModel", "isTrue", "(III)Z"⟩ prog_6_method_13_code 4 (some .boolean) : Cond) ∈ xtb := xtb_of 665 (by decide +kernel) rfl
theorem wd_666 : (.constantLong "WeightedClausesModel" 95 (-2) : Cond) ∈ xtb := xtb_of 666 (by decide +kernel) rfl
theorem wd_667 : (.methodLink "WeightedClausesModel" 97 ⟨"WeightedClausesModel", "costOf", "(II)J"⟩ : Cond) ∈ xtb := xtb_of 667 (by decide +kernel) rfl
theorem wd_669 : (.instanceMethod ⟨"WeightedClausesModel", "costOf", "(II)J"⟩ : Cond) ∈ xtb := xtb_of 669 (by decide +kernel) rfl
theorem wd_670 : (.code ⟨"WeightedClausesModel", "costOf", "(II)J"⟩ prog_6_method_16_code 6 (some .long) : Cond) ∈ xtb := xtb_of 670 (by decide +kernel) rfl
theorem wd_671 : (.methodLink "WeightedClausesLaw" 76 ⟨"WeightedClausesModel", "bound", "(II)J"⟩ : Cond) ∈ xtb := xtb_of 671 (by decide +kernel) rfl
theorem wd_672 : (.instanceMethod ⟨"WeightedClausesModel", "bound", "(II)J"⟩ : Cond) ∈ xtb := xtb_of 672 (by decide +kernel) rfl
theorem wd_673 : (.selects "WeightedClausesModel" ⟨"WeightedClausesModel", "bound", "(II)J"⟩ ⟨"WeightedClausesModel", "bound", "(II)J"⟩ : Cond) ∈ xtb := xtb_of 673 (by decide +kernel) rfl
theorem wd_674 : (.code ⟨"WeightedClausesModel", "bound", "(II)J"⟩ prog_6_method_24_code 3 (some .long) : Cond) ∈ xtb := xtb_of 674 (by decide +kernel) rfl
theorem wd_675 : (.methodLink "WeightedClausesModel" 134 ⟨"WeightedClausesModel", "reckon", "(II)V"⟩ : Cond) ∈ xtb := xtb_of 675 (by decide +kernel) rfl
theorem wd_677 : (.instanceMethod ⟨"WeightedClausesModel", "reckon", "(II)V"⟩ : Cond) ∈ xtb := xtb_of 677 (by decide +kernel) rfl
theorem wd_678 : (.code ⟨"WeightedClausesModel", "reckon", "(II)V"⟩ prog_6_method_23_code 9 (none) : Cond) ∈ xtb := xtb_of 678 (by decide +kernel) rfl
theorem wd_679 : (.methodLink "WeightedClausesModel" 107 ⟨"WeightedClausesModel", "isOpen", "(III)Z"⟩ : Cond) ∈ xtb := xtb_of 679 (by decide +kernel) rfl
theorem wd_681 : (.instanceMethod ⟨"WeightedClausesModel", "isOpen", "(III)Z"⟩ : Cond) ∈ xtb := xtb_of 681 (by decide +kernel) rfl
theorem wd_682 : (.code ⟨"WeightedClausesModel", "isOpen", "(III)Z"⟩ prog_6_method_15_code 4 (some .boolean) : Cond) ∈ xtb := xtb_of 682 (by decide +kernel) rfl
theorem wd_683 : (.methodLink "WeightedClausesModel" 127 ⟨"WeightedClausesModel", "grow", "(II)I"⟩ : Cond) ∈ xtb := xtb_of 683 (by decide +kernel) rfl
theorem wd_685 : (.instanceMethod ⟨"WeightedClausesModel", "grow", "(II)I"⟩ : Cond) ∈ xtb := xtb_of 685 (by decide +kernel) rfl
theorem wd_686 : (.code ⟨"WeightedClausesModel", "grow", "(II)I"⟩ prog_6_method_21_code 7 (some .int) : Cond) ∈ xtb := xtb_of 686 (by decide +kernel) rfl
theorem wd_687 : (.methodLink "WeightedClausesModel" 110 ⟨"WeightedClausesModel", "broken", "()I"⟩ : Cond) ∈ xtb := xtb_of 687 (by decide +kernel) rfl
theorem wd_689 : (.instanceMethod ⟨"WeightedClausesModel", "broken", "()I"⟩ : Cond) ∈ xtb := xtb_of 689 (by decide +kernel) rfl
theorem wd_690 : (.code ⟨"WeightedClausesModel", "broken", "()I"⟩ prog_6_method_19_code 2 (some .int) : Cond) ∈ xtb := xtb_of 690 (by decide +kernel) rfl
theorem wd_691 : (.methodLink "WeightedClausesModel" 114 ⟨"WeightedClausesModel", "single", "()I"⟩ : Cond) ∈ xtb := xtb_of 691 (by decide +kernel) rfl
theorem wd_693 : (.instanceMethod ⟨"WeightedClausesModel", "single", "()I"⟩ : Cond) ∈ xtb := xtb_of 693 (by decide +kernel) rfl
theorem wd_694 : (.code ⟨"WeightedClausesModel", "single", "()I"⟩ prog_6_method_20_code 2 (some .int) : Cond) ∈ xtb := xtb_of 694 (by decide +kernel) rfl
theorem wd_695 : (.methodLink "WeightedClausesModel" 130 ⟨"WeightedClausesModel", "gather", "(I)J"⟩ : Cond) ∈ xtb := xtb_of 695 (by decide +kernel) rfl
theorem wd_697 : (.instanceMethod ⟨"WeightedClausesModel", "gather", "(I)J"⟩ : Cond) ∈ xtb := xtb_of 697 (by decide +kernel) rfl
theorem wd_698 : (.code ⟨"WeightedClausesModel", "gather", "(I)J"⟩ prog_6_method_22_code 10 (some .long) : Cond) ∈ xtb := xtb_of 698 (by decide +kernel) rfl
theorem wd_699 : (.methodLink "WeightedClausesLaw" 80 ⟨"WeightedClausesModel", "subset", "(III)J"⟩ : Cond) ∈ xtb := xtb_of 699 (by decide +kernel) rfl
theorem wd_700 : (.instanceMethod ⟨"WeightedClausesModel", "subset", "(III)J"⟩ : Cond) ∈ xtb := xtb_of 700 (by decide +kernel) rfl
theorem wd_701 : (.selects "WeightedClausesModel" ⟨"WeightedClausesModel", "subset", "(III)J"⟩ ⟨"WeightedClausesModel", "subset", "(III)J"⟩ : Cond) ∈ xtb := xtb_of 701 (by decide +kernel) rfl
theorem wd_702 : (.code ⟨"WeightedClausesModel", "subset", "(III)J"⟩ prog_6_method_25_code 4 (some .long) : Cond) ∈ xtb := xtb_of 702 (by decide +kernel) rfl
theorem wd_703 : (.methodLink "WeightedClausesLaw" 83 ⟨"WeightedClausesModel", "first", "(II)I"⟩ : Cond) ∈ xtb := xtb_of 703 (by decide +kernel) rfl
theorem wd_704 : (.instanceMethod ⟨"WeightedClausesModel", "first", "(II)I"⟩ : Cond) ∈ xtb := xtb_of 704 (by decide +kernel) rfl
theorem wd_705 : (.selects "WeightedClausesModel" ⟨"WeightedClausesModel", "first", "(II)I"⟩ ⟨"WeightedClausesModel", "first", "(II)I"⟩ : Cond) ∈ xtb := xtb_of 705 (by decide +kernel) rfl
theorem wd_706 : (.code ⟨"WeightedClausesModel", "first", "(II)I"⟩ prog_6_method_27_code 3 (some .int) : Cond) ∈ xtb := xtb_of 706 (by decide +kernel) rfl
theorem wd_707 : (.methodLink "WeightedClausesModel" 138 ⟨"WeightedClausesModel", "firstOf", "(II)I"⟩ : Cond) ∈ xtb := xtb_of 707 (by decide +kernel) rfl
theorem wd_709 : (.instanceMethod ⟨"WeightedClausesModel", "firstOf", "(II)I"⟩ : Cond) ∈ xtb := xtb_of 709 (by decide +kernel) rfl
theorem wd_710 : (.code ⟨"WeightedClausesModel", "firstOf", "(II)I"⟩ prog_6_method_26_code 10 (some .int) : Cond) ∈ xtb := xtb_of 710 (by decide +kernel) rfl
theorem wd_711 : (.methodLink "WeightedClausesLaw" 88 ⟨"WeightedClausesModel", "solve", "()J"⟩ : Cond) ∈ xtb := xtb_of 711 (by decide +kernel) rfl
theorem wd_712 : (.instanceMethod ⟨"WeightedClausesModel", "solve", "()J"⟩ : Cond) ∈ xtb := xtb_of 712 (by decide +kernel) rfl
theorem wd_713 : (.selects "WeightedClausesModel" ⟨"WeightedClausesModel", "solve", "()J"⟩ ⟨"WeightedClausesModel", "solve", "()J"⟩ : Cond) ∈ xtb := xtb_of 713 (by decide +kernel) rfl
theorem wd_714 : (.code ⟨"WeightedClausesModel", "solve", "()J"⟩ prog_6_method_30_code 1 (some .long) : Cond) ∈ xtb := xtb_of 714 (by decide +kernel) rfl
theorem wd_715 : (.methodLink "WeightedClausesModel" 152 ⟨"WeightedClausesModel", "line", "(II)V"⟩ : Cond) ∈ xtb := xtb_of 715 (by decide +kernel) rfl
theorem wd_717 : (.instanceMethod ⟨"WeightedClausesModel", "line", "(II)V"⟩ : Cond) ∈ xtb := xtb_of 717 (by decide +kernel) rfl
theorem wd_718 : (.code ⟨"WeightedClausesModel", "line", "(II)V"⟩ prog_6_method_28_code 3 (none) : Cond) ∈ xtb := xtb_of 718 (by decide +kernel) rfl
theorem wd_719 : (.methodLink "WeightedClausesModel" 155 ⟨"WeightedClausesModel", "node", "(II)V"⟩ : Cond) ∈ xtb := xtb_of 719 (by decide +kernel) rfl
theorem wd_721 : (.instanceMethod ⟨"WeightedClausesModel", "node", "(II)V"⟩ : Cond) ∈ xtb := xtb_of 721 (by decide +kernel) rfl
theorem wd_722 : (.code ⟨"WeightedClausesModel", "node", "(II)V"⟩ prog_6_method_29_code 5 (none) : Cond) ∈ xtb := xtb_of 722 (by decide +kernel) rfl
theorem wd_723 : (.constantLong "WeightedClausesModel" 150 (-1) : Cond) ∈ xtb := xtb_of 723 (by decide +kernel) rfl
theorem wd_724 : (.methodLink "WeightedClausesLaw" 93 ⟨"WeightedClausesModel", "value", "(I)I"⟩ : Cond) ∈ xtb := xtb_of 724 (by decide +kernel) rfl
theorem wd_725 : (.instanceMethod ⟨"WeightedClausesModel", "value", "(I)I"⟩ : Cond) ∈ xtb := xtb_of 725 (by decide +kernel) rfl
theorem wd_726 : (.selects "WeightedClausesModel" ⟨"WeightedClausesModel", "value", "(I)I"⟩ ⟨"WeightedClausesModel", "value", "(I)I"⟩ : Cond) ∈ xtb := xtb_of 726 (by decide +kernel) rfl
theorem wd_727 : (.code ⟨"WeightedClausesModel", "value", "(I)I"⟩ prog_6_method_31_code 2 (some .int) : Cond) ∈ xtb := xtb_of 727 (by decide +kernel) rfl
theorem wd_728 : (.methodLink "WeightedClausesLaw" 97 ⟨"WeightedClausesModel", "nodes", "()I"⟩ : Cond) ∈ xtb := xtb_of 728 (by decide +kernel) rfl
theorem wd_729 : (.instanceMethod ⟨"WeightedClausesModel", "nodes", "()I"⟩ : Cond) ∈ xtb := xtb_of 729 (by decide +kernel) rfl
theorem wd_730 : (.selects "WeightedClausesModel" ⟨"WeightedClausesModel", "nodes", "()I"⟩ ⟨"WeightedClausesModel", "nodes", "()I"⟩ : Cond) ∈ xtb := xtb_of 730 (by decide +kernel) rfl
theorem wd_731 : (.code ⟨"WeightedClausesModel", "nodes", "()I"⟩ prog_6_method_32_code 1 (some .int) : Cond) ∈ xtb := xtb_of 731 (by decide +kernel) rfl
theorem wd_732 : (.methodLink "WeightedClausesLaw" 101 ⟨"WeightedClausesModel", "logged", "()I"⟩ : Cond) ∈ xtb := xtb_of 732 (by decide +kernel) rfl
theorem wd_733 : (.instanceMethod ⟨"WeightedClausesModel", "logged", "()I"⟩ : Cond) ∈ xtb := xtb_of 733 (by decide +kernel) rfl
theorem wd_734 : (.selects "WeightedClausesModel" ⟨"WeightedClausesModel", "logged", "()I"⟩ ⟨"WeightedClausesModel", "logged", "()I"⟩ : Cond) ∈ xtb := xtb_of 734 (by decide +kernel) rfl
theorem wd_735 : (.code ⟨"WeightedClausesModel", "logged", "()I"⟩ prog_6_method_33_code 1 (some .int) : Cond) ∈ xtb := xtb_of 735 (by decide +kernel) rfl
theorem wd_736 : (.methodLink "WeightedClausesLaw" 105 ⟨"WeightedClausesModel", "log", "(II)I"⟩ : Cond) ∈ xtb := xtb_of 736 (by decide +kernel) rfl
theorem wd_737 : (.instanceMethod ⟨"WeightedClausesModel", "log", "(II)I"⟩ : Cond) ∈ xtb := xtb_of 737 (by decide +kernel) rfl
theorem wd_738 : (.selects "WeightedClausesModel" ⟨"WeightedClausesModel", "log", "(II)I"⟩ ⟨"WeightedClausesModel", "log", "(II)I"⟩ : Cond) ∈ xtb := xtb_of 738 (by decide +kernel) rfl
theorem wd_739 : (.code ⟨"WeightedClausesModel", "log", "(II)I"⟩ prog_6_method_34_code 3 (some .int) : Cond) ∈ xtb := xtb_of 739 (by decide +kernel) rfl
theorem wd_740 : (.methodLink "WeightedClausesLaw" 110 ⟨"WeightedClausesModel", "best", "(I)J"⟩ : Cond) ∈ xtb := xtb_of 740 (by decide +kernel) rfl
theorem wd_741 : (.instanceMethod ⟨"WeightedClausesModel", "best", "(I)J"⟩ : Cond) ∈ xtb := xtb_of 741 (by decide +kernel) rfl
theorem wd_742 : (.selects "WeightedClausesModel" ⟨"WeightedClausesModel", "best", "(I)J"⟩ ⟨"WeightedClausesModel", "best", "(I)J"⟩ : Cond) ∈ xtb := xtb_of 742 (by decide +kernel) rfl
theorem wd_743 : (.code ⟨"WeightedClausesModel", "best", "(I)J"⟩ prog_6_method_35_code 2 (some .long) : Cond) ∈ xtb := xtb_of 743 (by decide +kernel) rfl
end
section
theorem xcons {c0 : Cond} {ws : List Cond} (h : ∀ w ∈ ws, w ∈ xtb) : ∀ w ∈ ws, w ∈ c0 :: xtb := fun w hw => List.mem_cons_of_mem _ (h w hw)
section XCW
variable {R : Room} {s : State} {args : Array Value} {own : String} {index : Nat} {y : MethodName} {bytes : ByteArray} {maxL mc ms : Nat} {ret : Option FieldType} {rm : Room} {c0 : Cond}
theorem xcw (n : Nat) (hts : ∀ w ∈ c0 :: xtb, w.before args s = true) (hc : Cond.code y bytes maxL ret ∈ xtb) (hini : Cond.initialized y.cls ∈ xtb) (hl : Cond.methodLink own index y ∈ xtb) (hrc : rm.cells = mc) (hrs : rm.slots = ms)
    (hd : y.cls ≠ "java/lang/invoke/MethodHandle" ∧ y.cls ≠ "java/lang/invoke/VarHandle" ∧ (parseMethodDescriptor y.desc).map (fun d => d.parameters.length) = some n) (hR : rm.frames + 1 ≤ R.frames ∧ 8 + (maxL + 11) + rm.locals ≤ R.locals) :
    CallB R s args own index y bytes maxL ret (Cond.code y bytes maxL ret :: xtb) rm mc ms n :=
  callB_of n hts (fun w hw => (List.mem_cons.mp hw).elim (fun e => by subst e; exact ⟨List.mem_cons_of_mem _ hc, xtb_good _ hc⟩) (fun h => ⟨List.mem_cons_of_mem _ h, xtb_good _ h⟩)) rfl hrc hrs (hts _ (List.mem_cons_of_mem _ hini)) (hts _ (List.mem_cons_of_mem _ hl)) hd hR
theorem xcwV (n : Nat) (hts : ∀ w ∈ c0 :: xtb, w.before args s = true) (hc : Cond.code y bytes maxL ret ∈ xtb) (hini : Cond.initialized y.cls ∈ xtb) (hl : Cond.methodLink own index y ∈ xtb) (hi : Cond.instanceMethod y ∈ xtb) (hs : Cond.selects y.cls y y ∈ xtb) (hrc : rm.cells = mc) (hrs : rm.slots = ms)
    (hd : y.cls ≠ "java/lang/invoke/MethodHandle" ∧ y.cls ≠ "java/lang/invoke/VarHandle" ∧ (parseMethodDescriptor y.desc).map (fun d => d.parameters.length) = some n) (hR : rm.frames + 1 ≤ R.frames ∧ 8 + (maxL + 11) + rm.locals ≤ R.locals) :
    CallW R s args own y.cls index y bytes maxL ret (Cond.code y bytes maxL ret :: xtb) rm mc ms n :=
  ⟨xcw n hts hc hini hl hrc hrs hd hR, hts _ (List.mem_cons_of_mem _ hi), hts _ (List.mem_cons_of_mem _ hs)⟩
theorem xcwS (n : Nat) (hts : ∀ w ∈ c0 :: xtb, w.before args s = true) (hc : Cond.code y bytes maxL ret ∈ xtb) (hini : Cond.initialized y.cls ∈ xtb) (hl : Cond.methodLink own index y ∈ xtb) (hst : Cond.static y ∈ xtb) (hrc : rm.cells = mc) (hrs : rm.slots = ms)
    (hd : y.cls ≠ "java/lang/invoke/MethodHandle" ∧ y.cls ≠ "java/lang/invoke/VarHandle" ∧ (parseMethodDescriptor y.desc).map (fun d => d.parameters.length) = some n) (hR : rm.frames + 1 ≤ R.frames ∧ 8 + (maxL + 11) + rm.locals ≤ R.locals) :
    CallB R s args own index y bytes maxL ret (Cond.code y bytes maxL ret :: xtb) rm mc ms n ∧ (Cond.static y).before args s = true :=
  ⟨xcw n hts hc hini hl hrc hrs hd hR, hts _ (List.mem_cons_of_mem _ hst)⟩
end XCW
/-! my own rows over the kit's: addresses by a numbered list, read-only and writing calls, arrays by Nat indices -/
/-- the addresses of a group of cells: ad 0, ad 1, ..; they are apart -/
def xI (ad : Nat → Nat) (n : Nat) : Prop := ∀ i j : Nat, i < n → j < n → ad i = ad j → i = j
/-- what may change: the cells with these numbers -/
def xA (ad : Nat → Nat) (is : List Nat) : Nat → Prop := fun q => ∃ i : Nat, i ∈ is ∧ q = ad i
/-- nothing may change -/
def xN : Nat → Prop := fun _ => False
def xB {S : Type} (D : va_G) (cl : List vw_C) (w : S → va_W) (u : S) (t : State) : Prop := va_P D cl (w u) t.heap
theorem xPn {D : va_G} {cl : List vw_C} {H : Heap} : va_P D cl [] H := fun k q h => by cases h
theorem xD {ad : Nat → Nat} {n : Nat} (h : xI ad n) {ws : va_W} {is : List Nat} (js : List Nat) (hm : ws.map (fun q => q.1) = js.map ad) (hn : va_nd js = true) (hi : js.all (fun j => decide (j < n) && decide (j ∈ is)) = true) : va_D (xA ad is) ws := by
  have hat : ∀ (k : Nat) (q : Nat × va_E), ws[k]? = some q → ∃ j, js[k]? = some j ∧ q.1 = ad j := by
    intro k q hk
    have h1 : (ws.map (fun q => q.1))[k]? = some q.1 := by rw [List.getElem?_map, hk]; rfl
    rw [hm, List.getElem?_map] at h1
    cases hj : js[k]? with
    | none => rw [hj] at h1; cases h1
    | some j => rw [hj] at h1; exact ⟨j, rfl, (Option.some.inj h1).symm⟩
  have hin : ∀ j, j ∈ js → j < n ∧ j ∈ is := by
    intro j hj
    have h1 := List.all_eq_true.mp hi j hj
    simp only [Bool.and_eq_true, decide_eq_true_eq] at h1
    exact h1
  refine ⟨fun i j p q hp hq he => ?_, fun k q hk => ?_⟩
  · obtain ⟨a, ha, ea⟩ := hat i p hp
    obtain ⟨b, hb, eb⟩ := hat j q hq
    have hab : a = b := h a b (hin a (List.mem_of_getElem? ha)).1 (hin b (List.mem_of_getElem? hb)).1 (by rw [← ea, ← eb]; exact he)
    subst hab
    exact va_nd_inj js hn i j a ha hb
  · obtain ⟨a, ha, ea⟩ := hat k q hk
    exact ⟨a, (hin a (List.mem_of_getElem? ha)).2, ea⟩
/-- cells with other numbers don't change -/
theorem xnA {ad : Nat → Nat} {n : Nat} (h : xI ad n) {ws : va_W} {is : List Nat} (js : List Nat) (hm : ws.map (fun q => q.1) = js.map ad) (hi : js.all (fun j => decide (j < n) && is.all (fun i => decide (i < n) && decide (i ≠ j))) = true) : ∀ (k : Nat) (q : Nat × va_E), ws[k]? = some q → ¬ xA ad is q.1 := by
  intro k q hk hA
  have h1 : (ws.map (fun q => q.1))[k]? = some q.1 := by rw [List.getElem?_map, hk]; rfl
  rw [hm, List.getElem?_map] at h1
  cases hj : js[k]? with
  | none => rw [hj] at h1; cases h1
  | some j =>
    rw [hj] at h1
    have e1 : q.1 = ad j := (Option.some.inj h1).symm
    have h2 := List.all_eq_true.mp hi j (List.mem_of_getElem? hj)
    simp only [Bool.and_eq_true, decide_eq_true_eq] at h2
    obtain ⟨i, hin, e2⟩ := hA
    have h3 := List.all_eq_true.mp h2.2 i hin
    simp only [Bool.and_eq_true, decide_eq_true_eq] at h3
    exact h3.2 (h i j h3.1 h2.1 (by rw [← e2, ← e1]))
theorem xnN {ws : va_W} : ∀ (k : Nat) (q : Nat × va_E), ws[k]? = some q → ¬ xN q.1 := fun _ _ _ h => h
/-- what was there at the start and may not change is there now -/
theorem xP0 {D : va_G} {cl : List vw_C} {ws : va_W} {A : Nat → Prop} {H0 H : Heap} {locs : List Loc} (hP : va_P D cl ws H0) (hn : ∀ (k : Nat) (q : Nat × va_E), ws[k]? = some q → ¬ A q.1) (hS : va_S A H0 H locs) : va_P D cl ws H :=
  hP.kept fun k q hk => hS.2.1 q.1 (hP k q hk).lt (hn k q hk)
theorem xkeep {D : va_G} {cl : List vw_C} {ws : va_W} {H H1 : Heap} (hP : va_P D cl ws H) (hk : ∀ q : Nat, q < H.size → H1[q]? = H[q]?) : va_P D cl ws H1 :=
  hP.kept fun k q h => hk q.1 (hP k q h).lt
theorem xkeepA {D : va_G} {cl : List vw_C} {ws wr : va_W} {A1 : Nat → Prop} {H H1 : Heap} (hP : va_P D cl ws H) (hk : ∀ q : Nat, q < H.size → ¬ A1 q → H1[q]? = H[q]?) (is : List Nat) (hs : is.filterMap (fun i => ws[i]?) = wr) (hn : ∀ (k : Nat) (q : Nat × va_E), wr[k]? = some q → ¬ A1 q.1) : va_P D cl wr H1 := by
  have h1 := hP.sub is hs
  exact h1.kept fun k q h => hk q.1 (h1 k q h).lt (hn k q h)
theorem xAsub {ad : Nat → Nat} {is js : List Nat} (h : is.all (fun i => decide (i ∈ js)) = true) : ∀ q, xA ad is q → xA ad js q := by
  intro q ⟨i, hi, e⟩
  exact ⟨i, by simpa using List.all_eq_true.mp h i hi, e⟩
section XR
variable {p : Program} {l : Launch} {e : Env} {R : Room} {s : State} {m : MethodId} {args : Array Value} {below : List Frame} {meth : Method} {c : Code} {H : Heap} {locs : List Loc} {cells slots : Nat} {Q : State → Prop}
variable {cc : ByteArray} {pc : Nat} {ls : Array Slot} {rest st0 : List Value} {D : va_G} {cl : List vw_C} {A A0 A1 : Nat → Prop} {a : Nat} {tys : List (ClassId × FieldType)} {ws : va_W} {H0 : Heap} {av : Array Value}
theorem xblind {av : List Value} {D : va_G} {cl : List vw_C} {ws : va_W} {tys : List (ClassId × FieldType)} : FrameBlind (va_Pc av (fun U => va_P D cl ws U.heap ∧ va_K D cl tys U)) := by
  intro a U g mk q
  obtain ⟨q0, qP, qK⟩ := q
  exact ⟨q0, qP, va_K.moved (u := U) (U := U.calling g mk a) (Vm.Alike.refl U.vm) qK⟩
theorem xpreS {As : List Value} (hP : va_P D cl ws H) (hK : va_K D cl tys s) : PreS s H (va_Pc As (fun U => va_P D cl ws U.heap ∧ va_K D cl tys U)) As :=
  ⟨xblind, fun U hU hW => ⟨rfl, by rw [hU]; exact hP, va_K.moved hW.alike hK⟩⟩
theorem xpreV {C : String} {b : Addr} {As : List Value} (hb : ∃ cell : Cell, H[b]? = some cell ∧ cell.vm.isStatics = false ∧ s.vm.findClass C = some cell.cls) (hP : va_P D cl ws H) (hK : va_K D cl tys s) : PreV s H C b (va_Pc (.ref b :: As) (fun U => va_P D cl ws U.heap ∧ va_K D cl tys U)) As :=
  ⟨xblind, hb, fun U hU hW => ⟨rfl, by rw [hU]; exact hP, va_K.moved hW.alike hK⟩⟩
/-- a call that changes nothing and answers v -/
theorem xro_i {v : Int32} (hr : va_Run p l e R s m args below meth c H locs cells slots 0 0 (F0 m pc ls st0) rest (va_Qi (fun r (_ : Unit) => v = r) (fun _ _ => True) xN av) xN) (hS : va_S A0 H0 H locs)
    (kk : ∀ (H1 : Heap) (locs1 : List Loc), (∀ q : Nat, q < H.size → H1[q]? = H[q]?) → va_S A0 H0 H1 locs1 → W p l e R s m args below meth c H1 locs1 cells slots Q (F0 m (pc + 3) ls (.int v :: rest))) : W p l e R s m args below meth c H locs cells slots Q (F0 m pc ls st0) :=
  va_calli hr hS (fun q _ h => h.elim) (fun q h => h.elim) (fun r u t H1 locs1 ht hvm hp hB hz hk hS1 => by
    have hp : v = r := hp
    subst hp
    exact kk H1 locs1 (fun q hq => hk q hq (fun h => h)) hS1)
theorem xro_l {v : Int64} (hr : va_Run p l e R s m args below meth c H locs cells slots 0 0 (F0 m pc ls st0) rest (va_Ql (fun r (_ : Unit) => v = r) (fun _ _ => True) xN av) xN) (hS : va_S A0 H0 H locs)
    (kk : ∀ (H1 : Heap) (locs1 : List Loc), (∀ q : Nat, q < H.size → H1[q]? = H[q]?) → va_S A0 H0 H1 locs1 → W p l e R s m args below meth c H1 locs1 cells slots Q (F0 m (pc + 3) ls (.long v :: rest))) : W p l e R s m args below meth c H locs cells slots Q (F0 m pc ls st0) :=
  va_calll hr hS (fun q _ h => h.elim) (fun q h => h.elim) (fun r u t H1 locs1 ht hvm hp hB hz hk hS1 => by
    have hp : v = r := hp
    subst hp
    exact kk H1 locs1 (fun q hq => hk q hq (fun h => h)) hS1)
/-- a call that changes the cells of A1: what comes back is said by post; its world by w -/
theorem xrw_i {S : Type} {post : Int32 → S → Prop} {w : S → va_W} (hr : va_Run p l e R s m args below meth c H locs cells slots 0 0 (F0 m pc ls st0) rest (va_Qi post (xB D cl w) A1 av) A1) (hS : va_S A0 H0 H locs) (hsub : ∀ q, A1 q → A0 q)
    (kk : ∀ (r : Int32) (u : S) (H1 : Heap) (locs1 : List Loc), post r u → va_P D cl (w u) H1 → (∀ q : Nat, q < H.size → ¬ A1 q → H1[q]? = H[q]?) → va_S A0 H0 H1 locs1 → W p l e R s m args below meth c H1 locs1 cells slots Q (F0 m (pc + 3) ls (.int r :: rest))) : W p l e R s m args below meth c H locs cells slots Q (F0 m pc ls st0) :=
  va_calli hr hS (fun q _ h => hsub q h) hsub (fun r u t H1 locs1 ht hvm hp hB hz hk hS1 => kk r u H1 locs1 hp (by have h1 : va_P D cl (w u) t.heap := hB; rw [ht] at h1; exact h1) hk hS1)
theorem xrw_l {S : Type} {post : Int64 → S → Prop} {w : S → va_W} (hr : va_Run p l e R s m args below meth c H locs cells slots 0 0 (F0 m pc ls st0) rest (va_Ql post (xB D cl w) A1 av) A1) (hS : va_S A0 H0 H locs) (hsub : ∀ q, A1 q → A0 q)
    (kk : ∀ (r : Int64) (u : S) (H1 : Heap) (locs1 : List Loc), post r u → va_P D cl (w u) H1 → (∀ q : Nat, q < H.size → ¬ A1 q → H1[q]? = H[q]?) → va_S A0 H0 H1 locs1 → W p l e R s m args below meth c H1 locs1 cells slots Q (F0 m (pc + 3) ls (.long r :: rest))) : W p l e R s m args below meth c H locs cells slots Q (F0 m pc ls st0) :=
  va_calll hr hS (fun q _ h => hsub q h) hsub (fun r u t H1 locs1 ht hvm hp hB hz hk hS1 => kk r u H1 locs1 hp (by have h1 : va_P D cl (w u) t.heap := hB; rw [ht] at h1; exact h1) hk hS1)
theorem xrw_v {S : Type} {post : S → Prop} {w : S → va_W} (hr : va_Run p l e R s m args below meth c H locs cells slots 0 0 (F0 m pc ls st0) rest (va_Qv post (xB D cl w) A1 av) A1) (hS : va_S A0 H0 H locs) (hsub : ∀ q, A1 q → A0 q)
    (kk : ∀ (u : S) (H1 : Heap) (locs1 : List Loc), post u → va_P D cl (w u) H1 → (∀ q : Nat, q < H.size → ¬ A1 q → H1[q]? = H[q]?) → va_S A0 H0 H1 locs1 → W p l e R s m args below meth c H1 locs1 cells slots Q (F0 m (pc + 3) ls rest)) : W p l e R s m args below meth c H locs cells slots Q (F0 m pc ls st0) :=
  va_callv hr hS (fun q _ h => hsub q h) hsub (fun u t H1 locs1 ht hvm hp hB hz hk hS1 => kk u H1 locs1 hp (by have h1 : va_P D cl (w u) t.heap := hB; rw [ht] at h1; exact h1) hk hS1)
theorem xr_iald (hexec : p.tables.exec = Jvm.exec) (hb : c.code = cc) (hK : va_K D cl tys s) (hP : va_P D cl ws H) (q0 t0 : Nat) {cA : ClassId} {n : Nat} {f : Nat → Int32} (ha : ws[q0]? = some (a, .inl (cA, n, .inl f))) (ht : tys[t0]? = some (cA, .int)) (j : Nat) (hj : j < n) (hn : n < 2 ^ 31) (hdg : decode cc pc = .ok (.iaload, 1))
    (kk : W p l e R s m args below meth c H locs cells slots Q (F0 m (pc + 1) ls (.int (f j) :: rest))) : W p l e R s m args below meth c H locs cells slots Q (F0 m pc ls (.int (nI j) :: .ref a :: rest)) := by
  refine va_iald hexec hb hK hP q0 t0 ha ht (vp_in_nI hj hn) hdg ?_
  rw [nI_clamp (by omega)]
  exact kk
theorem xr_lald (hexec : p.tables.exec = Jvm.exec) (hb : c.code = cc) (hK : va_K D cl tys s) (hP : va_P D cl ws H) (q0 t0 : Nat) {cA : ClassId} {n : Nat} {f : Nat → Int64} (ha : ws[q0]? = some (a, .inl (cA, n, .inr (.inl f)))) (ht : tys[t0]? = some (cA, .long)) (j : Nat) (hj : j < n) (hn : n < 2 ^ 31) (hdg : decode cc pc = .ok (.laload, 1))
    (kk : W p l e R s m args below meth c H locs cells slots Q (F0 m (pc + 1) ls (.long (f j) :: rest))) : W p l e R s m args below meth c H locs cells slots Q (F0 m pc ls (.int (nI j) :: .ref a :: rest)) := by
  refine va_lald hexec hb hK hP q0 t0 ha ht (vp_in_nI hj hn) hdg ?_
  rw [nI_clamp (by omega)]
  exact kk
theorem xr_iast (hexec : p.tables.exec = Jvm.exec) (hb : c.code = cc) (hK : va_K D cl tys s) (hP : va_P D cl ws H) (hD : va_D A ws) (hS : va_S A H0 H locs) (q0 t0 : Nat) {cA : ClassId} {n : Nat} {f : Nat → Int32} (ha : ws[q0]? = some (a, .inl (cA, n, .inl f))) (ht : tys[t0]? = some (cA, .int)) (j : Nat) {x : Int32} (hj : j < n) (hn : n < 2 ^ 31) (hdg : decode cc pc = .ok (.iastore, 1))
    (kk : ∀ (H1 : Heap) (locs1 : List Loc), va_P D cl (ws.set q0 (a, .inl (cA, n, .inl (upd f j x)))) H1 → va_S A H0 H1 locs1 → W p l e R s m args below meth c H1 locs1 cells slots Q (F0 m (pc + 1) ls rest)) : W p l e R s m args below meth c H locs cells slots Q (F0 m pc ls (.int x :: .int (nI j) :: .ref a :: rest)) := by
  refine va_iast hexec hb hK hP hD hS q0 t0 ha ht (vp_in_nI hj hn) hdg (fun H1 locs1 hP1 _ hS1 => ?_)
  rw [nI_clamp (by omega)] at hP1
  exact kk H1 locs1 hP1 hS1
theorem xr_last (hexec : p.tables.exec = Jvm.exec) (hb : c.code = cc) (hK : va_K D cl tys s) (hP : va_P D cl ws H) (hD : va_D A ws) (hS : va_S A H0 H locs) (q0 t0 : Nat) {cA : ClassId} {n : Nat} {f : Nat → Int64} (ha : ws[q0]? = some (a, .inl (cA, n, .inr (.inl f)))) (ht : tys[t0]? = some (cA, .long)) (j : Nat) {x : Int64} (hj : j < n) (hn : n < 2 ^ 31) (hdg : decode cc pc = .ok (.lastore, 1))
    (kk : ∀ (H1 : Heap) (locs1 : List Loc), va_P D cl (ws.set q0 (a, .inl (cA, n, .inr (.inl (vp_updL f j x))))) H1 → va_S A H0 H1 locs1 → W p l e R s m args below meth c H1 locs1 cells slots Q (F0 m (pc + 1) ls rest)) : W p l e R s m args below meth c H locs cells slots Q (F0 m pc ls (.long x :: .int (nI j) :: .ref a :: rest)) := by
  refine va_last hexec hb hK hP hD hS q0 t0 ha ht (vp_in_nI hj hn) hdg (fun H1 locs1 hP1 _ hS1 => ?_)
  rw [nI_clamp (by omega)] at hP1
  exact kk H1 locs1 hP1 hS1
/-- one more, one less, by numbers -/
theorem xr_add1 (hexec : p.tables.exec = Jvm.exec) (hb : c.code = cc) {t : Nat} (hdg : decode cc pc = .ok (.iadd, 1)) (k : W p l e R s m args below meth c H locs cells slots Q (F0 m (pc + 1) ls (.int (nI (t + 1)) :: rest))) : W p l e R s m args below meth c H locs cells slots Q (F0 m pc ls (.int 1 :: .int (nI t) :: rest)) := by
  refine lv_iadd hexec hb hdg ?_
  rw [nI_1]
  exact k
theorem xr_sub1 (hexec : p.tables.exec = Jvm.exec) (hb : c.code = cc) {t : Nat} (hdg : decode cc pc = .ok (.isub, 1)) (k : W p l e R s m args below meth c H locs cells slots Q (F0 m (pc + 1) ls (.int (nI t) :: rest))) : W p l e R s m args below meth c H locs cells slots Q (F0 m pc ls (.int 1 :: .int (nI (t + 1)) :: rest)) := by
  refine lv_isub hexec hb hdg ?_
  rw [nI_pred]
  exact k
end XR
theorem xinc1 (x : Int32) : x + Int32.ofInt 1 = x + 1 := by rw [show Int32.ofInt 1 = 1 by decide]
theorem xinc (i : Nat) : nI i + Int32.ofInt 1 = nI (i + 1) := by rw [xinc1, nI_1]
theorem xdec1 (x : Int32) : x + Int32.ofInt (-1) = x - 1 := by rw [show Int32.ofInt (-1) = -1 by decide, Int32.sub_eq_add_neg]
/-- an array of numbers -/
def xnI (f : Nat → Nat) : Nat → Int32 := fun j => nI (f j)
theorem xnI_up (f : Nat → Nat) (j r : Nat) : xnI (va_up f j r) = upd (xnI f) j (nI r) := by
  funext k
  by_cases h : k = j
  · subst h; simp [xnI, va_up, upd]
  · simp [xnI, va_up, upd, h]
theorem xlt {t : Nat} (k : Nat) (h : nI t < nI k) (ht : t < 2 ^ 31) (hk : k < 2 ^ 31) : t < k := (nI_ltI ht hk).mp h
theorem xnle {t : Nat} (k : Nat) (h : ¬ nI k ≤ nI t) (ht : t < 2 ^ 31) (hk : k < 2 ^ 31) : t < k := Nat.lt_of_not_le fun q => h (nI_le q ht)
theorem xin {j : Int32} {n k : Nat} (h1 : ¬ j < 0) (h2 : ¬ nI k ≤ j) (hk : k ≤ n) (hn : n < 2 ^ 31) : vp_in j n := by
  obtain ⟨i, hi, rfl⟩ := nI_of h1
  exact vp_in_nI (Nat.lt_of_lt_of_le (xnle k h2 hi (by omega)) hk) hn
theorem xsucc {z : Int32} {n : Nat} (h : z + 1 = nI (n + 1)) : z = nI n := by
  have h1 : nI n + 1 = nI (n + 1) := nI_1 n
  have h2 : z + 1 - 1 = nI n + 1 - 1 := by rw [h, h1]
  simpa using h2
theorem xneg {z : Int32} (h : z + 1 = nI 0) : z < 0 := by
  have h2 : z + 1 - 1 = nI 0 - 1 := by rw [h]
  have h3 : z = nI 0 - 1 := by simpa using h2
  rw [h3]; decide
theorem xpos {t : Nat} (h : ¬ nI t ≤ 0) : 0 < t := by
  rcases Nat.eq_zero_or_pos t with h1 | h1
  · exact absurd (by rw [h1]; decide) h
  · exact h1
section XR2
variable {p : Program} {l : Launch} {e : Env} {R : Room} {s : State} {m : MethodId} {args : Array Value} {below : List Frame} {meth : Method} {c : Code} {H : Heap} {locs : List Loc} {cells slots : Nat} {Q : State → Prop}
variable {cc : ByteArray} {pc : Nat} {ls : Array Slot} {rest : List Value}
theorem xr_subp {t : Nat} (ht : 0 < t) (hexec : p.tables.exec = Jvm.exec) (hb : c.code = cc) (hdg : decode cc pc = .ok (.isub, 1)) (k : W p l e R s m args below meth c H locs cells slots Q (F0 m (pc + 1) ls (.int (nI (t - 1)) :: rest))) : W p l e R s m args below meth c H locs cells slots Q (F0 m pc ls (.int 1 :: .int (nI t) :: rest)) := by
  refine lv_isub hexec hb hdg ?_
  rw [show nI t - 1 = nI (t - 1) by rw [show t = (t - 1) + 1 by omega, nI_pred]; rfl]
  exact k
end XR2
theorem xmaxpred {nc : Nat} (h : nc ≤ 40) : (if (0 : Int32) < nI nc - 1 then nI nc - 1 else 0) = nI (nc - 1) := by
  have h1 : ∀ n, n < 41 → (if (0 : Int32) < nI n - 1 then nI n - 1 else 0) = nI (n - 1) := by decide +kernel
  exact h1 nc (by omega)
theorem xSmono {A : Nat → Prop} {H0 H : Heap} {locs : List Loc} (h : va_S xN H0 H locs) : va_S A H0 H locs :=
  ⟨h.1, fun q h1 _ => h.2.1 q h1 (fun z => z), fun q hq => (h.2.2 q hq).elim⟩
section XRZ
variable {p : Program} {l : Launch} {e : Env} {R : Room} {s : State} {m : MethodId} {args : Array Value} {below : List Frame} {meth : Method} {c : Code} {H : Heap} {locs : List Loc} {cells slots : Nat} {Q : State → Prop}
variable {cc : ByteArray} {pc : Nat} {ls : Array Slot} {rest : List Value} {D : va_G} {cl : List vw_C} {A : Nat → Prop} {a : Nat} {tys : List (ClassId × FieldType)} {ws : va_W} {H0 : Heap}
theorem xr_zald (hexec : p.tables.exec = Jvm.exec) (hb : c.code = cc) (hK : va_K D cl tys s) (hP : va_P D cl ws H) (q0 t0 : Nat) {cA : ClassId} {n : Nat} {f : Nat → Int32} (ha : ws[q0]? = some (a, .inl (cA, n, .inl f))) (ht : tys[t0]? = some (cA, .boolean)) (j : Nat) (hj : j < n) (hn : n < 2 ^ 31) (hdg : decode cc pc = .ok (.baload, 1))
    (kk : W p l e R s m args below meth c H locs cells slots Q (F0 m (pc + 1) ls (.int (f j) :: rest))) : W p l e R s m args below meth c H locs cells slots Q (F0 m pc ls (.int (nI j) :: .ref a :: rest)) := by
  refine va_zald hexec hb hK hP q0 t0 ha ht (vp_in_nI hj hn) hdg ?_
  rw [nI_clamp (by omega)]
  exact kk
theorem xr_zast (hexec : p.tables.exec = Jvm.exec) (hb : c.code = cc) (hK : va_K D cl tys s) (hP : va_P D cl ws H) (hD : va_D A ws) (hS : va_S A H0 H locs) (q0 t0 : Nat) {cA : ClassId} {n : Nat} {f : Nat → Int32} (ha : ws[q0]? = some (a, .inl (cA, n, .inl f))) (ht : tys[t0]? = some (cA, .boolean)) (j : Nat) {x : Int32} (hj : j < n) (hn : n < 2 ^ 31) (hdg : decode cc pc = .ok (.bastore, 1))
    (kk : ∀ (H1 : Heap) (locs1 : List Loc), va_P D cl (ws.set q0 (a, .inl (cA, n, .inl (upd f j (vp_nar .boolean x))))) H1 → va_S A H0 H1 locs1 → W p l e R s m args below meth c H1 locs1 cells slots Q (F0 m (pc + 1) ls rest)) : W p l e R s m args below meth c H locs cells slots Q (F0 m pc ls (.int x :: .int (nI j) :: .ref a :: rest)) := by
  refine va_zast hexec hb hK hP hD hS q0 t0 ha ht (vp_in_nI hj hn) hdg (fun H1 locs1 hP1 _ hS1 => ?_)
  rw [nI_clamp (by omega)] at hP1
  exact kk H1 locs1 hP1 hS1
end XRZ
theorem xBi {S : Type} {D : va_G} {cl : List vw_C} {w : S → va_W} {u : S} {t : State} {H : Heap} (ht : t.heap = H) (hP : va_P D cl (w u) H) : xB D cl w u t := by
  show va_P D cl (w u) t.heap
  rw [ht]
  exact hP
end
section
def f_bitCount (x : Int32) : Int32 :=
  ((((((((x - (((x.toUInt32 >>> ((1 : Int32).toUInt32 &&& Int32.toUInt32 31)).toInt32) &&& 1431655765)) &&& 858993459) + ((((x - (((x.toUInt32 >>> ((1 : Int32).toUInt32 &&& Int32.toUInt32 31)).toInt32) &&& 1431655765)).toUInt32 >>> ((2 : Int32).toUInt32 &&& Int32.toUInt32 31)).toInt32) &&& 858993459)) + (((((x - (((x.toUInt32 >>> ((1 : Int32).toUInt32 &&& Int32.toUInt32 31)).toInt32) &&& 1431655765)) &&& 858993459) + ((((x - (((x.toUInt32 >>> ((1 : Int32).toUInt32 &&& Int32.toUInt32 31)).toInt32) &&& 1431655765)).toUInt32 >>> ((2 : Int32).toUInt32 &&& Int32.toUInt32 31)).toInt32) &&& 858993459)).toUInt32 >>> ((4 : Int32).toUInt32 &&& Int32.toUInt32 31)).toInt32)) &&& 252645135) + (((((((x - (((x.toUInt32 >>> ((1 : Int32).toUInt32 &&& Int32.toUInt32 31)).toInt32) &&& 1431655765)) &&& 858993459) + ((((x - (((x.toUInt32 >>> ((1 : Int32).toUInt32 &&& Int32.toUInt32 31)).toInt32) &&& 1431655765)).toUInt32 >>> ((2 : Int32).toUInt32 &&& Int32.toUInt32 31)).toInt32) &&& 858993459)) + (((((x - (((x.toUInt32 >>> ((1 : Int32).toUInt32 &&& Int32.toUInt32 31)).toInt32) &&& 1431655765)) &&& 858993459) + ((((x - (((x.toUInt32 >>> ((1 : Int32).toUInt32 &&& Int32.toUInt32 31)).toInt32) &&& 1431655765)).toUInt32 >>> ((2 : Int32).toUInt32 &&& Int32.toUInt32 31)).toInt32) &&& 858993459)).toUInt32 >>> ((4 : Int32).toUInt32 &&& Int32.toUInt32 31)).toInt32)) &&& 252645135).toUInt32 >>> ((8 : Int32).toUInt32 &&& Int32.toUInt32 31)).toInt32)) + ((((((((x - (((x.toUInt32 >>> ((1 : Int32).toUInt32 &&& Int32.toUInt32 31)).toInt32) &&& 1431655765)) &&& 858993459) + ((((x - (((x.toUInt32 >>> ((1 : Int32).toUInt32 &&& Int32.toUInt32 31)).toInt32) &&& 1431655765)).toUInt32 >>> ((2 : Int32).toUInt32 &&& Int32.toUInt32 31)).toInt32) &&& 858993459)) + (((((x - (((x.toUInt32 >>> ((1 : Int32).toUInt32 &&& Int32.toUInt32 31)).toInt32) &&& 1431655765)) &&& 858993459) + ((((x - (((x.toUInt32 >>> ((1 : Int32).toUInt32 &&& Int32.toUInt32 31)).toInt32) &&& 1431655765)).toUInt32 >>> ((2 : Int32).toUInt32 &&& Int32.toUInt32 31)).toInt32) &&& 858993459)).toUInt32 >>> ((4 : Int32).toUInt32 &&& Int32.toUInt32 31)).toInt32)) &&& 252645135) + (((((((x - (((x.toUInt32 >>> ((1 : Int32).toUInt32 &&& Int32.toUInt32 31)).toInt32) &&& 1431655765)) &&& 858993459) + ((((x - (((x.toUInt32 >>> ((1 : Int32).toUInt32 &&& Int32.toUInt32 31)).toInt32) &&& 1431655765)).toUInt32 >>> ((2 : Int32).toUInt32 &&& Int32.toUInt32 31)).toInt32) &&& 858993459)) + (((((x - (((x.toUInt32 >>> ((1 : Int32).toUInt32 &&& Int32.toUInt32 31)).toInt32) &&& 1431655765)) &&& 858993459) + ((((x - (((x.toUInt32 >>> ((1 : Int32).toUInt32 &&& Int32.toUInt32 31)).toInt32) &&& 1431655765)).toUInt32 >>> ((2 : Int32).toUInt32 &&& Int32.toUInt32 31)).toInt32) &&& 858993459)).toUInt32 >>> ((4 : Int32).toUInt32 &&& Int32.toUInt32 31)).toInt32)) &&& 252645135).toUInt32 >>> ((8 : Int32).toUInt32 &&& Int32.toUInt32 31)).toInt32)).toUInt32 >>> ((16 : Int32).toUInt32 &&& Int32.toUInt32 31)).toInt32)) &&& 63)
def f_isWeight (w : Int32) : Int32 :=
  if w < 0 then
    0
  else
    if 1000000 < w then
      0
    else
      1
def f_countIfPresent (x : Int32) : Int32 :=
  if x = (-1) then
    0
  else
    1
def f_bitIfTrue (x : Int32) : Int32 :=
  if x = (-1) then
    0
  else
    if (x &&& 1) = 1 then
      0
    else
      ((1 : Int32) <<< ((x >>> (1 &&& 31)) &&& 31))
def f_bitIfFalse (x : Int32) : Int32 :=
  if x = (-1) then
    0
  else
    if (x &&& 1) = 0 then
      0
    else
      ((1 : Int32) <<< ((x >>> (1 &&& 31)) &&& 31))
def f_variableBit (x : Int32) : Int32 :=
  ((f_bitIfTrue x) ||| (f_bitIfFalse x))
set_option maxHeartbeats 4000000 in
set_option maxRecDepth 100000 in
theorem c_bitCount (l : Launch) (dC : Nat → ClassId) (dI : Nat → Nat → Nat) (cI cL cZ : ClassId) (ad : Nat → Nat) (hinj : xI ad 15) (x : Int32) : Met l yJ6_bitCount wsJ6_bitCount ({ frames := 0, cells := 0, slots := 0, locals := 0 }) (va_Pc [.int x] (fun U => va_P (dC, dI) vwCl [] U.heap ∧ va_K (dC, dI) vwCl [(cI, .int), (cL, .long), (cZ, .boolean)] U)) (va_Qi (fun r (_ : Unit) => f_bitCount x = r) (fun _ _ => True) xN) 0 0 xN := by
  refine Met.ofW (cc := cJ6_bitCount) (maxL := 1) (ret := (some .int)) (by decide) rfl ?_
  intro p e s m args below meth c s₁ B hml hvv
  obtain ⟨rfl, hP0, hK⟩ := hvv
  have hx := B.exec
  have hb := B.bytes
  have hr := B.returns
  have hts := atoms_spec (ws := wsJ6_bitCount) B.pre
  have hown : s.vm.findClass RJ6 = some m.cls := findClass_of_methodNamed B.named
  have hlocks := B.notSynchronized
  have hw0 : (.constant RJ6 265 1431655765 : Cond).before _ s = true := hts _ (List.mem_cons_of_mem _ wd_291)
  have hw1 : (.constant RJ6 266 858993459 : Cond).before _ s = true := hts _ (List.mem_cons_of_mem _ wd_292)
  have hw2 : (.constant RJ6 267 252645135 : Cond).before _ s = true := hts _ (List.mem_cons_of_mem _ wd_293)
  have hS : va_S xN s.heap s.heap [] := va_S.rf
  have hl := lv_entry [.int x] (n := 1) (Nat.le_of_ble_eq_true rfl)
  rw [lg_entry_eq]
  generalize (lg_sl [.int x] ++ List.replicate (1 - (lg_sl [.int x]).length) Slot.unset).toArray = ls at hl ⊢
  have hl : lv_has ls 1 [(0, .int x)] := hl
  have hF := Eq.refl (f_bitCount x)
  conv at hF => rhs; unfold f_bitCount
  refine lv_iload_n hx hb dJ6_bitCount_0 rfl (lv_at hl 0 rfl) ?_
  refine lv_iload_n hx hb dJ6_bitCount_1 rfl (lv_at hl 0 rfl) ?_
  refine lv_iconst (v := 1) hx hb dJ6_bitCount_2 (by decide) ?_
  refine lv_iushr (v := (x.toUInt32 >>> ((1 : Int32).toUInt32 &&& Int32.toUInt32 31)).toInt32) hx hb dJ6_bitCount_3 rfl ?_
  refine lv_ldcw hx hb hown hw0 dJ6_bitCount_4 ?_
  refine lv_iand hx hb dJ6_bitCount_7 ?_
  refine lv_isub hx hb dJ6_bitCount_8 ?_
  refine lv_istore_n (lv' := [(0, .int (x - (((x.toUInt32 >>> ((1 : Int32).toUInt32 &&& Int32.toUInt32 31)).toInt32) &&& 1431655765)))]) hx hb dJ6_bitCount_9 rfl hl (by decide) rfl (fun ls hl => ?_)
  refine lv_iload_n hx hb dJ6_bitCount_10 rfl (lv_at hl 0 rfl) ?_
  refine lv_ldcw hx hb hown hw1 dJ6_bitCount_11 ?_
  refine lv_iand hx hb dJ6_bitCount_14 ?_
  refine lv_iload_n hx hb dJ6_bitCount_15 rfl (lv_at hl 0 rfl) ?_
  refine lv_iconst (v := 2) hx hb dJ6_bitCount_16 (by decide) ?_
  refine lv_iushr (v := ((x - (((x.toUInt32 >>> ((1 : Int32).toUInt32 &&& Int32.toUInt32 31)).toInt32) &&& 1431655765)).toUInt32 >>> ((2 : Int32).toUInt32 &&& Int32.toUInt32 31)).toInt32) hx hb dJ6_bitCount_17 rfl ?_
  refine lv_ldcw hx hb hown hw1 dJ6_bitCount_18 ?_
  refine lv_iand hx hb dJ6_bitCount_21 ?_
  refine lv_iadd hx hb dJ6_bitCount_22 ?_
  refine lv_istore_n (lv' := [(0, .int (((x - (((x.toUInt32 >>> ((1 : Int32).toUInt32 &&& Int32.toUInt32 31)).toInt32) &&& 1431655765)) &&& 858993459) + ((((x - (((x.toUInt32 >>> ((1 : Int32).toUInt32 &&& Int32.toUInt32 31)).toInt32) &&& 1431655765)).toUInt32 >>> ((2 : Int32).toUInt32 &&& Int32.toUInt32 31)).toInt32) &&& 858993459)))]) hx hb dJ6_bitCount_23 rfl hl (by decide) rfl (fun ls hl => ?_)
  refine lv_iload_n hx hb dJ6_bitCount_24 rfl (lv_at hl 0 rfl) ?_
  refine lv_iload_n hx hb dJ6_bitCount_25 rfl (lv_at hl 0 rfl) ?_
  refine lv_iconst (v := 4) hx hb dJ6_bitCount_26 (by decide) ?_
  refine lv_iushr (v := ((((x - (((x.toUInt32 >>> ((1 : Int32).toUInt32 &&& Int32.toUInt32 31)).toInt32) &&& 1431655765)) &&& 858993459) + ((((x - (((x.toUInt32 >>> ((1 : Int32).toUInt32 &&& Int32.toUInt32 31)).toInt32) &&& 1431655765)).toUInt32 >>> ((2 : Int32).toUInt32 &&& Int32.toUInt32 31)).toInt32) &&& 858993459)).toUInt32 >>> ((4 : Int32).toUInt32 &&& Int32.toUInt32 31)).toInt32) hx hb dJ6_bitCount_27 rfl ?_
  refine lv_iadd hx hb dJ6_bitCount_28 ?_
  refine lv_ldcw hx hb hown hw2 dJ6_bitCount_29 ?_
  refine lv_iand hx hb dJ6_bitCount_32 ?_
  refine lv_istore_n (lv' := [(0, .int (((((x - (((x.toUInt32 >>> ((1 : Int32).toUInt32 &&& Int32.toUInt32 31)).toInt32) &&& 1431655765)) &&& 858993459) + ((((x - (((x.toUInt32 >>> ((1 : Int32).toUInt32 &&& Int32.toUInt32 31)).toInt32) &&& 1431655765)).toUInt32 >>> ((2 : Int32).toUInt32 &&& Int32.toUInt32 31)).toInt32) &&& 858993459)) + (((((x - (((x.toUInt32 >>> ((1 : Int32).toUInt32 &&& Int32.toUInt32 31)).toInt32) &&& 1431655765)) &&& 858993459) + ((((x - (((x.toUInt32 >>> ((1 : Int32).toUInt32 &&& Int32.toUInt32 31)).toInt32) &&& 1431655765)).toUInt32 >>> ((2 : Int32).toUInt32 &&& Int32.toUInt32 31)).toInt32) &&& 858993459)).toUInt32 >>> ((4 : Int32).toUInt32 &&& Int32.toUInt32 31)).toInt32)) &&& 252645135))]) hx hb dJ6_bitCount_33 rfl hl (by decide) rfl (fun ls hl => ?_)
  refine lv_iload_n hx hb dJ6_bitCount_34 rfl (lv_at hl 0 rfl) ?_
  refine lv_iload_n hx hb dJ6_bitCount_35 rfl (lv_at hl 0 rfl) ?_
  refine lv_bipush (v := 8) hx hb dJ6_bitCount_36 (by decide) ?_
  refine lv_iushr (v := ((((((x - (((x.toUInt32 >>> ((1 : Int32).toUInt32 &&& Int32.toUInt32 31)).toInt32) &&& 1431655765)) &&& 858993459) + ((((x - (((x.toUInt32 >>> ((1 : Int32).toUInt32 &&& Int32.toUInt32 31)).toInt32) &&& 1431655765)).toUInt32 >>> ((2 : Int32).toUInt32 &&& Int32.toUInt32 31)).toInt32) &&& 858993459)) + (((((x - (((x.toUInt32 >>> ((1 : Int32).toUInt32 &&& Int32.toUInt32 31)).toInt32) &&& 1431655765)) &&& 858993459) + ((((x - (((x.toUInt32 >>> ((1 : Int32).toUInt32 &&& Int32.toUInt32 31)).toInt32) &&& 1431655765)).toUInt32 >>> ((2 : Int32).toUInt32 &&& Int32.toUInt32 31)).toInt32) &&& 858993459)).toUInt32 >>> ((4 : Int32).toUInt32 &&& Int32.toUInt32 31)).toInt32)) &&& 252645135).toUInt32 >>> ((8 : Int32).toUInt32 &&& Int32.toUInt32 31)).toInt32) hx hb dJ6_bitCount_38 rfl ?_
  refine lv_iadd hx hb dJ6_bitCount_39 ?_
  refine lv_istore_n (lv' := [(0, .int ((((((x - (((x.toUInt32 >>> ((1 : Int32).toUInt32 &&& Int32.toUInt32 31)).toInt32) &&& 1431655765)) &&& 858993459) + ((((x - (((x.toUInt32 >>> ((1 : Int32).toUInt32 &&& Int32.toUInt32 31)).toInt32) &&& 1431655765)).toUInt32 >>> ((2 : Int32).toUInt32 &&& Int32.toUInt32 31)).toInt32) &&& 858993459)) + (((((x - (((x.toUInt32 >>> ((1 : Int32).toUInt32 &&& Int32.toUInt32 31)).toInt32) &&& 1431655765)) &&& 858993459) + ((((x - (((x.toUInt32 >>> ((1 : Int32).toUInt32 &&& Int32.toUInt32 31)).toInt32) &&& 1431655765)).toUInt32 >>> ((2 : Int32).toUInt32 &&& Int32.toUInt32 31)).toInt32) &&& 858993459)).toUInt32 >>> ((4 : Int32).toUInt32 &&& Int32.toUInt32 31)).toInt32)) &&& 252645135) + (((((((x - (((x.toUInt32 >>> ((1 : Int32).toUInt32 &&& Int32.toUInt32 31)).toInt32) &&& 1431655765)) &&& 858993459) + ((((x - (((x.toUInt32 >>> ((1 : Int32).toUInt32 &&& Int32.toUInt32 31)).toInt32) &&& 1431655765)).toUInt32 >>> ((2 : Int32).toUInt32 &&& Int32.toUInt32 31)).toInt32) &&& 858993459)) + (((((x - (((x.toUInt32 >>> ((1 : Int32).toUInt32 &&& Int32.toUInt32 31)).toInt32) &&& 1431655765)) &&& 858993459) + ((((x - (((x.toUInt32 >>> ((1 : Int32).toUInt32 &&& Int32.toUInt32 31)).toInt32) &&& 1431655765)).toUInt32 >>> ((2 : Int32).toUInt32 &&& Int32.toUInt32 31)).toInt32) &&& 858993459)).toUInt32 >>> ((4 : Int32).toUInt32 &&& Int32.toUInt32 31)).toInt32)) &&& 252645135).toUInt32 >>> ((8 : Int32).toUInt32 &&& Int32.toUInt32 31)).toInt32)))]) hx hb dJ6_bitCount_40 rfl hl (by decide) rfl (fun ls hl => ?_)
  refine lv_iload_n hx hb dJ6_bitCount_41 rfl (lv_at hl 0 rfl) ?_
  refine lv_iload_n hx hb dJ6_bitCount_42 rfl (lv_at hl 0 rfl) ?_
  refine lv_bipush (v := 16) hx hb dJ6_bitCount_43 (by decide) ?_
  refine lv_iushr (v := (((((((x - (((x.toUInt32 >>> ((1 : Int32).toUInt32 &&& Int32.toUInt32 31)).toInt32) &&& 1431655765)) &&& 858993459) + ((((x - (((x.toUInt32 >>> ((1 : Int32).toUInt32 &&& Int32.toUInt32 31)).toInt32) &&& 1431655765)).toUInt32 >>> ((2 : Int32).toUInt32 &&& Int32.toUInt32 31)).toInt32) &&& 858993459)) + (((((x - (((x.toUInt32 >>> ((1 : Int32).toUInt32 &&& Int32.toUInt32 31)).toInt32) &&& 1431655765)) &&& 858993459) + ((((x - (((x.toUInt32 >>> ((1 : Int32).toUInt32 &&& Int32.toUInt32 31)).toInt32) &&& 1431655765)).toUInt32 >>> ((2 : Int32).toUInt32 &&& Int32.toUInt32 31)).toInt32) &&& 858993459)).toUInt32 >>> ((4 : Int32).toUInt32 &&& Int32.toUInt32 31)).toInt32)) &&& 252645135) + (((((((x - (((x.toUInt32 >>> ((1 : Int32).toUInt32 &&& Int32.toUInt32 31)).toInt32) &&& 1431655765)) &&& 858993459) + ((((x - (((x.toUInt32 >>> ((1 : Int32).toUInt32 &&& Int32.toUInt32 31)).toInt32) &&& 1431655765)).toUInt32 >>> ((2 : Int32).toUInt32 &&& Int32.toUInt32 31)).toInt32) &&& 858993459)) + (((((x - (((x.toUInt32 >>> ((1 : Int32).toUInt32 &&& Int32.toUInt32 31)).toInt32) &&& 1431655765)) &&& 858993459) + ((((x - (((x.toUInt32 >>> ((1 : Int32).toUInt32 &&& Int32.toUInt32 31)).toInt32) &&& 1431655765)).toUInt32 >>> ((2 : Int32).toUInt32 &&& Int32.toUInt32 31)).toInt32) &&& 858993459)).toUInt32 >>> ((4 : Int32).toUInt32 &&& Int32.toUInt32 31)).toInt32)) &&& 252645135).toUInt32 >>> ((8 : Int32).toUInt32 &&& Int32.toUInt32 31)).toInt32)).toUInt32 >>> ((16 : Int32).toUInt32 &&& Int32.toUInt32 31)).toInt32) hx hb dJ6_bitCount_45 rfl ?_
  refine lv_iadd hx hb dJ6_bitCount_46 ?_
  refine lv_istore_n (lv' := [(0, .int (((((((x - (((x.toUInt32 >>> ((1 : Int32).toUInt32 &&& Int32.toUInt32 31)).toInt32) &&& 1431655765)) &&& 858993459) + ((((x - (((x.toUInt32 >>> ((1 : Int32).toUInt32 &&& Int32.toUInt32 31)).toInt32) &&& 1431655765)).toUInt32 >>> ((2 : Int32).toUInt32 &&& Int32.toUInt32 31)).toInt32) &&& 858993459)) + (((((x - (((x.toUInt32 >>> ((1 : Int32).toUInt32 &&& Int32.toUInt32 31)).toInt32) &&& 1431655765)) &&& 858993459) + ((((x - (((x.toUInt32 >>> ((1 : Int32).toUInt32 &&& Int32.toUInt32 31)).toInt32) &&& 1431655765)).toUInt32 >>> ((2 : Int32).toUInt32 &&& Int32.toUInt32 31)).toInt32) &&& 858993459)).toUInt32 >>> ((4 : Int32).toUInt32 &&& Int32.toUInt32 31)).toInt32)) &&& 252645135) + (((((((x - (((x.toUInt32 >>> ((1 : Int32).toUInt32 &&& Int32.toUInt32 31)).toInt32) &&& 1431655765)) &&& 858993459) + ((((x - (((x.toUInt32 >>> ((1 : Int32).toUInt32 &&& Int32.toUInt32 31)).toInt32) &&& 1431655765)).toUInt32 >>> ((2 : Int32).toUInt32 &&& Int32.toUInt32 31)).toInt32) &&& 858993459)) + (((((x - (((x.toUInt32 >>> ((1 : Int32).toUInt32 &&& Int32.toUInt32 31)).toInt32) &&& 1431655765)) &&& 858993459) + ((((x - (((x.toUInt32 >>> ((1 : Int32).toUInt32 &&& Int32.toUInt32 31)).toInt32) &&& 1431655765)).toUInt32 >>> ((2 : Int32).toUInt32 &&& Int32.toUInt32 31)).toInt32) &&& 858993459)).toUInt32 >>> ((4 : Int32).toUInt32 &&& Int32.toUInt32 31)).toInt32)) &&& 252645135).toUInt32 >>> ((8 : Int32).toUInt32 &&& Int32.toUInt32 31)).toInt32)) + ((((((((x - (((x.toUInt32 >>> ((1 : Int32).toUInt32 &&& Int32.toUInt32 31)).toInt32) &&& 1431655765)) &&& 858993459) + ((((x - (((x.toUInt32 >>> ((1 : Int32).toUInt32 &&& Int32.toUInt32 31)).toInt32) &&& 1431655765)).toUInt32 >>> ((2 : Int32).toUInt32 &&& Int32.toUInt32 31)).toInt32) &&& 858993459)) + (((((x - (((x.toUInt32 >>> ((1 : Int32).toUInt32 &&& Int32.toUInt32 31)).toInt32) &&& 1431655765)) &&& 858993459) + ((((x - (((x.toUInt32 >>> ((1 : Int32).toUInt32 &&& Int32.toUInt32 31)).toInt32) &&& 1431655765)).toUInt32 >>> ((2 : Int32).toUInt32 &&& Int32.toUInt32 31)).toInt32) &&& 858993459)).toUInt32 >>> ((4 : Int32).toUInt32 &&& Int32.toUInt32 31)).toInt32)) &&& 252645135) + (((((((x - (((x.toUInt32 >>> ((1 : Int32).toUInt32 &&& Int32.toUInt32 31)).toInt32) &&& 1431655765)) &&& 858993459) + ((((x - (((x.toUInt32 >>> ((1 : Int32).toUInt32 &&& Int32.toUInt32 31)).toInt32) &&& 1431655765)).toUInt32 >>> ((2 : Int32).toUInt32 &&& Int32.toUInt32 31)).toInt32) &&& 858993459)) + (((((x - (((x.toUInt32 >>> ((1 : Int32).toUInt32 &&& Int32.toUInt32 31)).toInt32) &&& 1431655765)) &&& 858993459) + ((((x - (((x.toUInt32 >>> ((1 : Int32).toUInt32 &&& Int32.toUInt32 31)).toInt32) &&& 1431655765)).toUInt32 >>> ((2 : Int32).toUInt32 &&& Int32.toUInt32 31)).toInt32) &&& 858993459)).toUInt32 >>> ((4 : Int32).toUInt32 &&& Int32.toUInt32 31)).toInt32)) &&& 252645135).toUInt32 >>> ((8 : Int32).toUInt32 &&& Int32.toUInt32 31)).toInt32)).toUInt32 >>> ((16 : Int32).toUInt32 &&& Int32.toUInt32 31)).toInt32)))]) hx hb dJ6_bitCount_47 rfl hl (by decide) rfl (fun ls hl => ?_)
  refine lv_iload_n hx hb dJ6_bitCount_48 rfl (lv_at hl 0 rfl) ?_
  refine lv_bipush (v := 63) hx hb dJ6_bitCount_49 (by decide) ?_
  refine lv_iand hx hb dJ6_bitCount_51 ?_
  exact W.iret (v := ((((((((x - (((x.toUInt32 >>> ((1 : Int32).toUInt32 &&& Int32.toUInt32 31)).toInt32) &&& 1431655765)) &&& 858993459) + ((((x - (((x.toUInt32 >>> ((1 : Int32).toUInt32 &&& Int32.toUInt32 31)).toInt32) &&& 1431655765)).toUInt32 >>> ((2 : Int32).toUInt32 &&& Int32.toUInt32 31)).toInt32) &&& 858993459)) + (((((x - (((x.toUInt32 >>> ((1 : Int32).toUInt32 &&& Int32.toUInt32 31)).toInt32) &&& 1431655765)) &&& 858993459) + ((((x - (((x.toUInt32 >>> ((1 : Int32).toUInt32 &&& Int32.toUInt32 31)).toInt32) &&& 1431655765)).toUInt32 >>> ((2 : Int32).toUInt32 &&& Int32.toUInt32 31)).toInt32) &&& 858993459)).toUInt32 >>> ((4 : Int32).toUInt32 &&& Int32.toUInt32 31)).toInt32)) &&& 252645135) + (((((((x - (((x.toUInt32 >>> ((1 : Int32).toUInt32 &&& Int32.toUInt32 31)).toInt32) &&& 1431655765)) &&& 858993459) + ((((x - (((x.toUInt32 >>> ((1 : Int32).toUInt32 &&& Int32.toUInt32 31)).toInt32) &&& 1431655765)).toUInt32 >>> ((2 : Int32).toUInt32 &&& Int32.toUInt32 31)).toInt32) &&& 858993459)) + (((((x - (((x.toUInt32 >>> ((1 : Int32).toUInt32 &&& Int32.toUInt32 31)).toInt32) &&& 1431655765)) &&& 858993459) + ((((x - (((x.toUInt32 >>> ((1 : Int32).toUInt32 &&& Int32.toUInt32 31)).toInt32) &&& 1431655765)).toUInt32 >>> ((2 : Int32).toUInt32 &&& Int32.toUInt32 31)).toInt32) &&& 858993459)).toUInt32 >>> ((4 : Int32).toUInt32 &&& Int32.toUInt32 31)).toInt32)) &&& 252645135).toUInt32 >>> ((8 : Int32).toUInt32 &&& Int32.toUInt32 31)).toInt32)) + ((((((((x - (((x.toUInt32 >>> ((1 : Int32).toUInt32 &&& Int32.toUInt32 31)).toInt32) &&& 1431655765)) &&& 858993459) + ((((x - (((x.toUInt32 >>> ((1 : Int32).toUInt32 &&& Int32.toUInt32 31)).toInt32) &&& 1431655765)).toUInt32 >>> ((2 : Int32).toUInt32 &&& Int32.toUInt32 31)).toInt32) &&& 858993459)) + (((((x - (((x.toUInt32 >>> ((1 : Int32).toUInt32 &&& Int32.toUInt32 31)).toInt32) &&& 1431655765)) &&& 858993459) + ((((x - (((x.toUInt32 >>> ((1 : Int32).toUInt32 &&& Int32.toUInt32 31)).toInt32) &&& 1431655765)).toUInt32 >>> ((2 : Int32).toUInt32 &&& Int32.toUInt32 31)).toInt32) &&& 858993459)).toUInt32 >>> ((4 : Int32).toUInt32 &&& Int32.toUInt32 31)).toInt32)) &&& 252645135) + (((((((x - (((x.toUInt32 >>> ((1 : Int32).toUInt32 &&& Int32.toUInt32 31)).toInt32) &&& 1431655765)) &&& 858993459) + ((((x - (((x.toUInt32 >>> ((1 : Int32).toUInt32 &&& Int32.toUInt32 31)).toInt32) &&& 1431655765)).toUInt32 >>> ((2 : Int32).toUInt32 &&& Int32.toUInt32 31)).toInt32) &&& 858993459)) + (((((x - (((x.toUInt32 >>> ((1 : Int32).toUInt32 &&& Int32.toUInt32 31)).toInt32) &&& 1431655765)) &&& 858993459) + ((((x - (((x.toUInt32 >>> ((1 : Int32).toUInt32 &&& Int32.toUInt32 31)).toInt32) &&& 1431655765)).toUInt32 >>> ((2 : Int32).toUInt32 &&& Int32.toUInt32 31)).toInt32) &&& 858993459)).toUInt32 >>> ((4 : Int32).toUInt32 &&& Int32.toUInt32 31)).toInt32)) &&& 252645135).toUInt32 >>> ((8 : Int32).toUInt32 &&& Int32.toUInt32 31)).toInt32)).toUInt32 >>> ((16 : Int32).toUInt32 &&& Int32.toUInt32 31)).toInt32)) &&& 63)) hx hb hr (fun t ht hW => ⟨⟨_, (), rfl, hF, trivial⟩, hS.F ht⟩) hS.2.2 dJ6_bitCount_52
set_option maxHeartbeats 4000000 in
set_option maxRecDepth 100000 in
theorem c_isWeight (l : Launch) (dC : Nat → ClassId) (dI : Nat → Nat → Nat) (cI cL cZ : ClassId) (ad : Nat → Nat) (hinj : xI ad 15) (w : Int32) : Met l yX3_isWeight wsX3_isWeight ({ frames := 0, cells := 0, slots := 0, locals := 0 }) (va_Pc [.int w] (fun U => va_P (dC, dI) vwCl [] U.heap ∧ va_K (dC, dI) vwCl [(cI, .int), (cL, .long), (cZ, .boolean)] U)) (va_Qi (fun r (_ : Unit) => f_isWeight w = r) (fun _ _ => True) xN) 0 0 xN := by
  refine Met.ofW (cc := cX3_isWeight) (maxL := 1) (ret := (some .boolean)) (by decide) rfl ?_
  intro p e s m args below meth c s₁ B hml hvv
  obtain ⟨rfl, hP0, hK⟩ := hvv
  have hx := B.exec
  have hb := B.bytes
  have hr := B.returns
  have hts := atoms_spec (ws := wsX3_isWeight) B.pre
  have hown : s.vm.findClass RX3 = some m.cls := findClass_of_methodNamed B.named
  have hlocks := B.notSynchronized
  have hw0 : (.constant RX3 143 1000000 : Cond).before _ s = true := hts _ (List.mem_cons_of_mem _ wd_371)
  have hS : va_S xN s.heap s.heap [] := va_S.rf
  have hl := lv_entry [.int w] (n := 1) (Nat.le_of_ble_eq_true rfl)
  rw [lg_entry_eq]
  generalize (lg_sl [.int w] ++ List.replicate (1 - (lg_sl [.int w]).length) Slot.unset).toArray = ls at hl ⊢
  have hl : lv_has ls 1 [(0, .int w)] := hl
  have hF := Eq.refl (f_isWeight w)
  conv at hF => rhs; unfold f_isWeight
  refine lv_iload_n hx hb dX3_isWeight_0 rfl (lv_at hl 0 rfl) ?_
  refine lv_if_lt (tgt := 14) hx hb dX3_isWeight_1 (by decide) (fun h1 => ?_) (fun h1 => ?_)
  · have hF := hF.trans (if_pos h1)
    refine lv_iconst (v := 0) hx hb dX3_isWeight_14 (by decide) ?_
    exact W.zret (v := 0) hx hb hr rfl (fun t ht hW => ⟨⟨_, (), rfl, hF, trivial⟩, hS.F ht⟩) hS.2.2 dX3_isWeight_15
  · have hF := hF.trans (if_neg h1)
    refine lv_iload_n hx hb dX3_isWeight_4 rfl (lv_at hl 0 rfl) ?_
    refine lv_ldc hx hb hown hw0 dX3_isWeight_5 ?_
    refine lv_icmp_gt (tgt := 14) hx hb dX3_isWeight_7 (by decide) (fun h2 => ?_) (fun h2 => ?_)
    · have hF := hF.trans (if_pos h2)
      refine lv_iconst (v := 0) hx hb dX3_isWeight_14 (by decide) ?_
      exact W.zret (v := 0) hx hb hr rfl (fun t ht hW => ⟨⟨_, (), rfl, hF, trivial⟩, hS.F ht⟩) hS.2.2 dX3_isWeight_15
    · have hF := hF.trans (if_neg h2)
      refine lv_iconst (v := 1) hx hb dX3_isWeight_10 (by decide) ?_
      refine lv_goto (tgt := 15) hx hb dX3_isWeight_11 (by decide) ?_
      exact W.zret (v := 1) hx hb hr rfl (fun t ht hW => ⟨⟨_, (), rfl, hF, trivial⟩, hS.F ht⟩) hS.2.2 dX3_isWeight_15
set_option maxHeartbeats 4000000 in
set_option maxRecDepth 100000 in
theorem c_countIfPresent (l : Launch) (dC : Nat → ClassId) (dI : Nat → Nat → Nat) (cI cL cZ : ClassId) (ad : Nat → Nat) (hinj : xI ad 15) (x : Int32) : Met l yX3_countIfPresent wsX3_countIfPresent ({ frames := 0, cells := 0, slots := 0, locals := 0 }) (va_Pc [.int x] (fun U => va_P (dC, dI) vwCl [] U.heap ∧ va_K (dC, dI) vwCl [(cI, .int), (cL, .long), (cZ, .boolean)] U)) (va_Qi (fun r (_ : Unit) => f_countIfPresent x = r) (fun _ _ => True) xN) 0 0 xN := by
  refine Met.ofW (cc := cX3_countIfPresent) (maxL := 1) (ret := (some .int)) (by decide) rfl ?_
  intro p e s m args below meth c s₁ B hml hvv
  obtain ⟨rfl, hP0, hK⟩ := hvv
  have hx := B.exec
  have hb := B.bytes
  have hr := B.returns
  have hts := atoms_spec (ws := wsX3_countIfPresent) B.pre
  have hown : s.vm.findClass RX3 = some m.cls := findClass_of_methodNamed B.named
  have hlocks := B.notSynchronized
  have hS : va_S xN s.heap s.heap [] := va_S.rf
  have hl := lv_entry [.int x] (n := 1) (Nat.le_of_ble_eq_true rfl)
  rw [lg_entry_eq]
  generalize (lg_sl [.int x] ++ List.replicate (1 - (lg_sl [.int x]).length) Slot.unset).toArray = ls at hl ⊢
  have hl : lv_has ls 1 [(0, .int x)] := hl
  have hF := Eq.refl (f_countIfPresent x)
  conv at hF => rhs; unfold f_countIfPresent
  refine lv_iload_n hx hb dX3_countIfPresent_0 rfl (lv_at hl 0 rfl) ?_
  refine lv_iconst (v := (-1)) hx hb dX3_countIfPresent_1 (by decide) ?_
  refine lv_icmp_ne (tgt := 9) hx hb dX3_countIfPresent_2 (by decide) (fun h1 => ?_) (fun h1 => ?_)
  · have hF := hF.trans (if_neg h1)
    refine lv_iconst (v := 1) hx hb dX3_countIfPresent_9 (by decide) ?_
    exact W.iret (v := 1) hx hb hr (fun t ht hW => ⟨⟨_, (), rfl, hF, trivial⟩, hS.F ht⟩) hS.2.2 dX3_countIfPresent_10
  · have hF := hF.trans (if_pos h1)
    refine lv_iconst (v := 0) hx hb dX3_countIfPresent_5 (by decide) ?_
    refine lv_goto (tgt := 10) hx hb dX3_countIfPresent_6 (by decide) ?_
    exact W.iret (v := 0) hx hb hr (fun t ht hW => ⟨⟨_, (), rfl, hF, trivial⟩, hS.F ht⟩) hS.2.2 dX3_countIfPresent_10
set_option maxHeartbeats 4000000 in
set_option maxRecDepth 100000 in
theorem c_bitIfTrue (l : Launch) (dC : Nat → ClassId) (dI : Nat → Nat → Nat) (cI cL cZ : ClassId) (ad : Nat → Nat) (hinj : xI ad 15) (x : Int32) : Met l yX3_bitIfTrue wsX3_bitIfTrue ({ frames := 0, cells := 0, slots := 0, locals := 0 }) (va_Pc [.int x] (fun U => va_P (dC, dI) vwCl [] U.heap ∧ va_K (dC, dI) vwCl [(cI, .int), (cL, .long), (cZ, .boolean)] U)) (va_Qi (fun r (_ : Unit) => f_bitIfTrue x = r) (fun _ _ => True) xN) 0 0 xN := by
  refine Met.ofW (cc := cX3_bitIfTrue) (maxL := 1) (ret := (some .int)) (by decide) rfl ?_
  intro p e s m args below meth c s₁ B hml hvv
  obtain ⟨rfl, hP0, hK⟩ := hvv
  have hx := B.exec
  have hb := B.bytes
  have hr := B.returns
  have hts := atoms_spec (ws := wsX3_bitIfTrue) B.pre
  have hown : s.vm.findClass RX3 = some m.cls := findClass_of_methodNamed B.named
  have hlocks := B.notSynchronized
  have hS : va_S xN s.heap s.heap [] := va_S.rf
  have hl := lv_entry [.int x] (n := 1) (Nat.le_of_ble_eq_true rfl)
  rw [lg_entry_eq]
  generalize (lg_sl [.int x] ++ List.replicate (1 - (lg_sl [.int x]).length) Slot.unset).toArray = ls at hl ⊢
  have hl : lv_has ls 1 [(0, .int x)] := hl
  have hF := Eq.refl (f_bitIfTrue x)
  conv at hF => rhs; unfold f_bitIfTrue
  refine lv_iload_n hx hb dX3_bitIfTrue_0 rfl (lv_at hl 0 rfl) ?_
  refine lv_iconst (v := (-1)) hx hb dX3_bitIfTrue_1 (by decide) ?_
  refine lv_icmp_eq (tgt := 12) hx hb dX3_bitIfTrue_2 (by decide) (fun h1 => ?_) (fun h1 => ?_)
  · have hF := hF.trans (if_pos h1)
    refine lv_iconst (v := 0) hx hb dX3_bitIfTrue_12 (by decide) ?_
    refine lv_goto (tgt := 21) hx hb dX3_bitIfTrue_13 (by decide) ?_
    exact W.iret (v := 0) hx hb hr (fun t ht hW => ⟨⟨_, (), rfl, hF, trivial⟩, hS.F ht⟩) hS.2.2 dX3_bitIfTrue_21
  · have hF := hF.trans (if_neg h1)
    refine lv_iload_n hx hb dX3_bitIfTrue_5 rfl (lv_at hl 0 rfl) ?_
    refine lv_iconst (v := 1) hx hb dX3_bitIfTrue_6 (by decide) ?_
    refine lv_iand hx hb dX3_bitIfTrue_7 ?_
    refine lv_iconst (v := 1) hx hb dX3_bitIfTrue_8 (by decide) ?_
    refine lv_icmp_ne (tgt := 16) hx hb dX3_bitIfTrue_9 (by decide) (fun h2 => ?_) (fun h2 => ?_)
    · have hF := hF.trans (if_neg h2)
      refine lv_iconst (v := 1) hx hb dX3_bitIfTrue_16 (by decide) ?_
      refine lv_iload_n hx hb dX3_bitIfTrue_17 rfl (lv_at hl 0 rfl) ?_
      refine lv_iconst (v := 1) hx hb dX3_bitIfTrue_18 (by decide) ?_
      refine lv_ishr hx hb dX3_bitIfTrue_19 ?_
      refine lv_ishl hx hb dX3_bitIfTrue_20 ?_
      exact W.iret (v := ((1 : Int32) <<< ((x >>> (1 &&& 31)) &&& 31))) hx hb hr (fun t ht hW => ⟨⟨_, (), rfl, hF, trivial⟩, hS.F ht⟩) hS.2.2 dX3_bitIfTrue_21
    · have hF := hF.trans (if_pos h2)
      refine lv_iconst (v := 0) hx hb dX3_bitIfTrue_12 (by decide) ?_
      refine lv_goto (tgt := 21) hx hb dX3_bitIfTrue_13 (by decide) ?_
      exact W.iret (v := 0) hx hb hr (fun t ht hW => ⟨⟨_, (), rfl, hF, trivial⟩, hS.F ht⟩) hS.2.2 dX3_bitIfTrue_21
set_option maxHeartbeats 4000000 in
set_option maxRecDepth 100000 in
theorem c_bitIfFalse (l : Launch) (dC : Nat → ClassId) (dI : Nat → Nat → Nat) (cI cL cZ : ClassId) (ad : Nat → Nat) (hinj : xI ad 15) (x : Int32) : Met l yX3_bitIfFalse wsX3_bitIfFalse ({ frames := 0, cells := 0, slots := 0, locals := 0 }) (va_Pc [.int x] (fun U => va_P (dC, dI) vwCl [] U.heap ∧ va_K (dC, dI) vwCl [(cI, .int), (cL, .long), (cZ, .boolean)] U)) (va_Qi (fun r (_ : Unit) => f_bitIfFalse x = r) (fun _ _ => True) xN) 0 0 xN := by
  refine Met.ofW (cc := cX3_bitIfFalse) (maxL := 1) (ret := (some .int)) (by decide) rfl ?_
  intro p e s m args below meth c s₁ B hml hvv
  obtain ⟨rfl, hP0, hK⟩ := hvv
  have hx := B.exec
  have hb := B.bytes
  have hr := B.returns
  have hts := atoms_spec (ws := wsX3_bitIfFalse) B.pre
  have hown : s.vm.findClass RX3 = some m.cls := findClass_of_methodNamed B.named
  have hlocks := B.notSynchronized
  have hS : va_S xN s.heap s.heap [] := va_S.rf
  have hl := lv_entry [.int x] (n := 1) (Nat.le_of_ble_eq_true rfl)
  rw [lg_entry_eq]
  generalize (lg_sl [.int x] ++ List.replicate (1 - (lg_sl [.int x]).length) Slot.unset).toArray = ls at hl ⊢
  have hl : lv_has ls 1 [(0, .int x)] := hl
  have hF := Eq.refl (f_bitIfFalse x)
  conv at hF => rhs; unfold f_bitIfFalse
  refine lv_iload_n hx hb dX3_bitIfFalse_0 rfl (lv_at hl 0 rfl) ?_
  refine lv_iconst (v := (-1)) hx hb dX3_bitIfFalse_1 (by decide) ?_
  refine lv_icmp_eq (tgt := 11) hx hb dX3_bitIfFalse_2 (by decide) (fun h1 => ?_) (fun h1 => ?_)
  · have hF := hF.trans (if_pos h1)
    refine lv_iconst (v := 0) hx hb dX3_bitIfFalse_11 (by decide) ?_
    refine lv_goto (tgt := 20) hx hb dX3_bitIfFalse_12 (by decide) ?_
    exact W.iret (v := 0) hx hb hr (fun t ht hW => ⟨⟨_, (), rfl, hF, trivial⟩, hS.F ht⟩) hS.2.2 dX3_bitIfFalse_20
  · have hF := hF.trans (if_neg h1)
    refine lv_iload_n hx hb dX3_bitIfFalse_5 rfl (lv_at hl 0 rfl) ?_
    refine lv_iconst (v := 1) hx hb dX3_bitIfFalse_6 (by decide) ?_
    refine lv_iand hx hb dX3_bitIfFalse_7 ?_
    refine lv_if_ne (tgt := 15) hx hb dX3_bitIfFalse_8 (by decide) (fun h2 => ?_) (fun h2 => ?_)
    · have hF := hF.trans (if_neg h2)
      refine lv_iconst (v := 1) hx hb dX3_bitIfFalse_15 (by decide) ?_
      refine lv_iload_n hx hb dX3_bitIfFalse_16 rfl (lv_at hl 0 rfl) ?_
      refine lv_iconst (v := 1) hx hb dX3_bitIfFalse_17 (by decide) ?_
      refine lv_ishr hx hb dX3_bitIfFalse_18 ?_
      refine lv_ishl hx hb dX3_bitIfFalse_19 ?_
      exact W.iret (v := ((1 : Int32) <<< ((x >>> (1 &&& 31)) &&& 31))) hx hb hr (fun t ht hW => ⟨⟨_, (), rfl, hF, trivial⟩, hS.F ht⟩) hS.2.2 dX3_bitIfFalse_20
    · have hF := hF.trans (if_pos h2)
      refine lv_iconst (v := 0) hx hb dX3_bitIfFalse_11 (by decide) ?_
      refine lv_goto (tgt := 20) hx hb dX3_bitIfFalse_12 (by decide) ?_
      exact W.iret (v := 0) hx hb hr (fun t ht hW => ⟨⟨_, (), rfl, hF, trivial⟩, hS.F ht⟩) hS.2.2 dX3_bitIfFalse_20
set_option maxHeartbeats 4000000 in
set_option maxRecDepth 100000 in
theorem c_variableBit (l : Launch) (dC : Nat → ClassId) (dI : Nat → Nat → Nat) (cI cL cZ : ClassId) (ad : Nat → Nat) (hinj : xI ad 15) (x : Int32) : Met l yX3_variableBit wsX3_variableBit ({ frames := 1, cells := 0, slots := 0, locals := 20 }) (va_Pc [.int x] (fun U => va_P (dC, dI) vwCl [] U.heap ∧ va_K (dC, dI) vwCl [(cI, .int), (cL, .long), (cZ, .boolean)] U)) (va_Qi (fun r (_ : Unit) => f_variableBit x = r) (fun _ _ => True) xN) 0 0 xN := by
  refine Met.ofW (cc := cX3_variableBit) (maxL := 1) (ret := (some .int)) (by decide) rfl ?_
  intro p e s m args below meth c s₁ B hml hvv
  obtain ⟨rfl, hP0, hK⟩ := hvv
  have hx := B.exec
  have hb := B.bytes
  have hr := B.returns
  have hts := atoms_spec (ws := wsX3_variableBit) B.pre
  have hown : s.vm.findClass RX3 = some m.cls := findClass_of_methodNamed B.named
  have hlocks := B.notSynchronized
  have hS : va_S xN s.heap s.heap [] := va_S.rf
  have hl := lv_entry [.int x] (n := 1) (Nat.le_of_ble_eq_true rfl)
  rw [lg_entry_eq]
  generalize (lg_sl [.int x] ++ List.replicate (1 - (lg_sl [.int x]).length) Slot.unset).toArray = ls at hl ⊢
  have hl : lv_has ls 1 [(0, .int x)] := hl
  have hF := Eq.refl (f_variableBit x)
  conv at hF => rhs; unfold f_variableBit
  refine lv_iload_n hx hb dX3_variableBit_0 rfl (lv_at hl 0 rfl) ?_
  refine xro_i (va_runS (As := [.int x]) (rest := []) ⟨hx, hb, hml, hown, hts⟩ (c_bitIfTrue l dC dI cI cL cZ ad hinj x) (xcwS 1 hts wd_388 wd_34 wd_386 wd_387 rfl rfl (by decide +kernel) ⟨Nat.le_of_ble_eq_true rfl, Nat.le_of_ble_eq_true rfl⟩) (xpreS xPn hK) rfl rfl hl.1 rfl (lv_room (Nat.le_of_ble_eq_true rfl)) dX3_variableBit_1 ⟨Nat.le_of_ble_eq_true rfl, Nat.le_of_ble_eq_true rfl⟩) hS (fun H locs hk hS => ?_)
  refine lv_iload_n hx hb dX3_variableBit_4 rfl (lv_at hl 0 rfl) ?_
  refine xro_i (va_runS (As := [.int x]) (rest := [.int (f_bitIfTrue x)]) ⟨hx, hb, hml, hown, hts⟩ (c_bitIfFalse l dC dI cI cL cZ ad hinj x) (xcwS 1 hts wd_391 wd_34 wd_389 wd_390 rfl rfl (by decide +kernel) ⟨Nat.le_of_ble_eq_true rfl, Nat.le_of_ble_eq_true rfl⟩) (xpreS xPn hK) rfl rfl hl.1 rfl (lv_room (Nat.le_of_ble_eq_true rfl)) dX3_variableBit_5 ⟨Nat.le_of_ble_eq_true rfl, Nat.le_of_ble_eq_true rfl⟩) hS (fun H locs hk hS => ?_)
  refine lv_ior hx hb dX3_variableBit_8 ?_
  exact W.iret (v := ((f_bitIfTrue x) ||| (f_bitIfFalse x))) hx hb hr (fun t ht hW => ⟨⟨_, (), rfl, hF, trivial⟩, hS.F ht⟩) hS.2.2 dX3_variableBit_9
end
section
def f_variablesOf (mt mf : Nat → Int32) (i : Nat) : Int32 :=
  ((mt i) ||| (mf i))
def f_withoutValue (mt mf : Nat → Int32) (i : Nat) (hv : Int32) : Int32 :=
  (((mt i) ||| (mf i)) &&& (hv ^^^ (-1)))
def f_literalsSayingTrue (mt : Nat → Int32) (i : Nat) : Int32 :=
  (mt i)
def f_isTrue (mt mf : Nat → Int32) (i : Nat) (hv vl : Int32) : Int32 :=
  if ((mt i) &&& vl) = 0 then
    if (((mf i) &&& hv) &&& (vl ^^^ (-1))) = 0 then
      0
    else
      1
  else
    1
def f_isFalse (mt mf : Nat → Int32) (i : Nat) (hv vl : Int32) : Int32 :=
  if (((mt i) ||| (mf i)) &&& (hv ^^^ (-1))) = 0 then
    if (((mt i) ||| (mf i)) &&& vl) = (mf i) then
      1
    else
      0
  else
    0
set_option maxHeartbeats 4000000 in
set_option maxRecDepth 100000 in
theorem c_variablesOf (l : Launch) (dC : Nat → ClassId) (dI : Nat → Nat → Nat) (cI cL cZ : ClassId) (ad : Nat → Nat) (hinj : xI ad 15) (nv : Nat) (av : Int32) (nc : Nat) (mt mf wt : Nat → Int32) (i : Nat) (hi : i < 40) : Met l yX1_variablesOf wsX1_variablesOf ({ frames := 0, cells := 0, slots := 0, locals := 0 }) (va_Pc [.ref (ad 1), .int (nI i)] (fun U => va_P (dC, dI) vwCl [(ad 1, .inr (1, [.int (nI nv), .int av, .int (nI nc), .ref (ad 2), .ref (ad 3), .ref (ad 4)])), (ad 2, .inl (cI, 40, .inl mt)), (ad 3, .inl (cI, 40, .inl mf)), (ad 4, .inl (cI, 40, .inl wt))] U.heap ∧ va_K (dC, dI) vwCl [(cI, .int), (cL, .long), (cZ, .boolean)] U)) (va_Qi (fun r (_ : Unit) => f_variablesOf mt mf i = r) (fun _ _ => True) xN) 0 0 xN := by
  refine Met.ofW (cc := cX1_variablesOf) (maxL := 2) (ret := (some .int)) (by decide) rfl ?_
  intro p e s m args below meth c s₁ B hml hvv
  obtain ⟨rfl, hP0, hK⟩ := hvv
  have hx := B.exec
  have hb := B.bytes
  have hr := B.returns
  have hts := atoms_spec (ws := wsX1_variablesOf) B.pre
  have hown : s.vm.findClass RX1 = some m.cls := findClass_of_methodNamed B.named
  have hlocks := B.notSynchronized
  have hw0 : (.fieldLink RX1 9 "WeightedClauses$Formula" "makesTrue" "[I" : Cond).before _ s = true := hts _ (List.mem_cons_of_mem _ wd_75)
  have hw1 : (.fieldLink RX1 15 "WeightedClauses$Formula" "makesFalse" "[I" : Cond).before _ s = true := hts _ (List.mem_cons_of_mem _ wd_76)
  have hPr : va_P (dC, dI) vwCl [(ad 1, .inr (1, [.int (nI nv), .int av, .int (nI nc), .ref (ad 2), .ref (ad 3), .ref (ad 4)])), (ad 2, .inl (cI, 40, .inl mt)), (ad 3, .inl (cI, 40, .inl mf)), (ad 4, .inl (cI, 40, .inl wt))] s.heap := hP0.sub [0, 1, 2, 3] rfl
  have hS : va_S xN s.heap s.heap [] := va_S.rf
  have hl := lv_entry [.ref (ad 1), .int (nI i)] (n := 2) (Nat.le_of_ble_eq_true rfl)
  rw [lg_entry_eq]
  generalize (lg_sl [.ref (ad 1), .int (nI i)] ++ List.replicate (2 - (lg_sl [.ref (ad 1), .int (nI i)]).length) Slot.unset).toArray = ls at hl ⊢
  have hl : lv_has ls 2 [(0, .ref (ad 1)), (1, .int (nI i))] := hl
  have hF := Eq.refl (f_variablesOf mt mf i)
  conv at hF => rhs; unfold f_variablesOf
  refine lv_aload_n hx hb dX1_variablesOf_0 rfl (lv_at hl 0 rfl) ?_
  have hR := xP0 hPr xnN hS
  refine va_get (D := (dC, dI)) (ci := 1) (v := .ref (ad 2)) (C := RX1) (T := TX1) (N := 6) hx hb hts (xcons inX1) hown hK hR 0 rfl rfl 3 (by decide) hw0 (fun _ h9 => h9) rfl dX1_variablesOf_1 ?_
  refine lv_iload_n hx hb dX1_variablesOf_4 rfl (lv_at hl 1 rfl) ?_
  refine xr_iald hx hb hK hR 1 0 rfl rfl i (by omega) (by omega) dX1_variablesOf_5 ?_
  refine lv_aload_n hx hb dX1_variablesOf_6 rfl (lv_at hl 0 rfl) ?_
  refine va_get (D := (dC, dI)) (ci := 1) (v := .ref (ad 3)) (C := RX1) (T := TX1) (N := 6) hx hb hts (xcons inX1) hown hK hR 0 rfl rfl 4 (by decide) hw1 (fun _ h9 => h9) rfl dX1_variablesOf_7 ?_
  refine lv_iload_n hx hb dX1_variablesOf_10 rfl (lv_at hl 1 rfl) ?_
  refine xr_iald hx hb hK hR 2 0 rfl rfl i (by omega) (by omega) dX1_variablesOf_11 ?_
  refine lv_ior hx hb dX1_variablesOf_12 ?_
  exact W.iret (v := ((mt i) ||| (mf i))) hx hb hr (fun t ht hW => ⟨⟨_, (), rfl, hF, trivial⟩, hS.F ht⟩) hS.2.2 dX1_variablesOf_13
set_option maxHeartbeats 4000000 in
set_option maxRecDepth 100000 in
theorem c_withoutValue (l : Launch) (dC : Nat → ClassId) (dI : Nat → Nat → Nat) (cI cL cZ : ClassId) (ad : Nat → Nat) (hinj : xI ad 15) (nv : Nat) (av : Int32) (nc : Nat) (mt mf wt : Nat → Int32) (i : Nat) (hi : i < 40) (hv : Int32) : Met l yX1_withoutValue wsX1_withoutValue ({ frames := 0, cells := 0, slots := 0, locals := 0 }) (va_Pc [.ref (ad 1), .int (nI i), .int hv] (fun U => va_P (dC, dI) vwCl [(ad 1, .inr (1, [.int (nI nv), .int av, .int (nI nc), .ref (ad 2), .ref (ad 3), .ref (ad 4)])), (ad 2, .inl (cI, 40, .inl mt)), (ad 3, .inl (cI, 40, .inl mf)), (ad 4, .inl (cI, 40, .inl wt))] U.heap ∧ va_K (dC, dI) vwCl [(cI, .int), (cL, .long), (cZ, .boolean)] U)) (va_Qi (fun r (_ : Unit) => f_withoutValue mt mf i hv = r) (fun _ _ => True) xN) 0 0 xN := by
  refine Met.ofW (cc := cX1_withoutValue) (maxL := 3) (ret := (some .int)) (by decide) rfl ?_
  intro p e s m args below meth c s₁ B hml hvv
  obtain ⟨rfl, hP0, hK⟩ := hvv
  have hx := B.exec
  have hb := B.bytes
  have hr := B.returns
  have hts := atoms_spec (ws := wsX1_withoutValue) B.pre
  have hown : s.vm.findClass RX1 = some m.cls := findClass_of_methodNamed B.named
  have hlocks := B.notSynchronized
  have hw0 : (.fieldLink RX1 9 "WeightedClauses$Formula" "makesTrue" "[I" : Cond).before _ s = true := hts _ (List.mem_cons_of_mem _ wd_75)
  have hw1 : (.fieldLink RX1 15 "WeightedClauses$Formula" "makesFalse" "[I" : Cond).before _ s = true := hts _ (List.mem_cons_of_mem _ wd_76)
  have hPr : va_P (dC, dI) vwCl [(ad 1, .inr (1, [.int (nI nv), .int av, .int (nI nc), .ref (ad 2), .ref (ad 3), .ref (ad 4)])), (ad 2, .inl (cI, 40, .inl mt)), (ad 3, .inl (cI, 40, .inl mf)), (ad 4, .inl (cI, 40, .inl wt))] s.heap := hP0.sub [0, 1, 2, 3] rfl
  have hS : va_S xN s.heap s.heap [] := va_S.rf
  have hl := lv_entry [.ref (ad 1), .int (nI i), .int hv] (n := 3) (Nat.le_of_ble_eq_true rfl)
  rw [lg_entry_eq]
  generalize (lg_sl [.ref (ad 1), .int (nI i), .int hv] ++ List.replicate (3 - (lg_sl [.ref (ad 1), .int (nI i), .int hv]).length) Slot.unset).toArray = ls at hl ⊢
  have hl : lv_has ls 3 [(0, .ref (ad 1)), (1, .int (nI i)), (2, .int hv)] := hl
  have hF := Eq.refl (f_withoutValue mt mf i hv)
  conv at hF => rhs; unfold f_withoutValue
  refine lv_aload_n hx hb dX1_withoutValue_0 rfl (lv_at hl 0 rfl) ?_
  have hR := xP0 hPr xnN hS
  refine va_get (D := (dC, dI)) (ci := 1) (v := .ref (ad 2)) (C := RX1) (T := TX1) (N := 6) hx hb hts (xcons inX1) hown hK hR 0 rfl rfl 3 (by decide) hw0 (fun _ h9 => h9) rfl dX1_withoutValue_1 ?_
  refine lv_iload_n hx hb dX1_withoutValue_4 rfl (lv_at hl 1 rfl) ?_
  refine xr_iald hx hb hK hR 1 0 rfl rfl i (by omega) (by omega) dX1_withoutValue_5 ?_
  refine lv_aload_n hx hb dX1_withoutValue_6 rfl (lv_at hl 0 rfl) ?_
  refine va_get (D := (dC, dI)) (ci := 1) (v := .ref (ad 3)) (C := RX1) (T := TX1) (N := 6) hx hb hts (xcons inX1) hown hK hR 0 rfl rfl 4 (by decide) hw1 (fun _ h9 => h9) rfl dX1_withoutValue_7 ?_
  refine lv_iload_n hx hb dX1_withoutValue_10 rfl (lv_at hl 1 rfl) ?_
  refine xr_iald hx hb hK hR 2 0 rfl rfl i (by omega) (by omega) dX1_withoutValue_11 ?_
  refine lv_ior hx hb dX1_withoutValue_12 ?_
  refine lv_iload_n hx hb dX1_withoutValue_13 rfl (lv_at hl 2 rfl) ?_
  refine lv_iconst (v := (-1)) hx hb dX1_withoutValue_14 (by decide) ?_
  refine lv_ixor hx hb dX1_withoutValue_15 ?_
  refine lv_iand hx hb dX1_withoutValue_16 ?_
  exact W.iret (v := (((mt i) ||| (mf i)) &&& (hv ^^^ (-1)))) hx hb hr (fun t ht hW => ⟨⟨_, (), rfl, hF, trivial⟩, hS.F ht⟩) hS.2.2 dX1_withoutValue_17
set_option maxHeartbeats 4000000 in
set_option maxRecDepth 100000 in
theorem c_literalsSayingTrue (l : Launch) (dC : Nat → ClassId) (dI : Nat → Nat → Nat) (cI cL cZ : ClassId) (ad : Nat → Nat) (hinj : xI ad 15) (nv : Nat) (av : Int32) (nc : Nat) (mt mf wt : Nat → Int32) (i : Nat) (hi : i < 40) : Met l yX1_literalsSayingTrue wsX1_literalsSayingTrue ({ frames := 0, cells := 0, slots := 0, locals := 0 }) (va_Pc [.ref (ad 1), .int (nI i)] (fun U => va_P (dC, dI) vwCl [(ad 1, .inr (1, [.int (nI nv), .int av, .int (nI nc), .ref (ad 2), .ref (ad 3), .ref (ad 4)])), (ad 2, .inl (cI, 40, .inl mt)), (ad 3, .inl (cI, 40, .inl mf)), (ad 4, .inl (cI, 40, .inl wt))] U.heap ∧ va_K (dC, dI) vwCl [(cI, .int), (cL, .long), (cZ, .boolean)] U)) (va_Qi (fun r (_ : Unit) => f_literalsSayingTrue mt i = r) (fun _ _ => True) xN) 0 0 xN := by
  refine Met.ofW (cc := cX1_literalsSayingTrue) (maxL := 2) (ret := (some .int)) (by decide) rfl ?_
  intro p e s m args below meth c s₁ B hml hvv
  obtain ⟨rfl, hP0, hK⟩ := hvv
  have hx := B.exec
  have hb := B.bytes
  have hr := B.returns
  have hts := atoms_spec (ws := wsX1_literalsSayingTrue) B.pre
  have hown : s.vm.findClass RX1 = some m.cls := findClass_of_methodNamed B.named
  have hlocks := B.notSynchronized
  have hw0 : (.fieldLink RX1 9 "WeightedClauses$Formula" "makesTrue" "[I" : Cond).before _ s = true := hts _ (List.mem_cons_of_mem _ wd_75)
  have hPr : va_P (dC, dI) vwCl [(ad 1, .inr (1, [.int (nI nv), .int av, .int (nI nc), .ref (ad 2), .ref (ad 3), .ref (ad 4)])), (ad 2, .inl (cI, 40, .inl mt)), (ad 3, .inl (cI, 40, .inl mf)), (ad 4, .inl (cI, 40, .inl wt))] s.heap := hP0.sub [0, 1, 2, 3] rfl
  have hS : va_S xN s.heap s.heap [] := va_S.rf
  have hl := lv_entry [.ref (ad 1), .int (nI i)] (n := 2) (Nat.le_of_ble_eq_true rfl)
  rw [lg_entry_eq]
  generalize (lg_sl [.ref (ad 1), .int (nI i)] ++ List.replicate (2 - (lg_sl [.ref (ad 1), .int (nI i)]).length) Slot.unset).toArray = ls at hl ⊢
  have hl : lv_has ls 2 [(0, .ref (ad 1)), (1, .int (nI i))] := hl
  have hF := Eq.refl (f_literalsSayingTrue mt i)
  conv at hF => rhs; unfold f_literalsSayingTrue
  refine lv_aload_n hx hb dX1_literalsSayingTrue_0 rfl (lv_at hl 0 rfl) ?_
  have hR := xP0 hPr xnN hS
  refine va_get (D := (dC, dI)) (ci := 1) (v := .ref (ad 2)) (C := RX1) (T := TX1) (N := 6) hx hb hts (xcons inX1) hown hK hR 0 rfl rfl 3 (by decide) hw0 (fun _ h9 => h9) rfl dX1_literalsSayingTrue_1 ?_
  refine lv_iload_n hx hb dX1_literalsSayingTrue_4 rfl (lv_at hl 1 rfl) ?_
  refine xr_iald hx hb hK hR 1 0 rfl rfl i (by omega) (by omega) dX1_literalsSayingTrue_5 ?_
  exact W.iret (v := (mt i)) hx hb hr (fun t ht hW => ⟨⟨_, (), rfl, hF, trivial⟩, hS.F ht⟩) hS.2.2 dX1_literalsSayingTrue_6
set_option maxHeartbeats 4000000 in
set_option maxRecDepth 100000 in
theorem c_isTrue (l : Launch) (dC : Nat → ClassId) (dI : Nat → Nat → Nat) (cI cL cZ : ClassId) (ad : Nat → Nat) (hinj : xI ad 15) (nv : Nat) (av : Int32) (nc : Nat) (mt mf wt : Nat → Int32) (i : Nat) (hi : i < 40) (hv vl : Int32) : Met l yX1_isTrue wsX1_isTrue ({ frames := 0, cells := 0, slots := 0, locals := 0 }) (va_Pc [.ref (ad 1), .int (nI i), .int hv, .int vl] (fun U => va_P (dC, dI) vwCl [(ad 1, .inr (1, [.int (nI nv), .int av, .int (nI nc), .ref (ad 2), .ref (ad 3), .ref (ad 4)])), (ad 2, .inl (cI, 40, .inl mt)), (ad 3, .inl (cI, 40, .inl mf)), (ad 4, .inl (cI, 40, .inl wt))] U.heap ∧ va_K (dC, dI) vwCl [(cI, .int), (cL, .long), (cZ, .boolean)] U)) (va_Qi (fun r (_ : Unit) => f_isTrue mt mf i hv vl = r) (fun _ _ => True) xN) 0 0 xN := by
  refine Met.ofW (cc := cX1_isTrue) (maxL := 4) (ret := (some .boolean)) (by decide) rfl ?_
  intro p e s m args below meth c s₁ B hml hvv
  obtain ⟨rfl, hP0, hK⟩ := hvv
  have hx := B.exec
  have hb := B.bytes
  have hr := B.returns
  have hts := atoms_spec (ws := wsX1_isTrue) B.pre
  have hown : s.vm.findClass RX1 = some m.cls := findClass_of_methodNamed B.named
  have hlocks := B.notSynchronized
  have hw0 : (.fieldLink RX1 9 "WeightedClauses$Formula" "makesTrue" "[I" : Cond).before _ s = true := hts _ (List.mem_cons_of_mem _ wd_75)
  have hw1 : (.fieldLink RX1 15 "WeightedClauses$Formula" "makesFalse" "[I" : Cond).before _ s = true := hts _ (List.mem_cons_of_mem _ wd_76)
  have hPr : va_P (dC, dI) vwCl [(ad 1, .inr (1, [.int (nI nv), .int av, .int (nI nc), .ref (ad 2), .ref (ad 3), .ref (ad 4)])), (ad 2, .inl (cI, 40, .inl mt)), (ad 3, .inl (cI, 40, .inl mf)), (ad 4, .inl (cI, 40, .inl wt))] s.heap := hP0.sub [0, 1, 2, 3] rfl
  have hS : va_S xN s.heap s.heap [] := va_S.rf
  have hl := lv_entry [.ref (ad 1), .int (nI i), .int hv, .int vl] (n := 4) (Nat.le_of_ble_eq_true rfl)
  rw [lg_entry_eq]
  generalize (lg_sl [.ref (ad 1), .int (nI i), .int hv, .int vl] ++ List.replicate (4 - (lg_sl [.ref (ad 1), .int (nI i), .int hv, .int vl]).length) Slot.unset).toArray = ls at hl ⊢
  have hl : lv_has ls 4 [(0, .ref (ad 1)), (1, .int (nI i)), (2, .int hv), (3, .int vl)] := hl
  have hF := Eq.refl (f_isTrue mt mf i hv vl)
  conv at hF => rhs; unfold f_isTrue
  refine lv_aload_n hx hb dX1_isTrue_0 rfl (lv_at hl 0 rfl) ?_
  have hR := xP0 hPr xnN hS
  refine va_get (D := (dC, dI)) (ci := 1) (v := .ref (ad 2)) (C := RX1) (T := TX1) (N := 6) hx hb hts (xcons inX1) hown hK hR 0 rfl rfl 3 (by decide) hw0 (fun _ h9 => h9) rfl dX1_isTrue_1 ?_
  refine lv_iload_n hx hb dX1_isTrue_4 rfl (lv_at hl 1 rfl) ?_
  refine xr_iald hx hb hK hR 1 0 rfl rfl i (by omega) (by omega) dX1_isTrue_5 ?_
  refine lv_iload_n hx hb dX1_isTrue_6 rfl (lv_at hl 3 rfl) ?_
  refine lv_iand hx hb dX1_isTrue_7 ?_
  refine lv_if_ne (tgt := 26) hx hb dX1_isTrue_8 (by decide) (fun h1 => ?_) (fun h1 => ?_)
  · have hF := hF.trans (if_neg h1)
    refine lv_iconst (v := 1) hx hb dX1_isTrue_26 (by decide) ?_
    refine lv_goto (tgt := 31) hx hb dX1_isTrue_27 (by decide) ?_
    exact W.zret (v := 1) hx hb hr rfl (fun t ht hW => ⟨⟨_, (), rfl, hF, trivial⟩, hS.F ht⟩) hS.2.2 dX1_isTrue_31
  · have hF := hF.trans (if_pos h1)
    refine lv_aload_n hx hb dX1_isTrue_11 rfl (lv_at hl 0 rfl) ?_
    refine va_get (D := (dC, dI)) (ci := 1) (v := .ref (ad 3)) (C := RX1) (T := TX1) (N := 6) hx hb hts (xcons inX1) hown hK hR 0 rfl rfl 4 (by decide) hw1 (fun _ h9 => h9) rfl dX1_isTrue_12 ?_
    refine lv_iload_n hx hb dX1_isTrue_15 rfl (lv_at hl 1 rfl) ?_
    refine xr_iald hx hb hK hR 2 0 rfl rfl i (by omega) (by omega) dX1_isTrue_16 ?_
    refine lv_iload_n hx hb dX1_isTrue_17 rfl (lv_at hl 2 rfl) ?_
    refine lv_iand hx hb dX1_isTrue_18 ?_
    refine lv_iload_n hx hb dX1_isTrue_19 rfl (lv_at hl 3 rfl) ?_
    refine lv_iconst (v := (-1)) hx hb dX1_isTrue_20 (by decide) ?_
    refine lv_ixor hx hb dX1_isTrue_21 ?_
    refine lv_iand hx hb dX1_isTrue_22 ?_
    refine lv_if_eq (tgt := 30) hx hb dX1_isTrue_23 (by decide) (fun h2 => ?_) (fun h2 => ?_)
    · have hF := hF.trans (if_pos h2)
      refine lv_iconst (v := 0) hx hb dX1_isTrue_30 (by decide) ?_
      exact W.zret (v := 0) hx hb hr rfl (fun t ht hW => ⟨⟨_, (), rfl, hF, trivial⟩, hS.F ht⟩) hS.2.2 dX1_isTrue_31
    · have hF := hF.trans (if_neg h2)
      refine lv_iconst (v := 1) hx hb dX1_isTrue_26 (by decide) ?_
      refine lv_goto (tgt := 31) hx hb dX1_isTrue_27 (by decide) ?_
      exact W.zret (v := 1) hx hb hr rfl (fun t ht hW => ⟨⟨_, (), rfl, hF, trivial⟩, hS.F ht⟩) hS.2.2 dX1_isTrue_31
set_option maxHeartbeats 4000000 in
set_option maxRecDepth 100000 in
theorem c_isFalse (l : Launch) (dC : Nat → ClassId) (dI : Nat → Nat → Nat) (cI cL cZ : ClassId) (ad : Nat → Nat) (hinj : xI ad 15) (nv : Nat) (av : Int32) (nc : Nat) (mt mf wt : Nat → Int32) (i : Nat) (hi : i < 40) (hv vl : Int32) : Met l yX1_isFalse wsX1_isFalse ({ frames := 0, cells := 0, slots := 0, locals := 0 }) (va_Pc [.ref (ad 1), .int (nI i), .int hv, .int vl] (fun U => va_P (dC, dI) vwCl [(ad 1, .inr (1, [.int (nI nv), .int av, .int (nI nc), .ref (ad 2), .ref (ad 3), .ref (ad 4)])), (ad 2, .inl (cI, 40, .inl mt)), (ad 3, .inl (cI, 40, .inl mf)), (ad 4, .inl (cI, 40, .inl wt))] U.heap ∧ va_K (dC, dI) vwCl [(cI, .int), (cL, .long), (cZ, .boolean)] U)) (va_Qi (fun r (_ : Unit) => f_isFalse mt mf i hv vl = r) (fun _ _ => True) xN) 0 0 xN := by
  refine Met.ofW (cc := cX1_isFalse) (maxL := 5) (ret := (some .boolean)) (by decide) rfl ?_
  intro p e s m args below meth c s₁ B hml hvv
  obtain ⟨rfl, hP0, hK⟩ := hvv
  have hx := B.exec
  have hb := B.bytes
  have hr := B.returns
  have hts := atoms_spec (ws := wsX1_isFalse) B.pre
  have hown : s.vm.findClass RX1 = some m.cls := findClass_of_methodNamed B.named
  have hlocks := B.notSynchronized
  have hw0 : (.fieldLink RX1 9 "WeightedClauses$Formula" "makesTrue" "[I" : Cond).before _ s = true := hts _ (List.mem_cons_of_mem _ wd_75)
  have hw1 : (.fieldLink RX1 15 "WeightedClauses$Formula" "makesFalse" "[I" : Cond).before _ s = true := hts _ (List.mem_cons_of_mem _ wd_76)
  have hPr : va_P (dC, dI) vwCl [(ad 1, .inr (1, [.int (nI nv), .int av, .int (nI nc), .ref (ad 2), .ref (ad 3), .ref (ad 4)])), (ad 2, .inl (cI, 40, .inl mt)), (ad 3, .inl (cI, 40, .inl mf)), (ad 4, .inl (cI, 40, .inl wt))] s.heap := hP0.sub [0, 1, 2, 3] rfl
  have hS : va_S xN s.heap s.heap [] := va_S.rf
  have hl := lv_entry [.ref (ad 1), .int (nI i), .int hv, .int vl] (n := 5) (Nat.le_of_ble_eq_true rfl)
  rw [lg_entry_eq]
  generalize (lg_sl [.ref (ad 1), .int (nI i), .int hv, .int vl] ++ List.replicate (5 - (lg_sl [.ref (ad 1), .int (nI i), .int hv, .int vl]).length) Slot.unset).toArray = ls at hl ⊢
  have hl : lv_has ls 5 [(0, .ref (ad 1)), (1, .int (nI i)), (2, .int hv), (3, .int vl)] := hl
  have hF := Eq.refl (f_isFalse mt mf i hv vl)
  conv at hF => rhs; unfold f_isFalse
  refine lv_aload_n hx hb dX1_isFalse_0 rfl (lv_at hl 0 rfl) ?_
  have hR := xP0 hPr xnN hS
  refine va_get (D := (dC, dI)) (ci := 1) (v := .ref (ad 2)) (C := RX1) (T := TX1) (N := 6) hx hb hts (xcons inX1) hown hK hR 0 rfl rfl 3 (by decide) hw0 (fun _ h9 => h9) rfl dX1_isFalse_1 ?_
  refine lv_iload_n hx hb dX1_isFalse_4 rfl (lv_at hl 1 rfl) ?_
  refine xr_iald hx hb hK hR 1 0 rfl rfl i (by omega) (by omega) dX1_isFalse_5 ?_
  refine lv_aload_n hx hb dX1_isFalse_6 rfl (lv_at hl 0 rfl) ?_
  refine va_get (D := (dC, dI)) (ci := 1) (v := .ref (ad 3)) (C := RX1) (T := TX1) (N := 6) hx hb hts (xcons inX1) hown hK hR 0 rfl rfl 4 (by decide) hw1 (fun _ h9 => h9) rfl dX1_isFalse_7 ?_
  refine lv_iload_n hx hb dX1_isFalse_10 rfl (lv_at hl 1 rfl) ?_
  refine xr_iald hx hb hK hR 2 0 rfl rfl i (by omega) (by omega) dX1_isFalse_11 ?_
  refine lv_ior hx hb dX1_isFalse_12 ?_
  refine lv_istore (lv' := [(4, .int ((mt i) ||| (mf i))), (0, .ref (ad 1)), (1, .int (nI i)), (2, .int hv), (3, .int vl)]) hx hb dX1_isFalse_13 hl (by decide) rfl (fun ls hl => ?_)
  refine lv_iload hx hb dX1_isFalse_15 (lv_at hl 0 rfl) ?_
  refine lv_iload_n hx hb dX1_isFalse_17 rfl (lv_at hl 3 rfl) ?_
  refine lv_iconst (v := (-1)) hx hb dX1_isFalse_18 (by decide) ?_
  refine lv_ixor hx hb dX1_isFalse_19 ?_
  refine lv_iand hx hb dX1_isFalse_20 ?_
  refine lv_if_ne (tgt := 41) hx hb dX1_isFalse_21 (by decide) (fun h1 => ?_) (fun h1 => ?_)
  · have hF := hF.trans (if_neg h1)
    refine lv_iconst (v := 0) hx hb dX1_isFalse_41 (by decide) ?_
    exact W.zret (v := 0) hx hb hr rfl (fun t ht hW => ⟨⟨_, (), rfl, hF, trivial⟩, hS.F ht⟩) hS.2.2 dX1_isFalse_42
  · have hF := hF.trans (if_pos h1)
    refine lv_iload hx hb dX1_isFalse_24 (lv_at hl 0 rfl) ?_
    refine lv_iload_n hx hb dX1_isFalse_26 rfl (lv_at hl 4 rfl) ?_
    refine lv_iand hx hb dX1_isFalse_27 ?_
    refine lv_aload_n hx hb dX1_isFalse_28 rfl (lv_at hl 1 rfl) ?_
    refine va_get (D := (dC, dI)) (ci := 1) (v := .ref (ad 3)) (C := RX1) (T := TX1) (N := 6) hx hb hts (xcons inX1) hown hK hR 0 rfl rfl 4 (by decide) hw1 (fun _ h9 => h9) rfl dX1_isFalse_29 ?_
    refine lv_iload_n hx hb dX1_isFalse_32 rfl (lv_at hl 2 rfl) ?_
    refine xr_iald hx hb hK hR 2 0 rfl rfl i (by omega) (by omega) dX1_isFalse_33 ?_
    refine lv_icmp_ne (tgt := 41) hx hb dX1_isFalse_34 (by decide) (fun h2 => ?_) (fun h2 => ?_)
    · have hF := hF.trans (if_neg h2)
      refine lv_iconst (v := 0) hx hb dX1_isFalse_41 (by decide) ?_
      exact W.zret (v := 0) hx hb hr rfl (fun t ht hW => ⟨⟨_, (), rfl, hF, trivial⟩, hS.F ht⟩) hS.2.2 dX1_isFalse_42
    · have hF := hF.trans (if_pos h2)
      refine lv_iconst (v := 1) hx hb dX1_isFalse_37 (by decide) ?_
      refine lv_goto (tgt := 42) hx hb dX1_isFalse_38 (by decide) ?_
      exact W.zret (v := 1) hx hb hr rfl (fun t ht hW => ⟨⟨_, (), rfl, hF, trivial⟩, hS.F ht⟩) hS.2.2 dX1_isFalse_42
end
section
def f_openClauses_L (mt mf : Nat → Int32) (hv vl : Int32) : Nat → Nat → Int64 → Int64
  | 0, i, acc =>
    acc
  | n + 1, i, acc =>
    if (f_withoutValue mt mf i hv) = 0 then
      f_openClauses_L mt mf hv vl n (i + 1) acc
    else
      if (f_isTrue mt mf i hv vl) = 0 then
        f_openClauses_L mt mf hv vl n (i + 1) (acc ||| ((1 : Int64) <<< ((nI i).toInt64 &&& 63)))
      else
        f_openClauses_L mt mf hv vl n (i + 1) acc
def f_openClauses (nc : Nat) (mt mf : Nat → Int32) (hv vl : Int32) : Int64 :=
  f_openClauses_L mt mf hv vl nc 0 0
def f_costOf_L (mt mf wt : Nat → Int32) (hv vl : Int32) : Nat → Nat → Int64 → Int64
  | 0, i, acc =>
    acc
  | n + 1, i, acc =>
    if (f_isFalse mt mf i hv vl) = 0 then
      f_costOf_L mt mf wt hv vl n (i + 1) acc
    else
      if (wt i) = 0 then
        (-2)
      else
        f_costOf_L mt mf wt hv vl n (i + 1) (acc + ((wt i).toInt64))
def f_costOf (nc : Nat) (mt mf wt : Nat → Int32) (hv vl : Int32) : Int64 :=
  f_costOf_L mt mf wt hv vl nc 0 0
def f_lightestWeight_L (wt : Nat → Int32) (x : Int64) : Nat → Nat → Int32 → Int32
  | 0, i, acc =>
    acc
  | n + 1, i, acc =>
    if (lg_cmp ((x >>> ((nI i).toInt64 &&& 63)) &&& 1) 0) = 0 then
      f_lightestWeight_L wt x n (i + 1) acc
    else
      if (wt i) = 0 then
        f_lightestWeight_L wt x n (i + 1) acc
      else
        if acc = 0 then
          f_lightestWeight_L wt x n (i + 1) (wt i)
        else
          if acc ≤ (wt i) then
            f_lightestWeight_L wt x n (i + 1) acc
          else
            f_lightestWeight_L wt x n (i + 1) (wt i)
def f_lightestWeight (nc : Nat) (wt : Nat → Int32) (x : Int64) : Int32 :=
  f_lightestWeight_L wt x nc 0 0
set_option maxHeartbeats 4000000 in
set_option maxRecDepth 100000 in
theorem c_openClauses (l : Launch) (dC : Nat → ClassId) (dI : Nat → Nat → Nat) (cI cL cZ : ClassId) (ad : Nat → Nat) (hinj : xI ad 15) (nv : Nat) (av : Int32) (nc : Nat) (mt mf wt : Nat → Int32) (hnc : nc ≤ 40) (hv vl : Int32) : Met l yX1_openClauses wsX1_openClauses ({ frames := 1, cells := 0, slots := 0, locals := 23 }) (va_Pc [.ref (ad 1), .int hv, .int vl] (fun U => va_P (dC, dI) vwCl [(ad 1, .inr (1, [.int (nI nv), .int av, .int (nI nc), .ref (ad 2), .ref (ad 3), .ref (ad 4)])), (ad 2, .inl (cI, 40, .inl mt)), (ad 3, .inl (cI, 40, .inl mf)), (ad 4, .inl (cI, 40, .inl wt))] U.heap ∧ va_K (dC, dI) vwCl [(cI, .int), (cL, .long), (cZ, .boolean)] U)) (va_Ql (fun r (_ : Unit) => f_openClauses nc mt mf hv vl = r) (fun _ _ => True) xN) 0 0 xN := by
  refine Met.ofW (cc := cX1_openClauses) (maxL := 6) (ret := (some .long)) (by decide) rfl ?_
  intro p e s m args below meth c s₁ B hml hvv
  obtain ⟨rfl, hP0, hK⟩ := hvv
  have hx := B.exec
  have hb := B.bytes
  have hr := B.returns
  have hts := atoms_spec (ws := wsX1_openClauses) B.pre
  have hown : s.vm.findClass RX1 = some m.cls := findClass_of_methodNamed B.named
  have hlocks := B.notSynchronized
  have hw0 : (.fieldLink RX1 28 "WeightedClauses$Formula" "clauseCount" "I" : Cond).before _ s = true := hts _ (List.mem_cons_of_mem _ wd_72)
  have hPr : va_P (dC, dI) vwCl [(ad 1, .inr (1, [.int (nI nv), .int av, .int (nI nc), .ref (ad 2), .ref (ad 3), .ref (ad 4)])), (ad 2, .inl (cI, 40, .inl mt)), (ad 3, .inl (cI, 40, .inl mf)), (ad 4, .inl (cI, 40, .inl wt))] s.heap := hP0.sub [0, 1, 2, 3] rfl
  have hS : va_S xN s.heap s.heap [] := va_S.rf
  have hl := lv_entry [.ref (ad 1), .int hv, .int vl] (n := 6) (Nat.le_of_ble_eq_true rfl)
  rw [lg_entry_eq]
  generalize (lg_sl [.ref (ad 1), .int hv, .int vl] ++ List.replicate (6 - (lg_sl [.ref (ad 1), .int hv, .int vl]).length) Slot.unset).toArray = ls at hl ⊢
  have hl : lv_has ls 6 [(0, .ref (ad 1)), (1, .int hv), (2, .int vl)] := hl
  have hF := Eq.refl (f_openClauses nc mt mf hv vl)
  conv at hF => rhs; unfold f_openClauses
  refine lv_lconst (v := 0) hx hb dX1_openClauses_0 (by decide) ?_
  refine lv_lstore_n (lv' := [(3, .long 0), (0, .ref (ad 1)), (1, .int hv), (2, .int vl)]) hx hb dX1_openClauses_1 rfl hl (by decide) rfl (fun ls hl => ?_)
  refine lv_iconst (v := 0) hx hb dX1_openClauses_2 (by decide) ?_
  refine lv_istore (lv' := [(5, .int 0), (3, .long 0), (0, .ref (ad 1)), (1, .int hv), (2, .int vl)]) hx hb dX1_openClauses_3 hl (by decide) rfl (fun ls hl => ?_)
  have lp5 : ∀ (n : Nat) (i : Nat) (acc : Int64) (H : Heap) (locs : List Loc) (ls : Array Slot), f_openClauses nc mt mf hv vl = f_openClauses_L mt mf hv vl n i acc → i + n = nc → va_S xN s.heap H locs → lv_has ls 6 [(0, .ref (ad 1)), (1, .int hv), (2, .int vl), (3, .long acc), (5, .int (nI i))] → W p l e (headSpec wsX1_openClauses ({ frames := 1, cells := 0, slots := 0, locals := 23 })).room s m [.ref (ad 1), .int hv, .int vl].toArray below meth c H locs 0 0 (MQ below (va_Ql (fun r (_ : Unit) => f_openClauses nc mt mf hv vl = r) (fun _ _ => True) xN) [.ref (ad 1), .int hv, .int vl].toArray s 0 0 xN) (F0 m 5 ls []) := by
    intro n
    induction n with
    | zero =>
      intro i acc H locs ls hF hil hS hl
      rw [f_openClauses_L] at hF
      refine lv_iload hx hb dX1_openClauses_5 (lv_at hl 4 rfl) ?_
      refine lv_aload_n hx hb dX1_openClauses_7 rfl (lv_at hl 0 rfl) ?_
      have hR := xP0 hPr xnN hS
      refine va_get (D := (dC, dI)) (ci := 1) (v := .int (nI nc)) (C := RX1) (T := TX1) (N := 6) hx hb hts (xcons inX1) hown hK hR 0 rfl rfl 2 (by decide) hw0 (fun _ h9 => h9) rfl dX1_openClauses_8 ?_
      refine lv_icmp_ge (tgt := 48) hx hb dX1_openClauses_11 (by decide) (fun h1 => ?_) (fun h1 => absurd (nI_le (by omega) (by omega)) h1)
      refine lv_lload_n hx hb dX1_openClauses_48 rfl (lv_at hl 3 rfl) ?_
      exact W.lret (v := acc) hx hb hr (fun t ht hW => ⟨⟨_, (), rfl, hF, trivial⟩, hS.F ht⟩) hS.2.2 dX1_openClauses_49
    | succ n ih =>
      intro i acc H locs ls hF hil hS hl
      rw [f_openClauses_L] at hF
      refine lv_iload hx hb dX1_openClauses_5 (lv_at hl 4 rfl) ?_
      refine lv_aload_n hx hb dX1_openClauses_7 rfl (lv_at hl 0 rfl) ?_
      have hR := xP0 hPr xnN hS
      refine va_get (D := (dC, dI)) (ci := 1) (v := .int (nI nc)) (C := RX1) (T := TX1) (N := 6) hx hb hts (xcons inX1) hown hK hR 0 rfl rfl 2 (by decide) hw0 (fun _ h9 => h9) rfl dX1_openClauses_8 ?_
      refine lv_icmp_ge (tgt := 48) hx hb dX1_openClauses_11 (by decide) (fun h2 => absurd h2 (nI_ge (by omega) (by omega))) (fun h2 => ?_)
      refine lv_aload_n hx hb dX1_openClauses_14 rfl (lv_at hl 0 rfl) ?_
      refine lv_iload hx hb dX1_openClauses_15 (lv_at hl 4 rfl) ?_
      refine lv_iload_n hx hb dX1_openClauses_17 rfl (lv_at hl 1 rfl) ?_
      refine xro_i (va_runV (As := [.int (nI i), .int hv]) (rest := []) ⟨hx, hb, hml, hown, hts⟩ (c_withoutValue l dC dI cI cL cZ ad hinj nv av nc mt mf wt i (by omega) hv) (xcwV 2 hts wd_257 wd_35 wd_254 wd_255 wd_256 rfl rfl (by decide +kernel) ⟨Nat.le_of_ble_eq_true rfl, Nat.le_of_ble_eq_true rfl⟩) (xpreV (va_recv hK hR rfl (q0 := 0) rfl) hR hK) rfl rfl hl.1 rfl (lv_room (Nat.le_of_ble_eq_true rfl)) dX1_openClauses_18 ⟨Nat.le_of_ble_eq_true rfl, Nat.le_of_ble_eq_true rfl⟩) hS (fun H locs hk hS => ?_)
      refine lv_if_eq (tgt := 42) hx hb dX1_openClauses_21 (by decide) (fun h3 => ?_) (fun h3 => ?_)
      · have hF := hF.trans (if_pos h3)
        refine lv_iinc (k := 4) (v := (nI (i + 1))) (lv' := [(5, .int (nI (i + 1))), (0, .ref (ad 1)), (1, .int hv), (2, .int vl), (3, .long acc)]) hx hb dX1_openClauses_42 hl rfl (xinc _) (by decide) rfl (fun ls hl => ?_)
        refine lv_goto (tgt := 5) hx hb dX1_openClauses_45 (by decide) ?_
        exact ih (i + 1) acc _ _ _ hF (by omega) hS (lv_sub hl [1, 2, 3, 4, 0] rfl)
      · have hF := hF.trans (if_neg h3)
        refine lv_aload_n hx hb dX1_openClauses_24 rfl (lv_at hl 0 rfl) ?_
        refine lv_iload hx hb dX1_openClauses_25 (lv_at hl 4 rfl) ?_
        refine lv_iload_n hx hb dX1_openClauses_27 rfl (lv_at hl 1 rfl) ?_
        refine lv_iload_n hx hb dX1_openClauses_28 rfl (lv_at hl 2 rfl) ?_
        have hR := xP0 hPr xnN hS
        refine xro_i (va_runV (As := [.int (nI i), .int hv, .int vl]) (rest := []) ⟨hx, hb, hml, hown, hts⟩ (c_isTrue l dC dI cI cL cZ ad hinj nv av nc mt mf wt i (by omega) hv vl) (xcwV 3 hts wd_261 wd_35 wd_258 wd_259 wd_260 rfl rfl (by decide +kernel) ⟨Nat.le_of_ble_eq_true rfl, Nat.le_of_ble_eq_true rfl⟩) (xpreV (va_recv hK hR rfl (q0 := 0) rfl) hR hK) rfl rfl hl.1 rfl (lv_room (Nat.le_of_ble_eq_true rfl)) dX1_openClauses_29 ⟨Nat.le_of_ble_eq_true rfl, Nat.le_of_ble_eq_true rfl⟩) hS (fun H locs hk hS => ?_)
        refine lv_if_ne (tgt := 42) hx hb dX1_openClauses_32 (by decide) (fun h4 => ?_) (fun h4 => ?_)
        · have hF := hF.trans (if_neg h4)
          refine lv_iinc (k := 4) (v := (nI (i + 1))) (lv' := [(5, .int (nI (i + 1))), (0, .ref (ad 1)), (1, .int hv), (2, .int vl), (3, .long acc)]) hx hb dX1_openClauses_42 hl rfl (xinc _) (by decide) rfl (fun ls hl => ?_)
          refine lv_goto (tgt := 5) hx hb dX1_openClauses_45 (by decide) ?_
          exact ih (i + 1) acc _ _ _ hF (by omega) hS (lv_sub hl [1, 2, 3, 4, 0] rfl)
        · have hF := hF.trans (if_pos h4)
          refine lv_lload_n hx hb dX1_openClauses_35 rfl (lv_at hl 3 rfl) ?_
          refine lv_lconst (v := 1) hx hb dX1_openClauses_36 (by decide) ?_
          refine lv_iload hx hb dX1_openClauses_37 (lv_at hl 4 rfl) ?_
          refine lv_lshl (v := ((1 : Int64) <<< ((nI i).toInt64 &&& 63))) hx hb dX1_openClauses_39 rfl ?_
          refine lv_lor hx hb dX1_openClauses_40 ?_
          refine lv_lstore_n (lv' := [(3, .long (acc ||| ((1 : Int64) <<< ((nI i).toInt64 &&& 63)))), (0, .ref (ad 1)), (1, .int hv), (2, .int vl), (5, .int (nI i))]) hx hb dX1_openClauses_41 rfl hl (by decide) rfl (fun ls hl => ?_)
          refine lv_iinc (k := 4) (v := (nI (i + 1))) (lv' := [(5, .int (nI (i + 1))), (3, .long (acc ||| ((1 : Int64) <<< ((nI i).toInt64 &&& 63)))), (0, .ref (ad 1)), (1, .int hv), (2, .int vl)]) hx hb dX1_openClauses_42 hl rfl (xinc _) (by decide) rfl (fun ls hl => ?_)
          refine lv_goto (tgt := 5) hx hb dX1_openClauses_45 (by decide) ?_
          exact ih (i + 1) (acc ||| ((1 : Int64) <<< ((nI i).toInt64 &&& 63))) _ _ _ hF (by omega) hS (lv_sub hl [2, 3, 4, 1, 0] rfl)
  exact lp5 nc 0 0 _ _ _ hF (by omega) hS (lv_sub hl [2, 3, 4, 1, 0] rfl)
set_option maxHeartbeats 4000000 in
set_option maxRecDepth 100000 in
theorem c_costOf (l : Launch) (dC : Nat → ClassId) (dI : Nat → Nat → Nat) (cI cL cZ : ClassId) (ad : Nat → Nat) (hinj : xI ad 15) (nv : Nat) (av : Int32) (nc : Nat) (mt mf wt : Nat → Int32) (hnc : nc ≤ 40) (hv vl : Int32) : Met l yX1_costOf wsX1_costOf ({ frames := 1, cells := 0, slots := 0, locals := 24 }) (va_Pc [.ref (ad 1), .int hv, .int vl] (fun U => va_P (dC, dI) vwCl [(ad 1, .inr (1, [.int (nI nv), .int av, .int (nI nc), .ref (ad 2), .ref (ad 3), .ref (ad 4)])), (ad 2, .inl (cI, 40, .inl mt)), (ad 3, .inl (cI, 40, .inl mf)), (ad 4, .inl (cI, 40, .inl wt))] U.heap ∧ va_K (dC, dI) vwCl [(cI, .int), (cL, .long), (cZ, .boolean)] U)) (va_Ql (fun r (_ : Unit) => f_costOf nc mt mf wt hv vl = r) (fun _ _ => True) xN) 0 0 xN := by
  refine Met.ofW (cc := cX1_costOf) (maxL := 6) (ret := (some .long)) (by decide) rfl ?_
  intro p e s m args below meth c s₁ B hml hvv
  obtain ⟨rfl, hP0, hK⟩ := hvv
  have hx := B.exec
  have hb := B.bytes
  have hr := B.returns
  have hts := atoms_spec (ws := wsX1_costOf) B.pre
  have hown : s.vm.findClass RX1 = some m.cls := findClass_of_methodNamed B.named
  have hlocks := B.notSynchronized
  have hw0 : (.fieldLink RX1 28 "WeightedClauses$Formula" "clauseCount" "I" : Cond).before _ s = true := hts _ (List.mem_cons_of_mem _ wd_72)
  have hw1 : (.fieldLink RX1 18 "WeightedClauses$Formula" "weights" "[I" : Cond).before _ s = true := hts _ (List.mem_cons_of_mem _ wd_77)
  have hw2 : (.constantLong RX1 47 (-2) : Cond).before _ s = true := hts _ (List.mem_cons_of_mem _ wd_238)
  have hPr : va_P (dC, dI) vwCl [(ad 1, .inr (1, [.int (nI nv), .int av, .int (nI nc), .ref (ad 2), .ref (ad 3), .ref (ad 4)])), (ad 2, .inl (cI, 40, .inl mt)), (ad 3, .inl (cI, 40, .inl mf)), (ad 4, .inl (cI, 40, .inl wt))] s.heap := hP0.sub [0, 1, 2, 3] rfl
  have hS : va_S xN s.heap s.heap [] := va_S.rf
  have hl := lv_entry [.ref (ad 1), .int hv, .int vl] (n := 6) (Nat.le_of_ble_eq_true rfl)
  rw [lg_entry_eq]
  generalize (lg_sl [.ref (ad 1), .int hv, .int vl] ++ List.replicate (6 - (lg_sl [.ref (ad 1), .int hv, .int vl]).length) Slot.unset).toArray = ls at hl ⊢
  have hl : lv_has ls 6 [(0, .ref (ad 1)), (1, .int hv), (2, .int vl)] := hl
  have hF := Eq.refl (f_costOf nc mt mf wt hv vl)
  conv at hF => rhs; unfold f_costOf
  refine lv_lconst (v := 0) hx hb dX1_costOf_0 (by decide) ?_
  refine lv_lstore_n (lv' := [(3, .long 0), (0, .ref (ad 1)), (1, .int hv), (2, .int vl)]) hx hb dX1_costOf_1 rfl hl (by decide) rfl (fun ls hl => ?_)
  refine lv_iconst (v := 0) hx hb dX1_costOf_2 (by decide) ?_
  refine lv_istore (lv' := [(5, .int 0), (3, .long 0), (0, .ref (ad 1)), (1, .int hv), (2, .int vl)]) hx hb dX1_costOf_3 hl (by decide) rfl (fun ls hl => ?_)
  have lp5 : ∀ (n : Nat) (i : Nat) (acc : Int64) (H : Heap) (locs : List Loc) (ls : Array Slot), f_costOf nc mt mf wt hv vl = f_costOf_L mt mf wt hv vl n i acc → i + n = nc → va_S xN s.heap H locs → lv_has ls 6 [(0, .ref (ad 1)), (1, .int hv), (2, .int vl), (3, .long acc), (5, .int (nI i))] → W p l e (headSpec wsX1_costOf ({ frames := 1, cells := 0, slots := 0, locals := 24 })).room s m [.ref (ad 1), .int hv, .int vl].toArray below meth c H locs 0 0 (MQ below (va_Ql (fun r (_ : Unit) => f_costOf nc mt mf wt hv vl = r) (fun _ _ => True) xN) [.ref (ad 1), .int hv, .int vl].toArray s 0 0 xN) (F0 m 5 ls []) := by
    intro n
    induction n with
    | zero =>
      intro i acc H locs ls hF hil hS hl
      rw [f_costOf_L] at hF
      refine lv_iload hx hb dX1_costOf_5 (lv_at hl 4 rfl) ?_
      refine lv_aload_n hx hb dX1_costOf_7 rfl (lv_at hl 0 rfl) ?_
      have hR := xP0 hPr xnN hS
      refine va_get (D := (dC, dI)) (ci := 1) (v := .int (nI nc)) (C := RX1) (T := TX1) (N := 6) hx hb hts (xcons inX1) hown hK hR 0 rfl rfl 2 (by decide) hw0 (fun _ h9 => h9) rfl dX1_costOf_8 ?_
      refine lv_icmp_ge (tgt := 56) hx hb dX1_costOf_11 (by decide) (fun h1 => ?_) (fun h1 => absurd (nI_le (by omega) (by omega)) h1)
      refine lv_lload_n hx hb dX1_costOf_56 rfl (lv_at hl 3 rfl) ?_
      exact W.lret (v := acc) hx hb hr (fun t ht hW => ⟨⟨_, (), rfl, hF, trivial⟩, hS.F ht⟩) hS.2.2 dX1_costOf_57
    | succ n ih =>
      intro i acc H locs ls hF hil hS hl
      rw [f_costOf_L] at hF
      refine lv_iload hx hb dX1_costOf_5 (lv_at hl 4 rfl) ?_
      refine lv_aload_n hx hb dX1_costOf_7 rfl (lv_at hl 0 rfl) ?_
      have hR := xP0 hPr xnN hS
      refine va_get (D := (dC, dI)) (ci := 1) (v := .int (nI nc)) (C := RX1) (T := TX1) (N := 6) hx hb hts (xcons inX1) hown hK hR 0 rfl rfl 2 (by decide) hw0 (fun _ h9 => h9) rfl dX1_costOf_8 ?_
      refine lv_icmp_ge (tgt := 56) hx hb dX1_costOf_11 (by decide) (fun h2 => absurd h2 (nI_ge (by omega) (by omega))) (fun h2 => ?_)
      refine lv_aload_n hx hb dX1_costOf_14 rfl (lv_at hl 0 rfl) ?_
      refine lv_iload hx hb dX1_costOf_15 (lv_at hl 4 rfl) ?_
      refine lv_iload_n hx hb dX1_costOf_17 rfl (lv_at hl 1 rfl) ?_
      refine lv_iload_n hx hb dX1_costOf_18 rfl (lv_at hl 2 rfl) ?_
      refine xro_i (va_runV (As := [.int (nI i), .int hv, .int vl]) (rest := []) ⟨hx, hb, hml, hown, hts⟩ (c_isFalse l dC dI cI cL cZ ad hinj nv av nc mt mf wt i (by omega) hv vl) (xcwV 3 hts wd_237 wd_35 wd_234 wd_235 wd_236 rfl rfl (by decide +kernel) ⟨Nat.le_of_ble_eq_true rfl, Nat.le_of_ble_eq_true rfl⟩) (xpreV (va_recv hK hR rfl (q0 := 0) rfl) hR hK) rfl rfl hl.1 rfl (lv_room (Nat.le_of_ble_eq_true rfl)) dX1_costOf_19 ⟨Nat.le_of_ble_eq_true rfl, Nat.le_of_ble_eq_true rfl⟩) hS (fun H locs hk hS => ?_)
      refine lv_if_eq (tgt := 50) hx hb dX1_costOf_22 (by decide) (fun h3 => ?_) (fun h3 => ?_)
      · have hF := hF.trans (if_pos h3)
        refine lv_iinc (k := 4) (v := (nI (i + 1))) (lv' := [(5, .int (nI (i + 1))), (0, .ref (ad 1)), (1, .int hv), (2, .int vl), (3, .long acc)]) hx hb dX1_costOf_50 hl rfl (xinc _) (by decide) rfl (fun ls hl => ?_)
        refine lv_goto (tgt := 5) hx hb dX1_costOf_53 (by decide) ?_
        exact ih (i + 1) acc _ _ _ hF (by omega) hS (lv_sub hl [1, 2, 3, 4, 0] rfl)
      · have hF := hF.trans (if_neg h3)
        refine lv_aload_n hx hb dX1_costOf_25 rfl (lv_at hl 0 rfl) ?_
        have hR := xP0 hPr xnN hS
        refine va_get (D := (dC, dI)) (ci := 1) (v := .ref (ad 4)) (C := RX1) (T := TX1) (N := 6) hx hb hts (xcons inX1) hown hK hR 0 rfl rfl 5 (by decide) hw1 (fun _ h9 => h9) rfl dX1_costOf_26 ?_
        refine lv_iload hx hb dX1_costOf_29 (lv_at hl 4 rfl) ?_
        refine xr_iald hx hb hK hR 3 0 rfl rfl i (by omega) (by omega) dX1_costOf_31 ?_
        refine lv_if_ne (tgt := 39) hx hb dX1_costOf_32 (by decide) (fun h4 => ?_) (fun h4 => ?_)
        · have hF := hF.trans (if_neg h4)
          refine lv_lload_n hx hb dX1_costOf_39 rfl (lv_at hl 3 rfl) ?_
          refine lv_aload_n hx hb dX1_costOf_40 rfl (lv_at hl 0 rfl) ?_
          refine va_get (D := (dC, dI)) (ci := 1) (v := .ref (ad 4)) (C := RX1) (T := TX1) (N := 6) hx hb hts (xcons inX1) hown hK hR 0 rfl rfl 5 (by decide) hw1 (fun _ h9 => h9) rfl dX1_costOf_41 ?_
          refine lv_iload hx hb dX1_costOf_44 (lv_at hl 4 rfl) ?_
          refine xr_iald hx hb hK hR 3 0 rfl rfl i (by omega) (by omega) dX1_costOf_46 ?_
          refine lv_i2l (v := (wt i).toInt64) hx hb dX1_costOf_47 rfl ?_
          refine lv_ladd hx hb dX1_costOf_48 ?_
          refine lv_lstore_n (lv' := [(3, .long (acc + ((wt i).toInt64))), (0, .ref (ad 1)), (1, .int hv), (2, .int vl), (5, .int (nI i))]) hx hb dX1_costOf_49 rfl hl (by decide) rfl (fun ls hl => ?_)
          refine lv_iinc (k := 4) (v := (nI (i + 1))) (lv' := [(5, .int (nI (i + 1))), (3, .long (acc + ((wt i).toInt64))), (0, .ref (ad 1)), (1, .int hv), (2, .int vl)]) hx hb dX1_costOf_50 hl rfl (xinc _) (by decide) rfl (fun ls hl => ?_)
          refine lv_goto (tgt := 5) hx hb dX1_costOf_53 (by decide) ?_
          exact ih (i + 1) (acc + ((wt i).toInt64)) _ _ _ hF (by omega) hS (lv_sub hl [2, 3, 4, 1, 0] rfl)
        · have hF := hF.trans (if_pos h4)
          refine lv_ldc2 hx hb hown hw2 dX1_costOf_35 ?_
          exact W.lret (v := (-2)) hx hb hr (fun t ht hW => ⟨⟨_, (), rfl, hF, trivial⟩, hS.F ht⟩) hS.2.2 dX1_costOf_38
  exact lp5 nc 0 0 _ _ _ hF (by omega) hS (lv_sub hl [2, 3, 4, 1, 0] rfl)
set_option maxHeartbeats 4000000 in
set_option maxRecDepth 100000 in
theorem c_lightestWeight (l : Launch) (dC : Nat → ClassId) (dI : Nat → Nat → Nat) (cI cL cZ : ClassId) (ad : Nat → Nat) (hinj : xI ad 15) (nv : Nat) (av : Int32) (nc : Nat) (mt mf wt : Nat → Int32) (hnc : nc ≤ 40) (x : Int64) : Met l yX1_lightestWeight wsX1_lightestWeight ({ frames := 0, cells := 0, slots := 0, locals := 0 }) (va_Pc [.ref (ad 1), .long x] (fun U => va_P (dC, dI) vwCl [(ad 1, .inr (1, [.int (nI nv), .int av, .int (nI nc), .ref (ad 2), .ref (ad 3), .ref (ad 4)])), (ad 2, .inl (cI, 40, .inl mt)), (ad 3, .inl (cI, 40, .inl mf)), (ad 4, .inl (cI, 40, .inl wt))] U.heap ∧ va_K (dC, dI) vwCl [(cI, .int), (cL, .long), (cZ, .boolean)] U)) (va_Qi (fun r (_ : Unit) => f_lightestWeight nc wt x = r) (fun _ _ => True) xN) 0 0 xN := by
  refine Met.ofW (cc := cX1_lightestWeight) (maxL := 6) (ret := (some .int)) (by decide) rfl ?_
  intro p e s m args below meth c s₁ B hml hvv
  obtain ⟨rfl, hP0, hK⟩ := hvv
  have hx := B.exec
  have hb := B.bytes
  have hr := B.returns
  have hts := atoms_spec (ws := wsX1_lightestWeight) B.pre
  have hown : s.vm.findClass RX1 = some m.cls := findClass_of_methodNamed B.named
  have hlocks := B.notSynchronized
  have hw0 : (.fieldLink RX1 28 "WeightedClauses$Formula" "clauseCount" "I" : Cond).before _ s = true := hts _ (List.mem_cons_of_mem _ wd_72)
  have hw1 : (.fieldLink RX1 18 "WeightedClauses$Formula" "weights" "[I" : Cond).before _ s = true := hts _ (List.mem_cons_of_mem _ wd_77)
  have hPr : va_P (dC, dI) vwCl [(ad 1, .inr (1, [.int (nI nv), .int av, .int (nI nc), .ref (ad 2), .ref (ad 3), .ref (ad 4)])), (ad 2, .inl (cI, 40, .inl mt)), (ad 3, .inl (cI, 40, .inl mf)), (ad 4, .inl (cI, 40, .inl wt))] s.heap := hP0.sub [0, 1, 2, 3] rfl
  have hS : va_S xN s.heap s.heap [] := va_S.rf
  have hl := lv_entry [.ref (ad 1), .long x] (n := 6) (Nat.le_of_ble_eq_true rfl)
  rw [lg_entry_eq]
  generalize (lg_sl [.ref (ad 1), .long x] ++ List.replicate (6 - (lg_sl [.ref (ad 1), .long x]).length) Slot.unset).toArray = ls at hl ⊢
  have hl : lv_has ls 6 [(0, .ref (ad 1)), (1, .long x)] := hl
  have hF := Eq.refl (f_lightestWeight nc wt x)
  conv at hF => rhs; unfold f_lightestWeight
  refine lv_iconst (v := 0) hx hb dX1_lightestWeight_0 (by decide) ?_
  refine lv_istore_n (lv' := [(3, .int 0), (0, .ref (ad 1)), (1, .long x)]) hx hb dX1_lightestWeight_1 rfl hl (by decide) rfl (fun ls hl => ?_)
  refine lv_iconst (v := 0) hx hb dX1_lightestWeight_2 (by decide) ?_
  refine lv_istore (lv' := [(4, .int 0), (3, .int 0), (0, .ref (ad 1)), (1, .long x)]) hx hb dX1_lightestWeight_3 hl (by decide) rfl (fun ls hl => ?_)
  have lp5 : ∀ (n : Nat) (i : Nat) (acc : Int32) (H : Heap) (locs : List Loc) (ls : Array Slot), f_lightestWeight nc wt x = f_lightestWeight_L wt x n i acc → i + n = nc → va_S xN s.heap H locs → lv_has ls 6 [(0, .ref (ad 1)), (1, .long x), (3, .int acc), (4, .int (nI i))] → W p l e (headSpec wsX1_lightestWeight ({ frames := 0, cells := 0, slots := 0, locals := 0 })).room s m [.ref (ad 1), .long x].toArray below meth c H locs 0 0 (MQ below (va_Qi (fun r (_ : Unit) => f_lightestWeight nc wt x = r) (fun _ _ => True) xN) [.ref (ad 1), .long x].toArray s 0 0 xN) (F0 m 5 ls []) := by
    intro n
    induction n with
    | zero =>
      intro i acc H locs ls hF hil hS hl
      rw [f_lightestWeight_L] at hF
      refine lv_iload hx hb dX1_lightestWeight_5 (lv_at hl 3 rfl) ?_
      refine lv_aload_n hx hb dX1_lightestWeight_7 rfl (lv_at hl 0 rfl) ?_
      have hR := xP0 hPr xnN hS
      refine va_get (D := (dC, dI)) (ci := 1) (v := .int (nI nc)) (C := RX1) (T := TX1) (N := 6) hx hb hts (xcons inX1) hown hK hR 0 rfl rfl 2 (by decide) hw0 (fun _ h9 => h9) rfl dX1_lightestWeight_8 ?_
      refine lv_icmp_ge (tgt := 76) hx hb dX1_lightestWeight_11 (by decide) (fun h1 => ?_) (fun h1 => absurd (nI_le (by omega) (by omega)) h1)
      refine lv_iload_n hx hb dX1_lightestWeight_76 rfl (lv_at hl 2 rfl) ?_
      exact W.iret (v := acc) hx hb hr (fun t ht hW => ⟨⟨_, (), rfl, hF, trivial⟩, hS.F ht⟩) hS.2.2 dX1_lightestWeight_77
    | succ n ih =>
      intro i acc H locs ls hF hil hS hl
      rw [f_lightestWeight_L] at hF
      refine lv_iload hx hb dX1_lightestWeight_5 (lv_at hl 3 rfl) ?_
      refine lv_aload_n hx hb dX1_lightestWeight_7 rfl (lv_at hl 0 rfl) ?_
      have hR := xP0 hPr xnN hS
      refine va_get (D := (dC, dI)) (ci := 1) (v := .int (nI nc)) (C := RX1) (T := TX1) (N := 6) hx hb hts (xcons inX1) hown hK hR 0 rfl rfl 2 (by decide) hw0 (fun _ h9 => h9) rfl dX1_lightestWeight_8 ?_
      refine lv_icmp_ge (tgt := 76) hx hb dX1_lightestWeight_11 (by decide) (fun h2 => absurd h2 (nI_ge (by omega) (by omega))) (fun h2 => ?_)
      refine lv_lload_n hx hb dX1_lightestWeight_14 rfl (lv_at hl 1 rfl) ?_
      refine lv_iload hx hb dX1_lightestWeight_15 (lv_at hl 3 rfl) ?_
      refine lv_lshr (v := (x >>> ((nI i).toInt64 &&& 63))) hx hb dX1_lightestWeight_17 rfl ?_
      refine lv_lconst (v := 1) hx hb dX1_lightestWeight_18 (by decide) ?_
      refine lv_land hx hb dX1_lightestWeight_19 ?_
      refine lv_lconst (v := 0) hx hb dX1_lightestWeight_20 (by decide) ?_
      refine W.lcmp hx hb dX1_lightestWeight_21 ?_
      refine lv_if_eq (tgt := 39) hx hb dX1_lightestWeight_22 (by decide) (fun h3 => ?_) (fun h3 => ?_)
      · have hF := hF.trans (if_pos h3)
        refine lv_iconst (v := 0) hx hb dX1_lightestWeight_39 (by decide) ?_
        refine lv_istore (lv' := [(5, .int 0), (0, .ref (ad 1)), (1, .long x), (3, .int acc), (4, .int (nI i))]) hx hb dX1_lightestWeight_40 hl (by decide) rfl (fun ls hl => ?_)
        refine lv_iload hx hb dX1_lightestWeight_42 (lv_at hl 0 rfl) ?_
        refine lv_if_eq (tgt := 70) hx hb dX1_lightestWeight_44 (by decide) (fun h4 => ?_) (fun h4 => absurd (by decide) h4)
        refine lv_iinc (k := 4) (v := (nI (i + 1))) (lv' := [(4, .int (nI (i + 1))), (5, .int 0), (0, .ref (ad 1)), (1, .long x), (3, .int acc)]) hx hb dX1_lightestWeight_70 hl rfl (xinc _) (by decide) rfl (fun ls hl => ?_)
        refine lv_goto (tgt := 5) hx hb dX1_lightestWeight_73 (by decide) ?_
        exact ih (i + 1) acc _ _ _ hF (by omega) hS (lv_sub hl [2, 3, 4, 0] rfl)
      · have hF := hF.trans (if_neg h3)
        refine lv_aload_n hx hb dX1_lightestWeight_25 rfl (lv_at hl 0 rfl) ?_
        refine va_get (D := (dC, dI)) (ci := 1) (v := .ref (ad 4)) (C := RX1) (T := TX1) (N := 6) hx hb hts (xcons inX1) hown hK hR 0 rfl rfl 5 (by decide) hw1 (fun _ h9 => h9) rfl dX1_lightestWeight_26 ?_
        refine lv_iload hx hb dX1_lightestWeight_29 (lv_at hl 3 rfl) ?_
        refine xr_iald hx hb hK hR 3 0 rfl rfl i (by omega) (by omega) dX1_lightestWeight_31 ?_
        refine lv_if_eq (tgt := 39) hx hb dX1_lightestWeight_32 (by decide) (fun h5 => ?_) (fun h5 => ?_)
        · have hF := hF.trans (if_pos h5)
          refine lv_iconst (v := 0) hx hb dX1_lightestWeight_39 (by decide) ?_
          refine lv_istore (lv' := [(5, .int 0), (0, .ref (ad 1)), (1, .long x), (3, .int acc), (4, .int (nI i))]) hx hb dX1_lightestWeight_40 hl (by decide) rfl (fun ls hl => ?_)
          refine lv_iload hx hb dX1_lightestWeight_42 (lv_at hl 0 rfl) ?_
          refine lv_if_eq (tgt := 70) hx hb dX1_lightestWeight_44 (by decide) (fun h6 => ?_) (fun h6 => absurd (by decide) h6)
          refine lv_iinc (k := 4) (v := (nI (i + 1))) (lv' := [(4, .int (nI (i + 1))), (5, .int 0), (0, .ref (ad 1)), (1, .long x), (3, .int acc)]) hx hb dX1_lightestWeight_70 hl rfl (xinc _) (by decide) rfl (fun ls hl => ?_)
          refine lv_goto (tgt := 5) hx hb dX1_lightestWeight_73 (by decide) ?_
          exact ih (i + 1) acc _ _ _ hF (by omega) hS (lv_sub hl [2, 3, 4, 0] rfl)
        · have hF := hF.trans (if_neg h5)
          refine lv_iconst (v := 1) hx hb dX1_lightestWeight_35 (by decide) ?_
          refine lv_goto (tgt := 40) hx hb dX1_lightestWeight_36 (by decide) ?_
          refine lv_istore (lv' := [(5, .int 1), (0, .ref (ad 1)), (1, .long x), (3, .int acc), (4, .int (nI i))]) hx hb dX1_lightestWeight_40 hl (by decide) rfl (fun ls hl => ?_)
          refine lv_iload hx hb dX1_lightestWeight_42 (lv_at hl 0 rfl) ?_
          refine lv_if_eq (tgt := 70) hx hb dX1_lightestWeight_44 (by decide) (fun h7 => absurd h7 (by decide)) (fun h7 => ?_)
          refine lv_iload_n hx hb dX1_lightestWeight_47 rfl (lv_at hl 3 rfl) ?_
          refine lv_if_eq (tgt := 62) hx hb dX1_lightestWeight_48 (by decide) (fun h8 => ?_) (fun h8 => ?_)
          · have hF := hF.trans (if_pos h8)
            refine lv_aload_n hx hb dX1_lightestWeight_62 rfl (lv_at hl 1 rfl) ?_
            refine va_get (D := (dC, dI)) (ci := 1) (v := .ref (ad 4)) (C := RX1) (T := TX1) (N := 6) hx hb hts (xcons inX1) hown hK hR 0 rfl rfl 5 (by decide) hw1 (fun _ h9 => h9) rfl dX1_lightestWeight_63 ?_
            refine lv_iload hx hb dX1_lightestWeight_66 (lv_at hl 4 rfl) ?_
            refine xr_iald hx hb hK hR 3 0 rfl rfl i (by omega) (by omega) dX1_lightestWeight_68 ?_
            refine lv_istore_n (lv' := [(3, .int (wt i)), (5, .int 1), (0, .ref (ad 1)), (1, .long x), (4, .int (nI i))]) hx hb dX1_lightestWeight_69 rfl hl (by decide) rfl (fun ls hl => ?_)
            refine lv_iinc (k := 4) (v := (nI (i + 1))) (lv' := [(4, .int (nI (i + 1))), (3, .int (wt i)), (5, .int 1), (0, .ref (ad 1)), (1, .long x)]) hx hb dX1_lightestWeight_70 hl rfl (xinc _) (by decide) rfl (fun ls hl => ?_)
            refine lv_goto (tgt := 5) hx hb dX1_lightestWeight_73 (by decide) ?_
            exact ih (i + 1) (wt i) _ _ _ hF (by omega) hS (lv_sub hl [3, 4, 1, 0] rfl)
          · have hF := hF.trans (if_neg h8)
            refine lv_aload_n hx hb dX1_lightestWeight_51 rfl (lv_at hl 1 rfl) ?_
            refine va_get (D := (dC, dI)) (ci := 1) (v := .ref (ad 4)) (C := RX1) (T := TX1) (N := 6) hx hb hts (xcons inX1) hown hK hR 0 rfl rfl 5 (by decide) hw1 (fun _ h9 => h9) rfl dX1_lightestWeight_52 ?_
            refine lv_iload hx hb dX1_lightestWeight_55 (lv_at hl 4 rfl) ?_
            refine xr_iald hx hb hK hR 3 0 rfl rfl i (by omega) (by omega) dX1_lightestWeight_57 ?_
            refine lv_iload_n hx hb dX1_lightestWeight_58 rfl (lv_at hl 3 rfl) ?_
            refine lv_icmp_ge (tgt := 70) hx hb dX1_lightestWeight_59 (by decide) (fun h9 => ?_) (fun h9 => ?_)
            · have hF := hF.trans (if_pos h9)
              refine lv_iinc (k := 4) (v := (nI (i + 1))) (lv' := [(4, .int (nI (i + 1))), (5, .int 1), (0, .ref (ad 1)), (1, .long x), (3, .int acc)]) hx hb dX1_lightestWeight_70 hl rfl (xinc _) (by decide) rfl (fun ls hl => ?_)
              refine lv_goto (tgt := 5) hx hb dX1_lightestWeight_73 (by decide) ?_
              exact ih (i + 1) acc _ _ _ hF (by omega) hS (lv_sub hl [2, 3, 4, 0] rfl)
            · have hF := hF.trans (if_neg h9)
              refine lv_aload_n hx hb dX1_lightestWeight_62 rfl (lv_at hl 1 rfl) ?_
              refine va_get (D := (dC, dI)) (ci := 1) (v := .ref (ad 4)) (C := RX1) (T := TX1) (N := 6) hx hb hts (xcons inX1) hown hK hR 0 rfl rfl 5 (by decide) hw1 (fun _ h9 => h9) rfl dX1_lightestWeight_63 ?_
              refine lv_iload hx hb dX1_lightestWeight_66 (lv_at hl 4 rfl) ?_
              refine xr_iald hx hb hK hR 3 0 rfl rfl i (by omega) (by omega) dX1_lightestWeight_68 ?_
              refine lv_istore_n (lv' := [(3, .int (wt i)), (5, .int 1), (0, .ref (ad 1)), (1, .long x), (4, .int (nI i))]) hx hb dX1_lightestWeight_69 rfl hl (by decide) rfl (fun ls hl => ?_)
              refine lv_iinc (k := 4) (v := (nI (i + 1))) (lv' := [(4, .int (nI (i + 1))), (3, .int (wt i)), (5, .int 1), (0, .ref (ad 1)), (1, .long x)]) hx hb dX1_lightestWeight_70 hl rfl (xinc _) (by decide) rfl (fun ls hl => ?_)
              refine lv_goto (tgt := 5) hx hb dX1_lightestWeight_73 (by decide) ?_
              exact ih (i + 1) (wt i) _ _ _ hF (by omega) hS (lv_sub hl [3, 4, 1, 0] rfl)
  exact lp5 nc 0 0 _ _ _ hF (by omega) hS (lv_sub hl [2, 3, 1, 0] rfl)
end
section
def f_countHolding_L (mt : Nat → Int32) (v : Nat) (x : Int64) : Nat → Nat → Int32 → Int32
  | 0, i, acc =>
    acc
  | n + 1, i, acc =>
    if (lg_cmp ((x >>> ((nI i).toInt64 &&& 63)) &&& 1) 0) = 0 then
      f_countHolding_L mt v x n (i + 1) acc
    else
      if (((mt i) >>> ((nI v) &&& 31)) &&& 1) = 0 then
        f_countHolding_L mt v x n (i + 1) acc
      else
        f_countHolding_L mt v x n (i + 1) (acc + 1)
def f_countHolding (nc : Nat) (mt : Nat → Int32) (v : Nat) (x : Int64) : Int32 :=
  f_countHolding_L mt v x nc 0 0

set_option maxHeartbeats 4000000 in
set_option maxRecDepth 100000 in
theorem c_countHoldingT (l : Launch) (dC : Nat → ClassId) (dI : Nat → Nat → Nat) (cI cL cZ : ClassId) (ad : Nat → Nat) (hinj : xI ad 15) (nv : Nat) (av : Int32) (nc : Nat) (mt mf wt : Nat → Int32) (hnc : nc ≤ 40) (v : Nat) (x : Int64) : Met l yX1_countHolding wsX1_countHolding ({ frames := 0, cells := 0, slots := 0, locals := 0 }) (va_Pc [.ref (ad 1), .ref (ad 2), .int (nI v), .long x] (fun U => va_P (dC, dI) vwCl [(ad 1, .inr (1, [.int (nI nv), .int av, .int (nI nc), .ref (ad 2), .ref (ad 3), .ref (ad 4)])), (ad 2, .inl (cI, 40, .inl mt)), (ad 3, .inl (cI, 40, .inl mf)), (ad 4, .inl (cI, 40, .inl wt))] U.heap ∧ va_K (dC, dI) vwCl [(cI, .int), (cL, .long), (cZ, .boolean)] U)) (va_Qi (fun r (_ : Unit) => f_countHolding nc mt v x = r) (fun _ _ => True) xN) 0 0 xN := by
  refine Met.ofW (cc := cX1_countHolding) (maxL := 7) (ret := (some .int)) (by decide) rfl ?_
  intro p e s m args below meth c s₁ B hml hvv
  obtain ⟨rfl, hP0, hK⟩ := hvv
  have hx := B.exec
  have hb := B.bytes
  have hr := B.returns
  have hts := atoms_spec (ws := wsX1_countHolding) B.pre
  have hown : s.vm.findClass RX1 = some m.cls := findClass_of_methodNamed B.named
  have hlocks := B.notSynchronized
  have hw0 : (.fieldLink RX1 28 "WeightedClauses$Formula" "clauseCount" "I" : Cond).before _ s = true := hts _ (List.mem_cons_of_mem _ wd_72)
  have hPr : va_P (dC, dI) vwCl [(ad 1, .inr (1, [.int (nI nv), .int av, .int (nI nc), .ref (ad 2), .ref (ad 3), .ref (ad 4)])), (ad 2, .inl (cI, 40, .inl mt)), (ad 3, .inl (cI, 40, .inl mf)), (ad 4, .inl (cI, 40, .inl wt))] s.heap := hP0.sub [0, 1, 2, 3] rfl
  have hS : va_S xN s.heap s.heap [] := va_S.rf
  have hl := lv_entry [.ref (ad 1), .ref (ad 2), .int (nI v), .long x] (n := 7) (Nat.le_of_ble_eq_true rfl)
  rw [lg_entry_eq]
  generalize (lg_sl [.ref (ad 1), .ref (ad 2), .int (nI v), .long x] ++ List.replicate (7 - (lg_sl [.ref (ad 1), .ref (ad 2), .int (nI v), .long x]).length) Slot.unset).toArray = ls at hl ⊢
  have hl : lv_has ls 7 [(0, .ref (ad 1)), (1, .ref (ad 2)), (2, .int (nI v)), (3, .long x)] := hl
  have hF := Eq.refl (f_countHolding nc mt v x)
  conv at hF => rhs; unfold f_countHolding
  refine lv_iconst (v := 0) hx hb dX1_countHolding_0 (by decide) ?_
  refine lv_istore (lv' := [(5, .int 0), (0, .ref (ad 1)), (1, .ref (ad 2)), (2, .int (nI v)), (3, .long x)]) hx hb dX1_countHolding_1 hl (by decide) rfl (fun ls hl => ?_)
  refine lv_iconst (v := 0) hx hb dX1_countHolding_3 (by decide) ?_
  refine lv_istore (lv' := [(6, .int 0), (5, .int 0), (0, .ref (ad 1)), (1, .ref (ad 2)), (2, .int (nI v)), (3, .long x)]) hx hb dX1_countHolding_4 hl (by decide) rfl (fun ls hl => ?_)
  have lp6 : ∀ (n : Nat) (i : Nat) (acc : Int32) (H : Heap) (locs : List Loc) (ls : Array Slot), f_countHolding nc mt v x = f_countHolding_L mt v x n i acc → i + n = nc → va_S xN s.heap H locs → lv_has ls 7 [(0, .ref (ad 1)), (1, .ref (ad 2)), (2, .int (nI v)), (3, .long x), (5, .int acc), (6, .int (nI i))] → W p l e (headSpec wsX1_countHolding ({ frames := 0, cells := 0, slots := 0, locals := 0 })).room s m [.ref (ad 1), .ref (ad 2), .int (nI v), .long x].toArray below meth c H locs 0 0 (MQ below (va_Qi (fun r (_ : Unit) => f_countHolding nc mt v x = r) (fun _ _ => True) xN) [.ref (ad 1), .ref (ad 2), .int (nI v), .long x].toArray s 0 0 xN) (F0 m 6 ls []) := by
    intro n
    induction n with
    | zero =>
      intro i acc H locs ls hF hil hS hl
      rw [f_countHolding_L] at hF
      refine lv_iload hx hb dX1_countHolding_6 (lv_at hl 5 rfl) ?_
      refine lv_aload_n hx hb dX1_countHolding_8 rfl (lv_at hl 0 rfl) ?_
      have hR := xP0 hPr xnN hS
      refine va_get (D := (dC, dI)) (ci := 1) (v := .int (nI nc)) (C := RX1) (T := TX1) (N := 6) hx hb hts (xcons inX1) hown hK hR 0 rfl rfl 2 (by decide) hw0 (fun _ h9 => h9) rfl dX1_countHolding_9 ?_
      refine lv_icmp_ge (tgt := 46) hx hb dX1_countHolding_12 (by decide) (fun h1 => ?_) (fun h1 => absurd (nI_le (by omega) (by omega)) h1)
      refine lv_iload hx hb dX1_countHolding_46 (lv_at hl 4 rfl) ?_
      exact W.iret (v := acc) hx hb hr (fun t ht hW => ⟨⟨_, (), rfl, hF, trivial⟩, hS.F ht⟩) hS.2.2 dX1_countHolding_48
    | succ n ih =>
      intro i acc H locs ls hF hil hS hl
      rw [f_countHolding_L] at hF
      refine lv_iload hx hb dX1_countHolding_6 (lv_at hl 5 rfl) ?_
      refine lv_aload_n hx hb dX1_countHolding_8 rfl (lv_at hl 0 rfl) ?_
      have hR := xP0 hPr xnN hS
      refine va_get (D := (dC, dI)) (ci := 1) (v := .int (nI nc)) (C := RX1) (T := TX1) (N := 6) hx hb hts (xcons inX1) hown hK hR 0 rfl rfl 2 (by decide) hw0 (fun _ h9 => h9) rfl dX1_countHolding_9 ?_
      refine lv_icmp_ge (tgt := 46) hx hb dX1_countHolding_12 (by decide) (fun h2 => absurd h2 (nI_ge (by omega) (by omega))) (fun h2 => ?_)
      refine lv_lload_n hx hb dX1_countHolding_15 rfl (lv_at hl 3 rfl) ?_
      refine lv_iload hx hb dX1_countHolding_16 (lv_at hl 5 rfl) ?_
      refine lv_lshr (v := (x >>> ((nI i).toInt64 &&& 63))) hx hb dX1_countHolding_18 rfl ?_
      refine lv_lconst (v := 1) hx hb dX1_countHolding_19 (by decide) ?_
      refine lv_land hx hb dX1_countHolding_20 ?_
      refine lv_lconst (v := 0) hx hb dX1_countHolding_21 (by decide) ?_
      refine W.lcmp hx hb dX1_countHolding_22 ?_
      refine lv_if_eq (tgt := 40) hx hb dX1_countHolding_23 (by decide) (fun h3 => ?_) (fun h3 => ?_)
      · have hF := hF.trans (if_pos h3)
        refine lv_iinc (k := 5) (v := (nI (i + 1))) (lv' := [(6, .int (nI (i + 1))), (0, .ref (ad 1)), (1, .ref (ad 2)), (2, .int (nI v)), (3, .long x), (5, .int acc)]) hx hb dX1_countHolding_40 hl rfl (xinc _) (by decide) rfl (fun ls hl => ?_)
        refine lv_goto (tgt := 6) hx hb dX1_countHolding_43 (by decide) ?_
        exact ih (i + 1) acc _ _ _ hF (by omega) hS (lv_sub hl [1, 2, 3, 4, 5, 0] rfl)
      · have hF := hF.trans (if_neg h3)
        refine lv_aload_n hx hb dX1_countHolding_26 rfl (lv_at hl 1 rfl) ?_
        refine lv_iload hx hb dX1_countHolding_27 (lv_at hl 5 rfl) ?_
        refine xr_iald hx hb hK hR 1 0 rfl rfl i (by omega) (by omega) dX1_countHolding_29 ?_
        refine lv_iload_n hx hb dX1_countHolding_30 rfl (lv_at hl 2 rfl) ?_
        refine lv_ishr hx hb dX1_countHolding_31 ?_
        refine lv_iconst (v := 1) hx hb dX1_countHolding_32 (by decide) ?_
        refine lv_iand hx hb dX1_countHolding_33 ?_
        refine lv_if_eq (tgt := 40) hx hb dX1_countHolding_34 (by decide) (fun h4 => ?_) (fun h4 => ?_)
        · have hF := hF.trans (if_pos h4)
          refine lv_iinc (k := 5) (v := (nI (i + 1))) (lv' := [(6, .int (nI (i + 1))), (0, .ref (ad 1)), (1, .ref (ad 2)), (2, .int (nI v)), (3, .long x), (5, .int acc)]) hx hb dX1_countHolding_40 hl rfl (xinc _) (by decide) rfl (fun ls hl => ?_)
          refine lv_goto (tgt := 6) hx hb dX1_countHolding_43 (by decide) ?_
          exact ih (i + 1) acc _ _ _ hF (by omega) hS (lv_sub hl [1, 2, 3, 4, 5, 0] rfl)
        · have hF := hF.trans (if_neg h4)
          refine lv_iinc (k := 4) (v := (acc + 1)) (lv' := [(5, .int (acc + 1)), (0, .ref (ad 1)), (1, .ref (ad 2)), (2, .int (nI v)), (3, .long x), (6, .int (nI i))]) hx hb dX1_countHolding_37 hl rfl (xinc1 _) (by decide) rfl (fun ls hl => ?_)
          refine lv_iinc (k := 5) (v := (nI (i + 1))) (lv' := [(6, .int (nI (i + 1))), (5, .int (acc + 1)), (0, .ref (ad 1)), (1, .ref (ad 2)), (2, .int (nI v)), (3, .long x)]) hx hb dX1_countHolding_40 hl rfl (xinc _) (by decide) rfl (fun ls hl => ?_)
          refine lv_goto (tgt := 6) hx hb dX1_countHolding_43 (by decide) ?_
          exact ih (i + 1) (acc + 1) _ _ _ hF (by omega) hS (lv_sub hl [2, 3, 4, 5, 1, 0] rfl)
  exact lp6 nc 0 0 _ _ _ hF (by omega) hS (lv_sub hl [2, 3, 4, 5, 1, 0] rfl)
set_option maxHeartbeats 4000000 in
set_option maxRecDepth 100000 in
theorem c_countHoldingF (l : Launch) (dC : Nat → ClassId) (dI : Nat → Nat → Nat) (cI cL cZ : ClassId) (ad : Nat → Nat) (hinj : xI ad 15) (nv : Nat) (av : Int32) (nc : Nat) (mt mf wt : Nat → Int32) (hnc : nc ≤ 40) (v : Nat) (x : Int64) : Met l yX1_countHolding wsX1_countHolding ({ frames := 0, cells := 0, slots := 0, locals := 0 }) (va_Pc [.ref (ad 1), .ref (ad 3), .int (nI v), .long x] (fun U => va_P (dC, dI) vwCl [(ad 1, .inr (1, [.int (nI nv), .int av, .int (nI nc), .ref (ad 2), .ref (ad 3), .ref (ad 4)])), (ad 2, .inl (cI, 40, .inl mt)), (ad 3, .inl (cI, 40, .inl mf)), (ad 4, .inl (cI, 40, .inl wt))] U.heap ∧ va_K (dC, dI) vwCl [(cI, .int), (cL, .long), (cZ, .boolean)] U)) (va_Qi (fun r (_ : Unit) => f_countHolding nc mf v x = r) (fun _ _ => True) xN) 0 0 xN := by
  refine Met.ofW (cc := cX1_countHolding) (maxL := 7) (ret := (some .int)) (by decide) rfl ?_
  intro p e s m args below meth c s₁ B hml hvv
  obtain ⟨rfl, hP0, hK⟩ := hvv
  have hx := B.exec
  have hb := B.bytes
  have hr := B.returns
  have hts := atoms_spec (ws := wsX1_countHolding) B.pre
  have hown : s.vm.findClass RX1 = some m.cls := findClass_of_methodNamed B.named
  have hlocks := B.notSynchronized
  have hw0 : (.fieldLink RX1 28 "WeightedClauses$Formula" "clauseCount" "I" : Cond).before _ s = true := hts _ (List.mem_cons_of_mem _ wd_72)
  have hPr : va_P (dC, dI) vwCl [(ad 1, .inr (1, [.int (nI nv), .int av, .int (nI nc), .ref (ad 2), .ref (ad 3), .ref (ad 4)])), (ad 2, .inl (cI, 40, .inl mt)), (ad 3, .inl (cI, 40, .inl mf)), (ad 4, .inl (cI, 40, .inl wt))] s.heap := hP0.sub [0, 1, 2, 3] rfl
  have hS : va_S xN s.heap s.heap [] := va_S.rf
  have hl := lv_entry [.ref (ad 1), .ref (ad 3), .int (nI v), .long x] (n := 7) (Nat.le_of_ble_eq_true rfl)
  rw [lg_entry_eq]
  generalize (lg_sl [.ref (ad 1), .ref (ad 3), .int (nI v), .long x] ++ List.replicate (7 - (lg_sl [.ref (ad 1), .ref (ad 3), .int (nI v), .long x]).length) Slot.unset).toArray = ls at hl ⊢
  have hl : lv_has ls 7 [(0, .ref (ad 1)), (1, .ref (ad 3)), (2, .int (nI v)), (3, .long x)] := hl
  have hF := Eq.refl (f_countHolding nc mf v x)
  conv at hF => rhs; unfold f_countHolding
  refine lv_iconst (v := 0) hx hb dX1_countHolding_0 (by decide) ?_
  refine lv_istore (lv' := [(5, .int 0), (0, .ref (ad 1)), (1, .ref (ad 3)), (2, .int (nI v)), (3, .long x)]) hx hb dX1_countHolding_1 hl (by decide) rfl (fun ls hl => ?_)
  refine lv_iconst (v := 0) hx hb dX1_countHolding_3 (by decide) ?_
  refine lv_istore (lv' := [(6, .int 0), (5, .int 0), (0, .ref (ad 1)), (1, .ref (ad 3)), (2, .int (nI v)), (3, .long x)]) hx hb dX1_countHolding_4 hl (by decide) rfl (fun ls hl => ?_)
  have lp6 : ∀ (n : Nat) (i : Nat) (acc : Int32) (H : Heap) (locs : List Loc) (ls : Array Slot), f_countHolding nc mf v x = f_countHolding_L mf v x n i acc → i + n = nc → va_S xN s.heap H locs → lv_has ls 7 [(0, .ref (ad 1)), (1, .ref (ad 3)), (2, .int (nI v)), (3, .long x), (5, .int acc), (6, .int (nI i))] → W p l e (headSpec wsX1_countHolding ({ frames := 0, cells := 0, slots := 0, locals := 0 })).room s m [.ref (ad 1), .ref (ad 3), .int (nI v), .long x].toArray below meth c H locs 0 0 (MQ below (va_Qi (fun r (_ : Unit) => f_countHolding nc mf v x = r) (fun _ _ => True) xN) [.ref (ad 1), .ref (ad 3), .int (nI v), .long x].toArray s 0 0 xN) (F0 m 6 ls []) := by
    intro n
    induction n with
    | zero =>
      intro i acc H locs ls hF hil hS hl
      rw [f_countHolding_L] at hF
      refine lv_iload hx hb dX1_countHolding_6 (lv_at hl 5 rfl) ?_
      refine lv_aload_n hx hb dX1_countHolding_8 rfl (lv_at hl 0 rfl) ?_
      have hR := xP0 hPr xnN hS
      refine va_get (D := (dC, dI)) (ci := 1) (v := .int (nI nc)) (C := RX1) (T := TX1) (N := 6) hx hb hts (xcons inX1) hown hK hR 0 rfl rfl 2 (by decide) hw0 (fun _ h9 => h9) rfl dX1_countHolding_9 ?_
      refine lv_icmp_ge (tgt := 46) hx hb dX1_countHolding_12 (by decide) (fun h1 => ?_) (fun h1 => absurd (nI_le (by omega) (by omega)) h1)
      refine lv_iload hx hb dX1_countHolding_46 (lv_at hl 4 rfl) ?_
      exact W.iret (v := acc) hx hb hr (fun t ht hW => ⟨⟨_, (), rfl, hF, trivial⟩, hS.F ht⟩) hS.2.2 dX1_countHolding_48
    | succ n ih =>
      intro i acc H locs ls hF hil hS hl
      rw [f_countHolding_L] at hF
      refine lv_iload hx hb dX1_countHolding_6 (lv_at hl 5 rfl) ?_
      refine lv_aload_n hx hb dX1_countHolding_8 rfl (lv_at hl 0 rfl) ?_
      have hR := xP0 hPr xnN hS
      refine va_get (D := (dC, dI)) (ci := 1) (v := .int (nI nc)) (C := RX1) (T := TX1) (N := 6) hx hb hts (xcons inX1) hown hK hR 0 rfl rfl 2 (by decide) hw0 (fun _ h9 => h9) rfl dX1_countHolding_9 ?_
      refine lv_icmp_ge (tgt := 46) hx hb dX1_countHolding_12 (by decide) (fun h2 => absurd h2 (nI_ge (by omega) (by omega))) (fun h2 => ?_)
      refine lv_lload_n hx hb dX1_countHolding_15 rfl (lv_at hl 3 rfl) ?_
      refine lv_iload hx hb dX1_countHolding_16 (lv_at hl 5 rfl) ?_
      refine lv_lshr (v := (x >>> ((nI i).toInt64 &&& 63))) hx hb dX1_countHolding_18 rfl ?_
      refine lv_lconst (v := 1) hx hb dX1_countHolding_19 (by decide) ?_
      refine lv_land hx hb dX1_countHolding_20 ?_
      refine lv_lconst (v := 0) hx hb dX1_countHolding_21 (by decide) ?_
      refine W.lcmp hx hb dX1_countHolding_22 ?_
      refine lv_if_eq (tgt := 40) hx hb dX1_countHolding_23 (by decide) (fun h3 => ?_) (fun h3 => ?_)
      · have hF := hF.trans (if_pos h3)
        refine lv_iinc (k := 5) (v := (nI (i + 1))) (lv' := [(6, .int (nI (i + 1))), (0, .ref (ad 1)), (1, .ref (ad 3)), (2, .int (nI v)), (3, .long x), (5, .int acc)]) hx hb dX1_countHolding_40 hl rfl (xinc _) (by decide) rfl (fun ls hl => ?_)
        refine lv_goto (tgt := 6) hx hb dX1_countHolding_43 (by decide) ?_
        exact ih (i + 1) acc _ _ _ hF (by omega) hS (lv_sub hl [1, 2, 3, 4, 5, 0] rfl)
      · have hF := hF.trans (if_neg h3)
        refine lv_aload_n hx hb dX1_countHolding_26 rfl (lv_at hl 1 rfl) ?_
        refine lv_iload hx hb dX1_countHolding_27 (lv_at hl 5 rfl) ?_
        refine xr_iald hx hb hK hR 2 0 rfl rfl i (by omega) (by omega) dX1_countHolding_29 ?_
        refine lv_iload_n hx hb dX1_countHolding_30 rfl (lv_at hl 2 rfl) ?_
        refine lv_ishr hx hb dX1_countHolding_31 ?_
        refine lv_iconst (v := 1) hx hb dX1_countHolding_32 (by decide) ?_
        refine lv_iand hx hb dX1_countHolding_33 ?_
        refine lv_if_eq (tgt := 40) hx hb dX1_countHolding_34 (by decide) (fun h4 => ?_) (fun h4 => ?_)
        · have hF := hF.trans (if_pos h4)
          refine lv_iinc (k := 5) (v := (nI (i + 1))) (lv' := [(6, .int (nI (i + 1))), (0, .ref (ad 1)), (1, .ref (ad 3)), (2, .int (nI v)), (3, .long x), (5, .int acc)]) hx hb dX1_countHolding_40 hl rfl (xinc _) (by decide) rfl (fun ls hl => ?_)
          refine lv_goto (tgt := 6) hx hb dX1_countHolding_43 (by decide) ?_
          exact ih (i + 1) acc _ _ _ hF (by omega) hS (lv_sub hl [1, 2, 3, 4, 5, 0] rfl)
        · have hF := hF.trans (if_neg h4)
          refine lv_iinc (k := 4) (v := (acc + 1)) (lv' := [(5, .int (acc + 1)), (0, .ref (ad 1)), (1, .ref (ad 3)), (2, .int (nI v)), (3, .long x), (6, .int (nI i))]) hx hb dX1_countHolding_37 hl rfl (xinc1 _) (by decide) rfl (fun ls hl => ?_)
          refine lv_iinc (k := 5) (v := (nI (i + 1))) (lv' := [(6, .int (nI (i + 1))), (5, .int (acc + 1)), (0, .ref (ad 1)), (1, .ref (ad 3)), (2, .int (nI v)), (3, .long x)]) hx hb dX1_countHolding_40 hl rfl (xinc _) (by decide) rfl (fun ls hl => ?_)
          refine lv_goto (tgt := 6) hx hb dX1_countHolding_43 (by decide) ?_
          exact ih (i + 1) (acc + 1) _ _ _ hF (by omega) hS (lv_sub hl [2, 3, 4, 5, 1, 0] rfl)
  exact lp6 nc 0 0 _ _ _ hF (by omega) hS (lv_sub hl [2, 3, 4, 5, 1, 0] rfl)
end
section
def f_firstLiteral_L (nc : Nat) (mt mf : Nat → Int32) (hv : Int32) (op : Int64) : Nat → Nat → Int32 → Int32 → Int32
  | 0, i, lt, mo =>
    lt
  | n + 1, i, lt, mo =>
    if ((hv >>> ((nI i) &&& 31)) &&& 1) = 0 then
      if ((f_countHolding nc mt i op) + (f_countHolding nc mf i op)) ≤ mo then
        f_firstLiteral_L nc mt mf hv op n (i + 1) lt mo
      else
        if (f_countHolding nc mf i op) ≤ (f_countHolding nc mt i op) then
          f_firstLiteral_L nc mt mf hv op n (i + 1) (2 * (nI i)) ((f_countHolding nc mt i op) + (f_countHolding nc mf i op))
        else
          f_firstLiteral_L nc mt mf hv op n (i + 1) ((2 * (nI i)) + 1) ((f_countHolding nc mt i op) + (f_countHolding nc mf i op))
    else
      f_firstLiteral_L nc mt mf hv op n (i + 1) lt mo
def f_firstLiteral (nv nc : Nat) (mt mf : Nat → Int32) (hv vl : Int32) : Int32 :=
  f_firstLiteral_L nc mt mf hv (f_openClauses nc mt mf hv vl) nv 0 (-1) (-1)
set_option maxHeartbeats 4000000 in
set_option maxRecDepth 100000 in
theorem c_firstLiteral (l : Launch) (dC : Nat → ClassId) (dI : Nat → Nat → Nat) (cI cL cZ : ClassId) (ad : Nat → Nat) (hinj : xI ad 15) (nv : Nat) (av : Int32) (nc : Nat) (mt mf wt : Nat → Int32) (hnc : nc ≤ 40) (hnv : nv ≤ 10) (hv vl : Int32) : Met l yX1_firstLiteral wsX1_firstLiteral ({ frames := 2, cells := 0, slots := 0, locals := 48 }) (va_Pc [.ref (ad 1), .int hv, .int vl] (fun U => va_P (dC, dI) vwCl [(ad 1, .inr (1, [.int (nI nv), .int av, .int (nI nc), .ref (ad 2), .ref (ad 3), .ref (ad 4)])), (ad 2, .inl (cI, 40, .inl mt)), (ad 3, .inl (cI, 40, .inl mf)), (ad 4, .inl (cI, 40, .inl wt))] U.heap ∧ va_K (dC, dI) vwCl [(cI, .int), (cL, .long), (cZ, .boolean)] U)) (va_Qi (fun r (_ : Unit) => f_firstLiteral nv nc mt mf hv vl = r) (fun _ _ => True) xN) 0 0 xN := by
  refine Met.ofW (cc := cX1_firstLiteral) (maxL := 10) (ret := (some .int)) (by decide) rfl ?_
  intro p e s m args below meth c s₁ B hml hvv
  obtain ⟨rfl, hP0, hK⟩ := hvv
  have hx := B.exec
  have hb := B.bytes
  have hr := B.returns
  have hts := atoms_spec (ws := wsX1_firstLiteral) B.pre
  have hown : s.vm.findClass RX1 = some m.cls := findClass_of_methodNamed B.named
  have hlocks := B.notSynchronized
  have hw0 : (.fieldLink RX1 21 "WeightedClauses$Formula" "variableCount" "I" : Cond).before _ s = true := hts _ (List.mem_cons_of_mem _ wd_66)
  have hw1 : (.fieldLink RX1 9 "WeightedClauses$Formula" "makesTrue" "[I" : Cond).before _ s = true := hts _ (List.mem_cons_of_mem _ wd_75)
  have hw2 : (.fieldLink RX1 15 "WeightedClauses$Formula" "makesFalse" "[I" : Cond).before _ s = true := hts _ (List.mem_cons_of_mem _ wd_76)
  have hPr : va_P (dC, dI) vwCl [(ad 1, .inr (1, [.int (nI nv), .int av, .int (nI nc), .ref (ad 2), .ref (ad 3), .ref (ad 4)])), (ad 2, .inl (cI, 40, .inl mt)), (ad 3, .inl (cI, 40, .inl mf)), (ad 4, .inl (cI, 40, .inl wt))] s.heap := hP0.sub [0, 1, 2, 3] rfl
  have hS : va_S xN s.heap s.heap [] := va_S.rf
  have hl := lv_entry [.ref (ad 1), .int hv, .int vl] (n := 10) (Nat.le_of_ble_eq_true rfl)
  rw [lg_entry_eq]
  generalize (lg_sl [.ref (ad 1), .int hv, .int vl] ++ List.replicate (10 - (lg_sl [.ref (ad 1), .int hv, .int vl]).length) Slot.unset).toArray = ls at hl ⊢
  have hl : lv_has ls 10 [(0, .ref (ad 1)), (1, .int hv), (2, .int vl)] := hl
  have hF := Eq.refl (f_firstLiteral nv nc mt mf hv vl)
  conv at hF => rhs; unfold f_firstLiteral
  refine lv_aload_n hx hb dX1_firstLiteral_0 rfl (lv_at hl 0 rfl) ?_
  refine lv_iload_n hx hb dX1_firstLiteral_1 rfl (lv_at hl 1 rfl) ?_
  refine lv_iload_n hx hb dX1_firstLiteral_2 rfl (lv_at hl 2 rfl) ?_
  have hR := xP0 hPr xnN hS
  refine xro_l (va_runV (As := [.int hv, .int vl]) (rest := []) ⟨hx, hb, hml, hown, hts⟩ (c_openClauses l dC dI cI cL cZ ad hinj nv av nc mt mf wt (by omega) hv vl) (xcwV 2 hts wd_253 wd_35 wd_324 wd_251 wd_252 rfl rfl (by decide +kernel) ⟨Nat.le_of_ble_eq_true rfl, Nat.le_of_ble_eq_true rfl⟩) (xpreV (va_recv hK hR rfl (q0 := 0) rfl) hR hK) rfl rfl hl.1 rfl (lv_room (Nat.le_of_ble_eq_true rfl)) dX1_firstLiteral_3 ⟨Nat.le_of_ble_eq_true rfl, Nat.le_of_ble_eq_true rfl⟩) hS (fun H locs hk hS => ?_)
  refine lv_lstore_n (lv' := [(3, .long (f_openClauses nc mt mf hv vl)), (0, .ref (ad 1)), (1, .int hv), (2, .int vl)]) hx hb dX1_firstLiteral_6 rfl hl (by decide) rfl (fun ls hl => ?_)
  refine lv_iconst (v := (-1)) hx hb dX1_firstLiteral_7 (by decide) ?_
  refine lv_istore (lv' := [(5, .int (-1)), (3, .long (f_openClauses nc mt mf hv vl)), (0, .ref (ad 1)), (1, .int hv), (2, .int vl)]) hx hb dX1_firstLiteral_8 hl (by decide) rfl (fun ls hl => ?_)
  refine lv_iconst (v := (-1)) hx hb dX1_firstLiteral_10 (by decide) ?_
  refine lv_istore (lv' := [(6, .int (-1)), (5, .int (-1)), (3, .long (f_openClauses nc mt mf hv vl)), (0, .ref (ad 1)), (1, .int hv), (2, .int vl)]) hx hb dX1_firstLiteral_11 hl (by decide) rfl (fun ls hl => ?_)
  refine lv_iconst (v := 0) hx hb dX1_firstLiteral_13 (by decide) ?_
  refine lv_istore (lv' := [(7, .int 0), (6, .int (-1)), (5, .int (-1)), (3, .long (f_openClauses nc mt mf hv vl)), (0, .ref (ad 1)), (1, .int hv), (2, .int vl)]) hx hb dX1_firstLiteral_14 hl (by decide) rfl (fun ls hl => ?_)
  have lp16 : ∀ (n : Nat) (i : Nat) (lt : Int32) (mo : Int32) (H : Heap) (locs : List Loc) (ls : Array Slot), f_firstLiteral nv nc mt mf hv vl = f_firstLiteral_L nc mt mf hv (f_openClauses nc mt mf hv vl) n i lt mo → i + n = nv → va_S xN s.heap H locs → lv_has ls 10 [(0, .ref (ad 1)), (1, .int hv), (3, .long (f_openClauses nc mt mf hv vl)), (5, .int lt), (6, .int mo), (7, .int (nI i))] → W p l e (headSpec wsX1_firstLiteral ({ frames := 2, cells := 0, slots := 0, locals := 48 })).room s m [.ref (ad 1), .int hv, .int vl].toArray below meth c H locs 0 0 (MQ below (va_Qi (fun r (_ : Unit) => f_firstLiteral nv nc mt mf hv vl = r) (fun _ _ => True) xN) [.ref (ad 1), .int hv, .int vl].toArray s 0 0 xN) (F0 m 16 ls []) := by
    intro n
    induction n with
    | zero =>
      intro i lt mo H locs ls hF hil hS hl
      rw [f_firstLiteral_L] at hF
      refine lv_iload hx hb dX1_firstLiteral_16 (lv_at hl 5 rfl) ?_
      refine lv_aload_n hx hb dX1_firstLiteral_18 rfl (lv_at hl 0 rfl) ?_
      have hR := xP0 hPr xnN hS
      refine va_get (D := (dC, dI)) (ci := 1) (v := .int (nI nv)) (C := RX1) (T := TX1) (N := 6) hx hb hts (xcons inX1) hown hK hR 0 rfl rfl 0 (by decide) hw0 (fun _ h9 => h9) rfl dX1_firstLiteral_19 ?_
      refine lv_icmp_ge (tgt := 105) hx hb dX1_firstLiteral_22 (by decide) (fun h1 => ?_) (fun h1 => absurd (nI_le (by omega) (by omega)) h1)
      refine lv_iload hx hb dX1_firstLiteral_105 (lv_at hl 3 rfl) ?_
      exact W.iret (v := lt) hx hb hr (fun t ht hW => ⟨⟨_, (), rfl, hF, trivial⟩, hS.F ht⟩) hS.2.2 dX1_firstLiteral_107
    | succ n ih =>
      intro i lt mo H locs ls hF hil hS hl
      rw [f_firstLiteral_L] at hF
      refine lv_iload hx hb dX1_firstLiteral_16 (lv_at hl 5 rfl) ?_
      refine lv_aload_n hx hb dX1_firstLiteral_18 rfl (lv_at hl 0 rfl) ?_
      have hR := xP0 hPr xnN hS
      refine va_get (D := (dC, dI)) (ci := 1) (v := .int (nI nv)) (C := RX1) (T := TX1) (N := 6) hx hb hts (xcons inX1) hown hK hR 0 rfl rfl 0 (by decide) hw0 (fun _ h9 => h9) rfl dX1_firstLiteral_19 ?_
      refine lv_icmp_ge (tgt := 105) hx hb dX1_firstLiteral_22 (by decide) (fun h2 => absurd h2 (nI_ge (by omega) (by omega))) (fun h2 => ?_)
      refine lv_aload_n hx hb dX1_firstLiteral_25 rfl (lv_at hl 0 rfl) ?_
      refine lv_aload_n hx hb dX1_firstLiteral_26 rfl (lv_at hl 0 rfl) ?_
      refine va_get (D := (dC, dI)) (ci := 1) (v := .ref (ad 2)) (C := RX1) (T := TX1) (N := 6) hx hb hts (xcons inX1) hown hK hR 0 rfl rfl 3 (by decide) hw1 (fun _ h9 => h9) rfl dX1_firstLiteral_27 ?_
      refine lv_iload hx hb dX1_firstLiteral_30 (lv_at hl 5 rfl) ?_
      refine lv_lload_n hx hb dX1_firstLiteral_32 rfl (lv_at hl 2 rfl) ?_
      refine xro_i (va_runV (As := [.ref (ad 2), .int (nI i), .long (f_openClauses nc mt mf hv vl)]) (rest := []) ⟨hx, hb, hml, hown, hts⟩ (c_countHoldingT l dC dI cI cL cZ ad hinj nv av nc mt mf wt (by omega) i (f_openClauses nc mt mf hv vl)) (xcwV 3 hts wd_328 wd_35 wd_325 wd_327 wd_12 rfl rfl (by decide +kernel) ⟨Nat.le_of_ble_eq_true rfl, Nat.le_of_ble_eq_true rfl⟩) (xpreV (va_recv hK hR rfl (q0 := 0) rfl) hR hK) rfl rfl hl.1 rfl (lv_room (Nat.le_of_ble_eq_true rfl)) dX1_firstLiteral_33 ⟨Nat.le_of_ble_eq_true rfl, Nat.le_of_ble_eq_true rfl⟩) hS (fun H locs hk hS => ?_)
      refine lv_istore (lv' := [(8, .int (f_countHolding nc mt i (f_openClauses nc mt mf hv vl))), (0, .ref (ad 1)), (1, .int hv), (3, .long (f_openClauses nc mt mf hv vl)), (5, .int lt), (6, .int mo), (7, .int (nI i))]) hx hb dX1_firstLiteral_36 hl (by decide) rfl (fun ls hl => ?_)
      refine lv_aload_n hx hb dX1_firstLiteral_38 rfl (lv_at hl 1 rfl) ?_
      refine lv_aload_n hx hb dX1_firstLiteral_39 rfl (lv_at hl 1 rfl) ?_
      have hR := xP0 hPr xnN hS
      refine va_get (D := (dC, dI)) (ci := 1) (v := .ref (ad 3)) (C := RX1) (T := TX1) (N := 6) hx hb hts (xcons inX1) hown hK hR 0 rfl rfl 4 (by decide) hw2 (fun _ h9 => h9) rfl dX1_firstLiteral_40 ?_
      refine lv_iload hx hb dX1_firstLiteral_43 (lv_at hl 6 rfl) ?_
      refine lv_lload_n hx hb dX1_firstLiteral_45 rfl (lv_at hl 3 rfl) ?_
      refine xro_i (va_runV (As := [.ref (ad 3), .int (nI i), .long (f_openClauses nc mt mf hv vl)]) (rest := []) ⟨hx, hb, hml, hown, hts⟩ (c_countHoldingF l dC dI cI cL cZ ad hinj nv av nc mt mf wt (by omega) i (f_openClauses nc mt mf hv vl)) (xcwV 3 hts wd_328 wd_35 wd_325 wd_327 wd_12 rfl rfl (by decide +kernel) ⟨Nat.le_of_ble_eq_true rfl, Nat.le_of_ble_eq_true rfl⟩) (xpreV (va_recv hK hR rfl (q0 := 0) rfl) hR hK) rfl rfl hl.1 rfl (lv_room (Nat.le_of_ble_eq_true rfl)) dX1_firstLiteral_46 ⟨Nat.le_of_ble_eq_true rfl, Nat.le_of_ble_eq_true rfl⟩) hS (fun H locs hk hS => ?_)
      refine lv_istore (lv' := [(9, .int (f_countHolding nc mf i (f_openClauses nc mt mf hv vl))), (8, .int (f_countHolding nc mt i (f_openClauses nc mt mf hv vl))), (0, .ref (ad 1)), (1, .int hv), (3, .long (f_openClauses nc mt mf hv vl)), (5, .int lt), (6, .int mo), (7, .int (nI i))]) hx hb dX1_firstLiteral_49 hl (by decide) rfl (fun ls hl => ?_)
      refine lv_iload_n hx hb dX1_firstLiteral_51 rfl (lv_at hl 3 rfl) ?_
      refine lv_iload hx hb dX1_firstLiteral_52 (lv_at hl 7 rfl) ?_
      refine lv_ishr hx hb dX1_firstLiteral_54 ?_
      refine lv_iconst (v := 1) hx hb dX1_firstLiteral_55 (by decide) ?_
      refine lv_iand hx hb dX1_firstLiteral_56 ?_
      refine lv_if_ne (tgt := 99) hx hb dX1_firstLiteral_57 (by decide) (fun h3 => ?_) (fun h3 => ?_)
      · have hF := hF.trans (if_neg h3)
        refine lv_iinc (k := 7) (v := (nI (i + 1))) (lv' := [(7, .int (nI (i + 1))), (9, .int (f_countHolding nc mf i (f_openClauses nc mt mf hv vl))), (8, .int (f_countHolding nc mt i (f_openClauses nc mt mf hv vl))), (0, .ref (ad 1)), (1, .int hv), (3, .long (f_openClauses nc mt mf hv vl)), (5, .int lt), (6, .int mo)]) hx hb dX1_firstLiteral_99 hl rfl (xinc _) (by decide) rfl (fun ls hl => ?_)
        refine lv_goto (tgt := 16) hx hb dX1_firstLiteral_102 (by decide) ?_
        exact ih (i + 1) lt mo _ _ _ hF (by omega) hS (lv_sub hl [3, 4, 5, 6, 7, 0] rfl)
      · have hF := hF.trans (if_pos h3)
        refine lv_iload hx hb dX1_firstLiteral_60 (lv_at hl 1 rfl) ?_
        refine lv_iload hx hb dX1_firstLiteral_62 (lv_at hl 0 rfl) ?_
        refine lv_iadd hx hb dX1_firstLiteral_64 ?_
        refine lv_iload hx hb dX1_firstLiteral_65 (lv_at hl 6 rfl) ?_
        refine lv_icmp_le (tgt := 99) hx hb dX1_firstLiteral_67 (by decide) (fun h4 => ?_) (fun h4 => ?_)
        · have hF := hF.trans (if_pos h4)
          refine lv_iinc (k := 7) (v := (nI (i + 1))) (lv' := [(7, .int (nI (i + 1))), (9, .int (f_countHolding nc mf i (f_openClauses nc mt mf hv vl))), (8, .int (f_countHolding nc mt i (f_openClauses nc mt mf hv vl))), (0, .ref (ad 1)), (1, .int hv), (3, .long (f_openClauses nc mt mf hv vl)), (5, .int lt), (6, .int mo)]) hx hb dX1_firstLiteral_99 hl rfl (xinc _) (by decide) rfl (fun ls hl => ?_)
          refine lv_goto (tgt := 16) hx hb dX1_firstLiteral_102 (by decide) ?_
          exact ih (i + 1) lt mo _ _ _ hF (by omega) hS (lv_sub hl [3, 4, 5, 6, 7, 0] rfl)
        · have hF := hF.trans (if_neg h4)
          refine lv_iload hx hb dX1_firstLiteral_70 (lv_at hl 1 rfl) ?_
          refine lv_iload hx hb dX1_firstLiteral_72 (lv_at hl 0 rfl) ?_
          refine lv_iadd hx hb dX1_firstLiteral_74 ?_
          refine lv_istore (lv' := [(6, .int ((f_countHolding nc mt i (f_openClauses nc mt mf hv vl)) + (f_countHolding nc mf i (f_openClauses nc mt mf hv vl)))), (9, .int (f_countHolding nc mf i (f_openClauses nc mt mf hv vl))), (8, .int (f_countHolding nc mt i (f_openClauses nc mt mf hv vl))), (0, .ref (ad 1)), (1, .int hv), (3, .long (f_openClauses nc mt mf hv vl)), (5, .int lt), (7, .int (nI i))]) hx hb dX1_firstLiteral_75 hl (by decide) rfl (fun ls hl => ?_)
          refine lv_iload hx hb dX1_firstLiteral_77 (lv_at hl 1 rfl) ?_
          refine lv_iload hx hb dX1_firstLiteral_79 (lv_at hl 2 rfl) ?_
          refine lv_icmp_le (tgt := 93) hx hb dX1_firstLiteral_81 (by decide) (fun h5 => ?_) (fun h5 => ?_)
          · have hF := hF.trans (if_pos h5)
            refine lv_iconst (v := 2) hx hb dX1_firstLiteral_93 (by decide) ?_
            refine lv_iload hx hb dX1_firstLiteral_94 (lv_at hl 7 rfl) ?_
            refine lv_imul hx hb dX1_firstLiteral_96 ?_
            refine lv_istore (lv' := [(5, .int (2 * (nI i))), (6, .int ((f_countHolding nc mt i (f_openClauses nc mt mf hv vl)) + (f_countHolding nc mf i (f_openClauses nc mt mf hv vl)))), (9, .int (f_countHolding nc mf i (f_openClauses nc mt mf hv vl))), (8, .int (f_countHolding nc mt i (f_openClauses nc mt mf hv vl))), (0, .ref (ad 1)), (1, .int hv), (3, .long (f_openClauses nc mt mf hv vl)), (7, .int (nI i))]) hx hb dX1_firstLiteral_97 hl (by decide) rfl (fun ls hl => ?_)
            refine lv_iinc (k := 7) (v := (nI (i + 1))) (lv' := [(7, .int (nI (i + 1))), (5, .int (2 * (nI i))), (6, .int ((f_countHolding nc mt i (f_openClauses nc mt mf hv vl)) + (f_countHolding nc mf i (f_openClauses nc mt mf hv vl)))), (9, .int (f_countHolding nc mf i (f_openClauses nc mt mf hv vl))), (8, .int (f_countHolding nc mt i (f_openClauses nc mt mf hv vl))), (0, .ref (ad 1)), (1, .int hv), (3, .long (f_openClauses nc mt mf hv vl))]) hx hb dX1_firstLiteral_99 hl rfl (xinc _) (by decide) rfl (fun ls hl => ?_)
            refine lv_goto (tgt := 16) hx hb dX1_firstLiteral_102 (by decide) ?_
            exact ih (i + 1) (2 * (nI i)) ((f_countHolding nc mt i (f_openClauses nc mt mf hv vl)) + (f_countHolding nc mf i (f_openClauses nc mt mf hv vl))) _ _ _ hF (by omega) hS (lv_sub hl [5, 6, 7, 1, 2, 0] rfl)
          · have hF := hF.trans (if_neg h5)
            refine lv_iconst (v := 2) hx hb dX1_firstLiteral_84 (by decide) ?_
            refine lv_iload hx hb dX1_firstLiteral_85 (lv_at hl 7 rfl) ?_
            refine lv_imul hx hb dX1_firstLiteral_87 ?_
            refine lv_iconst (v := 1) hx hb dX1_firstLiteral_88 (by decide) ?_
            refine lv_iadd hx hb dX1_firstLiteral_89 ?_
            refine lv_goto (tgt := 97) hx hb dX1_firstLiteral_90 (by decide) ?_
            refine lv_istore (lv' := [(5, .int ((2 * (nI i)) + 1)), (6, .int ((f_countHolding nc mt i (f_openClauses nc mt mf hv vl)) + (f_countHolding nc mf i (f_openClauses nc mt mf hv vl)))), (9, .int (f_countHolding nc mf i (f_openClauses nc mt mf hv vl))), (8, .int (f_countHolding nc mt i (f_openClauses nc mt mf hv vl))), (0, .ref (ad 1)), (1, .int hv), (3, .long (f_openClauses nc mt mf hv vl)), (7, .int (nI i))]) hx hb dX1_firstLiteral_97 hl (by decide) rfl (fun ls hl => ?_)
            refine lv_iinc (k := 7) (v := (nI (i + 1))) (lv' := [(7, .int (nI (i + 1))), (5, .int ((2 * (nI i)) + 1)), (6, .int ((f_countHolding nc mt i (f_openClauses nc mt mf hv vl)) + (f_countHolding nc mf i (f_openClauses nc mt mf hv vl)))), (9, .int (f_countHolding nc mf i (f_openClauses nc mt mf hv vl))), (8, .int (f_countHolding nc mt i (f_openClauses nc mt mf hv vl))), (0, .ref (ad 1)), (1, .int hv), (3, .long (f_openClauses nc mt mf hv vl))]) hx hb dX1_firstLiteral_99 hl rfl (xinc _) (by decide) rfl (fun ls hl => ?_)
            refine lv_goto (tgt := 16) hx hb dX1_firstLiteral_102 (by decide) ?_
            exact ih (i + 1) ((2 * (nI i)) + 1) ((f_countHolding nc mt i (f_openClauses nc mt mf hv vl)) + (f_countHolding nc mf i (f_openClauses nc mt mf hv vl))) _ _ _ hF (by omega) hS (lv_sub hl [5, 6, 7, 1, 2, 0] rfl)
  exact lp16 nv 0 (-1) (-1) _ _ _ hF (by omega) hS (lv_sub hl [4, 5, 3, 2, 1, 0] rfl)
end
section
def f_add (nc : Nat) (mt mf wt : Nat → Int32) (w tb fb : Int32) : Int32 × Nat × (Nat → Int32) × (Nat → Int32) × (Nat → Int32) :=
  if (nI nc) < 40 then
    ((nI nc), ((nc + 1), (upd mt nc tb), (upd mf nc fb), (upd wt nc w)))
  else
    ((-1), (nc, mt, mf, wt))
def f_replaceWeight (nc : Nat) (mt mf wt : Nat → Int32) (k w : Int32) : Int32 × Nat × (Nat → Int32) × (Nat → Int32) × (Nat → Int32) :=
  ((wt k.toNatClampNeg), (nc, mt, mf, (upd wt k.toNatClampNeg w)))
set_option maxHeartbeats 4000000 in
set_option maxRecDepth 100000 in
theorem c_add (l : Launch) (dC : Nat → ClassId) (dI : Nat → Nat → Nat) (cI cL cZ : ClassId) (ad : Nat → Nat) (hinj : xI ad 15) (nv : Nat) (av : Int32) (nc : Nat) (mt mf wt : Nat → Int32) (hnc : nc ≤ 40) (w tb fb : Int32) : Met l yX1_add wsX1_add ({ frames := 0, cells := 0, slots := 0, locals := 0 }) (va_Pc [.ref (ad 1), .int w, .int tb, .int fb] (fun U => va_P (dC, dI) vwCl [(ad 1, .inr (1, [.int (nI nv), .int av, .int (nI nc), .ref (ad 2), .ref (ad 3), .ref (ad 4)])), (ad 2, .inl (cI, 40, .inl mt)), (ad 3, .inl (cI, 40, .inl mf)), (ad 4, .inl (cI, 40, .inl wt))] U.heap ∧ va_K (dC, dI) vwCl [(cI, .int), (cL, .long), (cZ, .boolean)] U)) (va_Qi (fun r u => f_add nc mt mf wt w tb fb = (r, u)) (xB (dC, dI) vwCl (fun (u : Nat × (Nat → Int32) × (Nat → Int32) × (Nat → Int32)) => match u with | (nc1, mt1, mf1, wt1) => [(ad 1, .inr (1, [.int (nI nv), .int av, .int (nI nc1), .ref (ad 2), .ref (ad 3), .ref (ad 4)])), (ad 2, .inl (cI, 40, .inl mt1)), (ad 3, .inl (cI, 40, .inl mf1)), (ad 4, .inl (cI, 40, .inl wt1))])) (xA ad [1, 2, 3, 4])) 0 0 (xA ad [1, 2, 3, 4]) := by
  refine Met.ofW (cc := cX1_add) (maxL := 5) (ret := (some .int)) (by decide) rfl ?_
  intro p e s m args below meth c s₁ B hml hvv
  obtain ⟨rfl, hP0, hK⟩ := hvv
  have hx := B.exec
  have hb := B.bytes
  have hr := B.returns
  have hts := atoms_spec (ws := wsX1_add) B.pre
  have hown : s.vm.findClass RX1 = some m.cls := findClass_of_methodNamed B.named
  have hlocks := B.notSynchronized
  have hw0 : (.fieldLink RX1 28 "WeightedClauses$Formula" "clauseCount" "I" : Cond).before _ s = true := hts _ (List.mem_cons_of_mem _ wd_72)
  have hw1 : (.fieldLink RX1 18 "WeightedClauses$Formula" "weights" "[I" : Cond).before _ s = true := hts _ (List.mem_cons_of_mem _ wd_77)
  have hw2 : (.fieldLink RX1 9 "WeightedClauses$Formula" "makesTrue" "[I" : Cond).before _ s = true := hts _ (List.mem_cons_of_mem _ wd_75)
  have hw3 : (.fieldLink RX1 15 "WeightedClauses$Formula" "makesFalse" "[I" : Cond).before _ s = true := hts _ (List.mem_cons_of_mem _ wd_76)
  have hP : va_P (dC, dI) vwCl [(ad 1, .inr (1, [.int (nI nv), .int av, .int (nI nc), .ref (ad 2), .ref (ad 3), .ref (ad 4)])), (ad 2, .inl (cI, 40, .inl mt)), (ad 3, .inl (cI, 40, .inl mf)), (ad 4, .inl (cI, 40, .inl wt))] s.heap := hP0.sub [0, 1, 2, 3] rfl
  have hS : va_S (xA ad [1, 2, 3, 4]) s.heap s.heap [] := va_S.rf
  have hl := lv_entry [.ref (ad 1), .int w, .int tb, .int fb] (n := 5) (Nat.le_of_ble_eq_true rfl)
  rw [lg_entry_eq]
  generalize (lg_sl [.ref (ad 1), .int w, .int tb, .int fb] ++ List.replicate (5 - (lg_sl [.ref (ad 1), .int w, .int tb, .int fb]).length) Slot.unset).toArray = ls at hl ⊢
  have hl : lv_has ls 5 [(0, .ref (ad 1)), (1, .int w), (2, .int tb), (3, .int fb)] := hl
  have hF := Eq.refl (f_add nc mt mf wt w tb fb)
  conv at hF => rhs; unfold f_add
  refine lv_aload_n hx hb dX1_add_0 rfl (lv_at hl 0 rfl) ?_
  refine va_get (D := (dC, dI)) (ci := 1) (v := .int (nI nc)) (C := RX1) (T := TX1) (N := 6) hx hb hts (xcons inX1) hown hK hP 0 rfl rfl 2 (by decide) hw0 (fun _ h9 => h9) rfl dX1_add_1 ?_
  refine lv_istore (lv' := [(4, .int (nI nc)), (0, .ref (ad 1)), (1, .int w), (2, .int tb), (3, .int fb)]) hx hb dX1_add_4 hl (by decide) rfl (fun ls hl => ?_)
  refine lv_iload hx hb dX1_add_6 (lv_at hl 0 rfl) ?_
  refine lv_bipush (v := 40) hx hb dX1_add_8 (by decide) ?_
  refine lv_icmp_lt (tgt := 15) hx hb dX1_add_10 (by decide) (fun h1 => ?_) (fun h1 => ?_)
  · have hF := hF.trans (if_pos h1)
    have hlt := xlt 40 h1 (by omega) (by decide)
    refine lv_aload_n hx hb dX1_add_15 rfl (lv_at hl 1 rfl) ?_
    refine va_get (D := (dC, dI)) (ci := 1) (v := .ref (ad 4)) (C := RX1) (T := TX1) (N := 6) hx hb hts (xcons inX1) hown hK hP 0 rfl rfl 5 (by decide) hw1 (fun _ h9 => h9) rfl dX1_add_16 ?_
    refine lv_iload hx hb dX1_add_19 (lv_at hl 0 rfl) ?_
    refine lv_iload_n hx hb dX1_add_21 rfl (lv_at hl 2 rfl) ?_
    refine xr_iast hx hb hK hP (xD hinj [1, 2, 3, 4] rfl (by decide) (by decide)) hS 3 0 rfl rfl nc (by omega) (by omega) dX1_add_22 (fun H locs hP hS => ?_)
    have hP : va_P (dC, dI) vwCl [(ad 1, .inr (1, [.int (nI nv), .int av, .int (nI nc), .ref (ad 2), .ref (ad 3), .ref (ad 4)])), (ad 2, .inl (cI, 40, .inl mt)), (ad 3, .inl (cI, 40, .inl mf)), (ad 4, .inl (cI, 40, .inl (upd wt nc w)))] H := hP
    refine lv_aload_n hx hb dX1_add_23 rfl (lv_at hl 1 rfl) ?_
    refine va_get (D := (dC, dI)) (ci := 1) (v := .ref (ad 2)) (C := RX1) (T := TX1) (N := 6) hx hb hts (xcons inX1) hown hK hP 0 rfl rfl 3 (by decide) hw2 (fun _ h9 => h9) rfl dX1_add_24 ?_
    refine lv_iload hx hb dX1_add_27 (lv_at hl 0 rfl) ?_
    refine lv_iload_n hx hb dX1_add_29 rfl (lv_at hl 3 rfl) ?_
    refine xr_iast hx hb hK hP (xD hinj [1, 2, 3, 4] rfl (by decide) (by decide)) hS 1 0 rfl rfl nc (by omega) (by omega) dX1_add_30 (fun H locs hP hS => ?_)
    have hP : va_P (dC, dI) vwCl [(ad 1, .inr (1, [.int (nI nv), .int av, .int (nI nc), .ref (ad 2), .ref (ad 3), .ref (ad 4)])), (ad 2, .inl (cI, 40, .inl (upd mt nc tb))), (ad 3, .inl (cI, 40, .inl mf)), (ad 4, .inl (cI, 40, .inl (upd wt nc w)))] H := hP
    refine lv_aload_n hx hb dX1_add_31 rfl (lv_at hl 1 rfl) ?_
    refine va_get (D := (dC, dI)) (ci := 1) (v := .ref (ad 3)) (C := RX1) (T := TX1) (N := 6) hx hb hts (xcons inX1) hown hK hP 0 rfl rfl 4 (by decide) hw3 (fun _ h9 => h9) rfl dX1_add_32 ?_
    refine lv_iload hx hb dX1_add_35 (lv_at hl 0 rfl) ?_
    refine lv_iload_n hx hb dX1_add_37 rfl (lv_at hl 4 rfl) ?_
    refine xr_iast hx hb hK hP (xD hinj [1, 2, 3, 4] rfl (by decide) (by decide)) hS 2 0 rfl rfl nc (by omega) (by omega) dX1_add_38 (fun H locs hP hS => ?_)
    have hP : va_P (dC, dI) vwCl [(ad 1, .inr (1, [.int (nI nv), .int av, .int (nI nc), .ref (ad 2), .ref (ad 3), .ref (ad 4)])), (ad 2, .inl (cI, 40, .inl (upd mt nc tb))), (ad 3, .inl (cI, 40, .inl (upd mf nc fb))), (ad 4, .inl (cI, 40, .inl (upd wt nc w)))] H := hP
    refine lv_aload_n hx hb dX1_add_39 rfl (lv_at hl 1 rfl) ?_
    refine lv_iload hx hb dX1_add_40 (lv_at hl 0 rfl) ?_
    refine lv_iconst (v := 1) hx hb dX1_add_42 (by decide) ?_
    refine xr_add1 hx hb dX1_add_43 ?_
    refine va_put (D := (dC, dI)) (ci := 1) (v := .int (nI (nc + 1))) (ty := .int) (C := RX1) (T := TX1) (N := 6) hx hb hts (xcons inX1) tyX1 tyX1_ok nX1 hown hK hP (xD hinj [1, 2, 3, 4] rfl (by decide) (by decide)) hS 0 rfl rfl 2 (by decide) hw0 (fun _ h9 => h9) rfl (by decide +kernel) rfl rfl (Nat.le_of_ble_eq_true rfl) dX1_add_44 (fun H locs hP _ hS => ?_)
    have hP : va_P (dC, dI) vwCl [(ad 1, .inr (1, [.int (nI nv), .int av, .int (nI (nc + 1)), .ref (ad 2), .ref (ad 3), .ref (ad 4)])), (ad 2, .inl (cI, 40, .inl (upd mt nc tb))), (ad 3, .inl (cI, 40, .inl (upd mf nc fb))), (ad 4, .inl (cI, 40, .inl (upd wt nc w)))] H := hP
    refine lv_iload hx hb dX1_add_47 (lv_at hl 0 rfl) ?_
    exact W.iret (v := (nI nc)) hx hb hr (fun t ht hW => ⟨⟨_, ((nc + 1), (upd mt nc tb), (upd mf nc fb), (upd wt nc w)), rfl, hF, xBi ht hP⟩, hS.F ht⟩) hS.2.2 dX1_add_49
  · have hF := hF.trans (if_neg h1)
    refine lv_iconst (v := (-1)) hx hb dX1_add_13 (by decide) ?_
    exact W.iret (v := (-1)) hx hb hr (fun t ht hW => ⟨⟨_, (nc, mt, mf, wt), rfl, hF, xBi ht hP⟩, hS.F ht⟩) hS.2.2 dX1_add_14
set_option maxHeartbeats 4000000 in
set_option maxRecDepth 100000 in
theorem c_replaceWeight (l : Launch) (dC : Nat → ClassId) (dI : Nat → Nat → Nat) (cI cL cZ : ClassId) (ad : Nat → Nat) (hinj : xI ad 15) (nv : Nat) (av : Int32) (nc : Nat) (mt mf wt : Nat → Int32) (hnc : nc ≤ 40) (k w : Int32) (hk1 : ¬ k < 0) (hk2 : ¬ nI nc ≤ k) : Met l yX1_replaceWeight wsX1_replaceWeight ({ frames := 0, cells := 0, slots := 0, locals := 0 }) (va_Pc [.ref (ad 1), .int k, .int w] (fun U => va_P (dC, dI) vwCl [(ad 1, .inr (1, [.int (nI nv), .int av, .int (nI nc), .ref (ad 2), .ref (ad 3), .ref (ad 4)])), (ad 2, .inl (cI, 40, .inl mt)), (ad 3, .inl (cI, 40, .inl mf)), (ad 4, .inl (cI, 40, .inl wt))] U.heap ∧ va_K (dC, dI) vwCl [(cI, .int), (cL, .long), (cZ, .boolean)] U)) (va_Qi (fun r u => f_replaceWeight nc mt mf wt k w = (r, u)) (xB (dC, dI) vwCl (fun (u : Nat × (Nat → Int32) × (Nat → Int32) × (Nat → Int32)) => match u with | (nc1, mt1, mf1, wt1) => [(ad 1, .inr (1, [.int (nI nv), .int av, .int (nI nc1), .ref (ad 2), .ref (ad 3), .ref (ad 4)])), (ad 2, .inl (cI, 40, .inl mt1)), (ad 3, .inl (cI, 40, .inl mf1)), (ad 4, .inl (cI, 40, .inl wt1))])) (xA ad [1, 2, 3, 4])) 0 0 (xA ad [1, 2, 3, 4]) := by
  refine Met.ofW (cc := cX1_replaceWeight) (maxL := 4) (ret := (some .int)) (by decide) rfl ?_
  intro p e s m args below meth c s₁ B hml hvv
  obtain ⟨rfl, hP0, hK⟩ := hvv
  have hx := B.exec
  have hb := B.bytes
  have hr := B.returns
  have hts := atoms_spec (ws := wsX1_replaceWeight) B.pre
  have hown : s.vm.findClass RX1 = some m.cls := findClass_of_methodNamed B.named
  have hlocks := B.notSynchronized
  have hw0 : (.fieldLink RX1 18 "WeightedClauses$Formula" "weights" "[I" : Cond).before _ s = true := hts _ (List.mem_cons_of_mem _ wd_77)
  have hP : va_P (dC, dI) vwCl [(ad 1, .inr (1, [.int (nI nv), .int av, .int (nI nc), .ref (ad 2), .ref (ad 3), .ref (ad 4)])), (ad 2, .inl (cI, 40, .inl mt)), (ad 3, .inl (cI, 40, .inl mf)), (ad 4, .inl (cI, 40, .inl wt))] s.heap := hP0.sub [0, 1, 2, 3] rfl
  have hS : va_S (xA ad [1, 2, 3, 4]) s.heap s.heap [] := va_S.rf
  have hl := lv_entry [.ref (ad 1), .int k, .int w] (n := 4) (Nat.le_of_ble_eq_true rfl)
  rw [lg_entry_eq]
  generalize (lg_sl [.ref (ad 1), .int k, .int w] ++ List.replicate (4 - (lg_sl [.ref (ad 1), .int k, .int w]).length) Slot.unset).toArray = ls at hl ⊢
  have hl : lv_has ls 4 [(0, .ref (ad 1)), (1, .int k), (2, .int w)] := hl
  have hF := Eq.refl (f_replaceWeight nc mt mf wt k w)
  conv at hF => rhs; unfold f_replaceWeight
  refine lv_aload_n hx hb dX1_replaceWeight_0 rfl (lv_at hl 0 rfl) ?_
  refine va_get (D := (dC, dI)) (ci := 1) (v := .ref (ad 4)) (C := RX1) (T := TX1) (N := 6) hx hb hts (xcons inX1) hown hK hP 0 rfl rfl 5 (by decide) hw0 (fun _ h9 => h9) rfl dX1_replaceWeight_1 ?_
  refine lv_iload_n hx hb dX1_replaceWeight_4 rfl (lv_at hl 1 rfl) ?_
  refine va_iald hx hb hK hP 3 0 rfl rfl (xin hk1 hk2 (by omega) (by decide)) dX1_replaceWeight_5 ?_
  refine lv_istore_n (lv' := [(3, .int (wt k.toNatClampNeg)), (0, .ref (ad 1)), (1, .int k), (2, .int w)]) hx hb dX1_replaceWeight_6 rfl hl (by decide) rfl (fun ls hl => ?_)
  refine lv_aload_n hx hb dX1_replaceWeight_7 rfl (lv_at hl 1 rfl) ?_
  refine va_get (D := (dC, dI)) (ci := 1) (v := .ref (ad 4)) (C := RX1) (T := TX1) (N := 6) hx hb hts (xcons inX1) hown hK hP 0 rfl rfl 5 (by decide) hw0 (fun _ h9 => h9) rfl dX1_replaceWeight_8 ?_
  refine lv_iload_n hx hb dX1_replaceWeight_11 rfl (lv_at hl 2 rfl) ?_
  refine lv_iload_n hx hb dX1_replaceWeight_12 rfl (lv_at hl 3 rfl) ?_
  refine va_iast hx hb hK hP (xD hinj [1, 2, 3, 4] rfl (by decide) (by decide)) hS 3 0 rfl rfl (xin hk1 hk2 (by omega) (by decide)) dX1_replaceWeight_13 (fun H locs hP _ hS => ?_)
  have hP : va_P (dC, dI) vwCl [(ad 1, .inr (1, [.int (nI nv), .int av, .int (nI nc), .ref (ad 2), .ref (ad 3), .ref (ad 4)])), (ad 2, .inl (cI, 40, .inl mt)), (ad 3, .inl (cI, 40, .inl mf)), (ad 4, .inl (cI, 40, .inl (upd wt k.toNatClampNeg w)))] H := hP
  refine lv_iload_n hx hb dX1_replaceWeight_14 rfl (lv_at hl 0 rfl) ?_
  exact W.iret (v := (wt k.toNatClampNeg)) hx hb hr (fun t ht hW => ⟨⟨_, (nc, mt, mf, (upd wt k.toNatClampNeg w)), rfl, hF, xBi ht hP⟩, hS.F ht⟩) hS.2.2 dX1_replaceWeight_15
end
section
def f_isAvailable (avl : Int64) (i : Nat) : Int32 :=
  if (lg_cmp ((avl >>> ((nI i).toInt64 &&& 63)) &&& 1) 0) = 0 then
    0
  else
    1
def f_firstFalseClause_L (mt mf : Nat → Int32) (avl : Int64) (gh gv : Int32) : Nat → Nat → Int32
  | 0, i =>
    (-1)
  | n + 1, i =>
    if (f_isAvailable avl i) = 0 then
      f_firstFalseClause_L mt mf avl gh gv n (i + 1)
    else
      if (f_isFalse mt mf i gh gv) = 0 then
        f_firstFalseClause_L mt mf avl gh gv n (i + 1)
      else
        (nI i)
def f_firstFalseClause (nc : Nat) (mt mf : Nat → Int32) (avl : Int64) (gh gv : Int32) : Int32 :=
  f_firstFalseClause_L mt mf avl gh gv nc 0
def f_firstUnitClause_L (mt mf : Nat → Int32) (avl : Int64) (gh gv : Int32) : Nat → Nat → Int32
  | 0, i =>
    (-1)
  | n + 1, i =>
    if (f_bitCount (f_withoutValue mt mf i gh)) = 1 then
      if (f_isAvailable avl i) = 0 then
        f_firstUnitClause_L mt mf avl gh gv n (i + 1)
      else
        if (f_isTrue mt mf i gh gv) = 0 then
          (nI i)
        else
          f_firstUnitClause_L mt mf avl gh gv n (i + 1)
    else
      f_firstUnitClause_L mt mf avl gh gv n (i + 1)
def f_firstUnitClause (nc : Nat) (mt mf : Nat → Int32) (avl : Int64) (gh gv : Int32) : Int32 :=
  f_firstUnitClause_L mt mf avl gh gv nc 0
set_option maxHeartbeats 4000000 in
set_option maxRecDepth 100000 in
theorem c_isAvailable (l : Launch) (dC : Nat → ClassId) (dI : Nat → Nat → Nat) (cI cL cZ : ClassId) (ad : Nat → Nat) (hinj : xI ad 15) (ss : Nat → Int64) (sc : Nat) (avl : Int64) (gh gv : Int32) (sv : Nat → Int32) (sr : Nat → Nat) (st : Nat) (i : Nat) : Met l yX0_isAvailable wsX0_isAvailable ({ frames := 0, cells := 0, slots := 0, locals := 0 }) (va_Pc [.ref (ad 5), .int (nI i)] (fun U => va_P (dC, dI) vwCl [(ad 5, .inr (0, [.ref (ad 1), .ref (ad 6), .int (nI sc), .long avl, .int gh, .int gv, .ref (ad 7), .ref (ad 8), .int (nI st)])), (ad 6, .inl (cL, 40, .inr (.inl ss))), (ad 7, .inl (cI, 10, .inl sv)), (ad 8, .inl (cI, 10, .inl (xnI sr)))] U.heap ∧ va_K (dC, dI) vwCl [(cI, .int), (cL, .long), (cZ, .boolean)] U)) (va_Qi (fun r (_ : Unit) => f_isAvailable avl i = r) (fun _ _ => True) xN) 0 0 xN := by
  refine Met.ofW (cc := cX0_isAvailable) (maxL := 2) (ret := (some .boolean)) (by decide) rfl ?_
  intro p e s m args below meth c s₁ B hml hvv
  obtain ⟨rfl, hP0, hK⟩ := hvv
  have hx := B.exec
  have hb := B.bytes
  have hr := B.returns
  have hts := atoms_spec (ws := wsX0_isAvailable) B.pre
  have hown : s.vm.findClass RX0 = some m.cls := findClass_of_methodNamed B.named
  have hlocks := B.notSynchronized
  have hw0 : (.fieldLink RX0 41 "WeightedClauses$Bounds" "available" "J" : Cond).before _ s = true := hts _ (List.mem_cons_of_mem _ wd_101)
  have hPr : va_P (dC, dI) vwCl [(ad 5, .inr (0, [.ref (ad 1), .ref (ad 6), .int (nI sc), .long avl, .int gh, .int gv, .ref (ad 7), .ref (ad 8), .int (nI st)])), (ad 6, .inl (cL, 40, .inr (.inl ss))), (ad 7, .inl (cI, 10, .inl sv)), (ad 8, .inl (cI, 10, .inl (xnI sr)))] s.heap := hP0.sub [0, 1, 2, 3] rfl
  have hS : va_S xN s.heap s.heap [] := va_S.rf
  have hl := lv_entry [.ref (ad 5), .int (nI i)] (n := 2) (Nat.le_of_ble_eq_true rfl)
  rw [lg_entry_eq]
  generalize (lg_sl [.ref (ad 5), .int (nI i)] ++ List.replicate (2 - (lg_sl [.ref (ad 5), .int (nI i)]).length) Slot.unset).toArray = ls at hl ⊢
  have hl : lv_has ls 2 [(0, .ref (ad 5)), (1, .int (nI i))] := hl
  have hF := Eq.refl (f_isAvailable avl i)
  conv at hF => rhs; unfold f_isAvailable
  refine lv_aload_n hx hb dX0_isAvailable_0 rfl (lv_at hl 0 rfl) ?_
  have hR := xP0 hPr xnN hS
  refine va_get (D := (dC, dI)) (ci := 0) (v := .long avl) (C := RX0) (T := TX0) (N := 9) hx hb hts (xcons inX0) hown hK hR 0 rfl rfl 3 (by decide) hw0 (fun _ h9 => h9) rfl dX0_isAvailable_1 ?_
  refine lv_iload_n hx hb dX0_isAvailable_4 rfl (lv_at hl 1 rfl) ?_
  refine lv_lshr (v := (avl >>> ((nI i).toInt64 &&& 63))) hx hb dX0_isAvailable_5 rfl ?_
  refine lv_lconst (v := 1) hx hb dX0_isAvailable_6 (by decide) ?_
  refine lv_land hx hb dX0_isAvailable_7 ?_
  refine lv_lconst (v := 0) hx hb dX0_isAvailable_8 (by decide) ?_
  refine W.lcmp hx hb dX0_isAvailable_9 ?_
  refine lv_if_eq (tgt := 17) hx hb dX0_isAvailable_10 (by decide) (fun h1 => ?_) (fun h1 => ?_)
  · have hF := hF.trans (if_pos h1)
    refine lv_iconst (v := 0) hx hb dX0_isAvailable_17 (by decide) ?_
    exact W.zret (v := 0) hx hb hr rfl (fun t ht hW => ⟨⟨_, (), rfl, hF, trivial⟩, hS.F ht⟩) hS.2.2 dX0_isAvailable_18
  · have hF := hF.trans (if_neg h1)
    refine lv_iconst (v := 1) hx hb dX0_isAvailable_13 (by decide) ?_
    refine lv_goto (tgt := 18) hx hb dX0_isAvailable_14 (by decide) ?_
    exact W.zret (v := 1) hx hb hr rfl (fun t ht hW => ⟨⟨_, (), rfl, hF, trivial⟩, hS.F ht⟩) hS.2.2 dX0_isAvailable_18
set_option maxHeartbeats 4000000 in
set_option maxRecDepth 100000 in
theorem c_firstFalseClause (l : Launch) (dC : Nat → ClassId) (dI : Nat → Nat → Nat) (cI cL cZ : ClassId) (ad : Nat → Nat) (hinj : xI ad 15) (nv : Nat) (av : Int32) (nc : Nat) (mt mf wt : Nat → Int32) (ss : Nat → Int64) (sc : Nat) (avl : Int64) (gh gv : Int32) (sv : Nat → Int32) (sr : Nat → Nat) (st : Nat) (hnc : nc ≤ 40) : Met l yX0_firstFalseClause wsX0_firstFalseClause ({ frames := 1, cells := 0, slots := 0, locals := 24 }) (va_Pc [.ref (ad 5)] (fun U => va_P (dC, dI) vwCl [(ad 1, .inr (1, [.int (nI nv), .int av, .int (nI nc), .ref (ad 2), .ref (ad 3), .ref (ad 4)])), (ad 2, .inl (cI, 40, .inl mt)), (ad 3, .inl (cI, 40, .inl mf)), (ad 4, .inl (cI, 40, .inl wt)), (ad 5, .inr (0, [.ref (ad 1), .ref (ad 6), .int (nI sc), .long avl, .int gh, .int gv, .ref (ad 7), .ref (ad 8), .int (nI st)])), (ad 6, .inl (cL, 40, .inr (.inl ss))), (ad 7, .inl (cI, 10, .inl sv)), (ad 8, .inl (cI, 10, .inl (xnI sr)))] U.heap ∧ va_K (dC, dI) vwCl [(cI, .int), (cL, .long), (cZ, .boolean)] U)) (va_Qi (fun r (_ : Unit) => f_firstFalseClause nc mt mf avl gh gv = r) (fun _ _ => True) xN) 0 0 xN := by
  refine Met.ofW (cc := cX0_firstFalseClause) (maxL := 2) (ret := (some .int)) (by decide) rfl ?_
  intro p e s m args below meth c s₁ B hml hvv
  obtain ⟨rfl, hP0, hK⟩ := hvv
  have hx := B.exec
  have hb := B.bytes
  have hr := B.returns
  have hts := atoms_spec (ws := wsX0_firstFalseClause) B.pre
  have hown : s.vm.findClass RX0 = some m.cls := findClass_of_methodNamed B.named
  have hlocks := B.notSynchronized
  have hw0 : (.fieldLink RX0 22 "WeightedClauses$Bounds" "formula" "LWeightedClauses$Formula;" : Cond).before _ s = true := hts _ (List.mem_cons_of_mem _ wd_98)
  have hw1 : (.fieldLink RX0 78 "WeightedClauses$Formula" "clauseCount" "I" : Cond).before _ s = true := hts _ (List.mem_cons_of_mem _ wd_74)
  have hw2 : (.fieldLink RX0 54 "WeightedClauses$Bounds" "grownHave" "I" : Cond).before _ s = true := hts _ (List.mem_cons_of_mem _ wd_102)
  have hw3 : (.fieldLink RX0 57 "WeightedClauses$Bounds" "grownValues" "I" : Cond).before _ s = true := hts _ (List.mem_cons_of_mem _ wd_103)
  have hPr : va_P (dC, dI) vwCl [(ad 1, .inr (1, [.int (nI nv), .int av, .int (nI nc), .ref (ad 2), .ref (ad 3), .ref (ad 4)])), (ad 2, .inl (cI, 40, .inl mt)), (ad 3, .inl (cI, 40, .inl mf)), (ad 4, .inl (cI, 40, .inl wt)), (ad 5, .inr (0, [.ref (ad 1), .ref (ad 6), .int (nI sc), .long avl, .int gh, .int gv, .ref (ad 7), .ref (ad 8), .int (nI st)])), (ad 6, .inl (cL, 40, .inr (.inl ss))), (ad 7, .inl (cI, 10, .inl sv)), (ad 8, .inl (cI, 10, .inl (xnI sr)))] s.heap := hP0.sub [0, 1, 2, 3, 4, 5, 6, 7] rfl
  have hS : va_S xN s.heap s.heap [] := va_S.rf
  have hl := lv_entry [.ref (ad 5)] (n := 2) (Nat.le_of_ble_eq_true rfl)
  rw [lg_entry_eq]
  generalize (lg_sl [.ref (ad 5)] ++ List.replicate (2 - (lg_sl [.ref (ad 5)]).length) Slot.unset).toArray = ls at hl ⊢
  have hl : lv_has ls 2 [(0, .ref (ad 5))] := hl
  have hF := Eq.refl (f_firstFalseClause nc mt mf avl gh gv)
  conv at hF => rhs; unfold f_firstFalseClause
  refine lv_iconst (v := 0) hx hb dX0_firstFalseClause_0 (by decide) ?_
  refine lv_istore_n (lv' := [(1, .int 0), (0, .ref (ad 5))]) hx hb dX0_firstFalseClause_1 rfl hl (by decide) rfl (fun ls hl => ?_)
  have lp2 : ∀ (n : Nat) (i : Nat) (H : Heap) (locs : List Loc) (ls : Array Slot), f_firstFalseClause nc mt mf avl gh gv = f_firstFalseClause_L mt mf avl gh gv n i → i + n = nc → va_S xN s.heap H locs → lv_has ls 2 [(0, .ref (ad 5)), (1, .int (nI i))] → W p l e (headSpec wsX0_firstFalseClause ({ frames := 1, cells := 0, slots := 0, locals := 24 })).room s m [.ref (ad 5)].toArray below meth c H locs 0 0 (MQ below (va_Qi (fun r (_ : Unit) => f_firstFalseClause nc mt mf avl gh gv = r) (fun _ _ => True) xN) [.ref (ad 5)].toArray s 0 0 xN) (F0 m 2 ls []) := by
    intro n
    induction n with
    | zero =>
      intro i H locs ls hF hil hS hl
      rw [f_firstFalseClause_L] at hF
      refine lv_iload_n hx hb dX0_firstFalseClause_2 rfl (lv_at hl 1 rfl) ?_
      refine lv_aload_n hx hb dX0_firstFalseClause_3 rfl (lv_at hl 0 rfl) ?_
      have hR := xP0 hPr xnN hS
      refine va_get (D := (dC, dI)) (ci := 0) (v := .ref (ad 1)) (C := RX0) (T := TX0) (N := 9) hx hb hts (xcons inX0) hown hK hR 4 rfl rfl 0 (by decide) hw0 (fun _ h9 => h9) rfl dX0_firstFalseClause_4 ?_
      refine va_get (D := (dC, dI)) (ci := 1) (v := .int (nI nc)) (C := RX1) (T := TX1) (N := 6) hx hb hts (xcons inX1) hown hK hR 0 rfl rfl 2 (by decide) hw1 (fun _ h9 => h9) rfl dX0_firstFalseClause_7 ?_
      refine lv_icmp_ge (tgt := 48) hx hb dX0_firstFalseClause_10 (by decide) (fun h1 => ?_) (fun h1 => absurd (nI_le (by omega) (by omega)) h1)
      refine lv_iconst (v := (-1)) hx hb dX0_firstFalseClause_48 (by decide) ?_
      exact W.iret (v := (-1)) hx hb hr (fun t ht hW => ⟨⟨_, (), rfl, hF, trivial⟩, hS.F ht⟩) hS.2.2 dX0_firstFalseClause_49
    | succ n ih =>
      intro i H locs ls hF hil hS hl
      rw [f_firstFalseClause_L] at hF
      refine lv_iload_n hx hb dX0_firstFalseClause_2 rfl (lv_at hl 1 rfl) ?_
      refine lv_aload_n hx hb dX0_firstFalseClause_3 rfl (lv_at hl 0 rfl) ?_
      have hR := xP0 hPr xnN hS
      refine va_get (D := (dC, dI)) (ci := 0) (v := .ref (ad 1)) (C := RX0) (T := TX0) (N := 9) hx hb hts (xcons inX0) hown hK hR 4 rfl rfl 0 (by decide) hw0 (fun _ h9 => h9) rfl dX0_firstFalseClause_4 ?_
      refine va_get (D := (dC, dI)) (ci := 1) (v := .int (nI nc)) (C := RX1) (T := TX1) (N := 6) hx hb hts (xcons inX1) hown hK hR 0 rfl rfl 2 (by decide) hw1 (fun _ h9 => h9) rfl dX0_firstFalseClause_7 ?_
      refine lv_icmp_ge (tgt := 48) hx hb dX0_firstFalseClause_10 (by decide) (fun h2 => absurd h2 (nI_ge (by omega) (by omega))) (fun h2 => ?_)
      refine lv_aload_n hx hb dX0_firstFalseClause_13 rfl (lv_at hl 0 rfl) ?_
      refine lv_iload_n hx hb dX0_firstFalseClause_14 rfl (lv_at hl 1 rfl) ?_
      refine xro_i (va_runV (As := [.int (nI i)]) (rest := []) ⟨hx, hb, hml, hown, hts⟩ (c_isAvailable l dC dI cI cL cZ ad hinj ss sc avl gh gv sv sr st i) (xcwV 1 hts wd_273 wd_37 wd_270 wd_272 wd_5 rfl rfl (by decide +kernel) ⟨Nat.le_of_ble_eq_true rfl, Nat.le_of_ble_eq_true rfl⟩) (xpreV (va_recv hK hR rfl (q0 := 4) rfl) (hR.sub [4, 5, 6, 7] rfl) hK) rfl rfl hl.1 rfl (lv_room (Nat.le_of_ble_eq_true rfl)) dX0_firstFalseClause_15 ⟨Nat.le_of_ble_eq_true rfl, Nat.le_of_ble_eq_true rfl⟩) hS (fun H locs hk hS => ?_)
      refine lv_if_eq (tgt := 42) hx hb dX0_firstFalseClause_18 (by decide) (fun h3 => ?_) (fun h3 => ?_)
      · have hF := hF.trans (if_pos h3)
        refine lv_iinc (k := 1) (v := (nI (i + 1))) (lv' := [(1, .int (nI (i + 1))), (0, .ref (ad 5))]) hx hb dX0_firstFalseClause_42 hl rfl (xinc _) (by decide) rfl (fun ls hl => ?_)
        refine lv_goto (tgt := 2) hx hb dX0_firstFalseClause_45 (by decide) ?_
        exact ih (i + 1) _ _ _ hF (by omega) hS (lv_sub hl [1, 0] rfl)
      · have hF := hF.trans (if_neg h3)
        refine lv_aload_n hx hb dX0_firstFalseClause_21 rfl (lv_at hl 0 rfl) ?_
        have hR := xP0 hPr xnN hS
        refine va_get (D := (dC, dI)) (ci := 0) (v := .ref (ad 1)) (C := RX0) (T := TX0) (N := 9) hx hb hts (xcons inX0) hown hK hR 4 rfl rfl 0 (by decide) hw0 (fun _ h9 => h9) rfl dX0_firstFalseClause_22 ?_
        refine lv_iload_n hx hb dX0_firstFalseClause_25 rfl (lv_at hl 1 rfl) ?_
        refine lv_aload_n hx hb dX0_firstFalseClause_26 rfl (lv_at hl 0 rfl) ?_
        refine va_get (D := (dC, dI)) (ci := 0) (v := .int gh) (C := RX0) (T := TX0) (N := 9) hx hb hts (xcons inX0) hown hK hR 4 rfl rfl 4 (by decide) hw2 (fun _ h9 => h9) rfl dX0_firstFalseClause_27 ?_
        refine lv_aload_n hx hb dX0_firstFalseClause_30 rfl (lv_at hl 0 rfl) ?_
        refine va_get (D := (dC, dI)) (ci := 0) (v := .int gv) (C := RX0) (T := TX0) (N := 9) hx hb hts (xcons inX0) hown hK hR 4 rfl rfl 5 (by decide) hw3 (fun _ h9 => h9) rfl dX0_firstFalseClause_31 ?_
        refine xro_i (va_runV (As := [.int (nI i), .int gh, .int gv]) (rest := []) ⟨hx, hb, hml, hown, hts⟩ (c_isFalse l dC dI cI cL cZ ad hinj nv av nc mt mf wt i (by omega) gh gv) (xcwV 3 hts wd_237 wd_35 wd_274 wd_235 wd_236 rfl rfl (by decide +kernel) ⟨Nat.le_of_ble_eq_true rfl, Nat.le_of_ble_eq_true rfl⟩) (xpreV (va_recv hK hR rfl (q0 := 0) rfl) (hR.sub [0, 1, 2, 3] rfl) hK) rfl rfl hl.1 rfl (lv_room (Nat.le_of_ble_eq_true rfl)) dX0_firstFalseClause_34 ⟨Nat.le_of_ble_eq_true rfl, Nat.le_of_ble_eq_true rfl⟩) hS (fun H locs hk hS => ?_)
        refine lv_if_eq (tgt := 42) hx hb dX0_firstFalseClause_37 (by decide) (fun h4 => ?_) (fun h4 => ?_)
        · have hF := hF.trans (if_pos h4)
          refine lv_iinc (k := 1) (v := (nI (i + 1))) (lv' := [(1, .int (nI (i + 1))), (0, .ref (ad 5))]) hx hb dX0_firstFalseClause_42 hl rfl (xinc _) (by decide) rfl (fun ls hl => ?_)
          refine lv_goto (tgt := 2) hx hb dX0_firstFalseClause_45 (by decide) ?_
          exact ih (i + 1) _ _ _ hF (by omega) hS (lv_sub hl [1, 0] rfl)
        · have hF := hF.trans (if_neg h4)
          refine lv_iload_n hx hb dX0_firstFalseClause_40 rfl (lv_at hl 1 rfl) ?_
          exact W.iret (v := (nI i)) hx hb hr (fun t ht hW => ⟨⟨_, (), rfl, hF, trivial⟩, hS.F ht⟩) hS.2.2 dX0_firstFalseClause_41
  exact lp2 nc 0 _ _ _ hF (by omega) hS (lv_sub hl [1, 0] rfl)
set_option maxHeartbeats 4000000 in
set_option maxRecDepth 100000 in
theorem c_firstUnitClause (l : Launch) (dC : Nat → ClassId) (dI : Nat → Nat → Nat) (cI cL cZ : ClassId) (ad : Nat → Nat) (hinj : xI ad 15) (nv : Nat) (av : Int32) (nc : Nat) (mt mf wt : Nat → Int32) (ss : Nat → Int64) (sc : Nat) (avl : Int64) (gh gv : Int32) (sv : Nat → Int32) (sr : Nat → Nat) (st : Nat) (hnc : nc ≤ 40) : Met l yX0_firstUnitClause wsX0_firstUnitClause ({ frames := 1, cells := 0, slots := 0, locals := 23 }) (va_Pc [.ref (ad 5)] (fun U => va_P (dC, dI) vwCl [(ad 1, .inr (1, [.int (nI nv), .int av, .int (nI nc), .ref (ad 2), .ref (ad 3), .ref (ad 4)])), (ad 2, .inl (cI, 40, .inl mt)), (ad 3, .inl (cI, 40, .inl mf)), (ad 4, .inl (cI, 40, .inl wt)), (ad 5, .inr (0, [.ref (ad 1), .ref (ad 6), .int (nI sc), .long avl, .int gh, .int gv, .ref (ad 7), .ref (ad 8), .int (nI st)])), (ad 6, .inl (cL, 40, .inr (.inl ss))), (ad 7, .inl (cI, 10, .inl sv)), (ad 8, .inl (cI, 10, .inl (xnI sr)))] U.heap ∧ va_K (dC, dI) vwCl [(cI, .int), (cL, .long), (cZ, .boolean)] U)) (va_Qi (fun r (_ : Unit) => f_firstUnitClause nc mt mf avl gh gv = r) (fun _ _ => True) xN) 0 0 xN := by
  refine Met.ofW (cc := cX0_firstUnitClause) (maxL := 3) (ret := (some .int)) (by decide) rfl ?_
  intro p e s m args below meth c s₁ B hml hvv
  obtain ⟨rfl, hP0, hK⟩ := hvv
  have hx := B.exec
  have hb := B.bytes
  have hr := B.returns
  have hts := atoms_spec (ws := wsX0_firstUnitClause) B.pre
  have hown : s.vm.findClass RX0 = some m.cls := findClass_of_methodNamed B.named
  have hlocks := B.notSynchronized
  have hw0 : (.fieldLink RX0 22 "WeightedClauses$Bounds" "formula" "LWeightedClauses$Formula;" : Cond).before _ s = true := hts _ (List.mem_cons_of_mem _ wd_98)
  have hw1 : (.fieldLink RX0 78 "WeightedClauses$Formula" "clauseCount" "I" : Cond).before _ s = true := hts _ (List.mem_cons_of_mem _ wd_74)
  have hw2 : (.fieldLink RX0 54 "WeightedClauses$Bounds" "grownHave" "I" : Cond).before _ s = true := hts _ (List.mem_cons_of_mem _ wd_102)
  have hw3 : (.fieldLink RX0 57 "WeightedClauses$Bounds" "grownValues" "I" : Cond).before _ s = true := hts _ (List.mem_cons_of_mem _ wd_103)
  have hPr : va_P (dC, dI) vwCl [(ad 1, .inr (1, [.int (nI nv), .int av, .int (nI nc), .ref (ad 2), .ref (ad 3), .ref (ad 4)])), (ad 2, .inl (cI, 40, .inl mt)), (ad 3, .inl (cI, 40, .inl mf)), (ad 4, .inl (cI, 40, .inl wt)), (ad 5, .inr (0, [.ref (ad 1), .ref (ad 6), .int (nI sc), .long avl, .int gh, .int gv, .ref (ad 7), .ref (ad 8), .int (nI st)])), (ad 6, .inl (cL, 40, .inr (.inl ss))), (ad 7, .inl (cI, 10, .inl sv)), (ad 8, .inl (cI, 10, .inl (xnI sr)))] s.heap := hP0.sub [0, 1, 2, 3, 4, 5, 6, 7] rfl
  have hS : va_S xN s.heap s.heap [] := va_S.rf
  have hl := lv_entry [.ref (ad 5)] (n := 3) (Nat.le_of_ble_eq_true rfl)
  rw [lg_entry_eq]
  generalize (lg_sl [.ref (ad 5)] ++ List.replicate (3 - (lg_sl [.ref (ad 5)]).length) Slot.unset).toArray = ls at hl ⊢
  have hl : lv_has ls 3 [(0, .ref (ad 5))] := hl
  have hF := Eq.refl (f_firstUnitClause nc mt mf avl gh gv)
  conv at hF => rhs; unfold f_firstUnitClause
  refine lv_iconst (v := 0) hx hb dX0_firstUnitClause_0 (by decide) ?_
  refine lv_istore_n (lv' := [(1, .int 0), (0, .ref (ad 5))]) hx hb dX0_firstUnitClause_1 rfl hl (by decide) rfl (fun ls hl => ?_)
  have lp2 : ∀ (n : Nat) (i : Nat) (H : Heap) (locs : List Loc) (ls : Array Slot), f_firstUnitClause nc mt mf avl gh gv = f_firstUnitClause_L mt mf avl gh gv n i → i + n = nc → va_S xN s.heap H locs → lv_has ls 3 [(0, .ref (ad 5)), (1, .int (nI i))] → W p l e (headSpec wsX0_firstUnitClause ({ frames := 1, cells := 0, slots := 0, locals := 23 })).room s m [.ref (ad 5)].toArray below meth c H locs 0 0 (MQ below (va_Qi (fun r (_ : Unit) => f_firstUnitClause nc mt mf avl gh gv = r) (fun _ _ => True) xN) [.ref (ad 5)].toArray s 0 0 xN) (F0 m 2 ls []) := by
    intro n
    induction n with
    | zero =>
      intro i H locs ls hF hil hS hl
      rw [f_firstUnitClause_L] at hF
      refine lv_iload_n hx hb dX0_firstUnitClause_2 rfl (lv_at hl 1 rfl) ?_
      refine lv_aload_n hx hb dX0_firstUnitClause_3 rfl (lv_at hl 0 rfl) ?_
      have hR := xP0 hPr xnN hS
      refine va_get (D := (dC, dI)) (ci := 0) (v := .ref (ad 1)) (C := RX0) (T := TX0) (N := 9) hx hb hts (xcons inX0) hown hK hR 4 rfl rfl 0 (by decide) hw0 (fun _ h9 => h9) rfl dX0_firstUnitClause_4 ?_
      refine va_get (D := (dC, dI)) (ci := 1) (v := .int (nI nc)) (C := RX1) (T := TX1) (N := 6) hx hb hts (xcons inX1) hown hK hR 0 rfl rfl 2 (by decide) hw1 (fun _ h9 => h9) rfl dX0_firstUnitClause_7 ?_
      refine lv_icmp_ge (tgt := 77) hx hb dX0_firstUnitClause_10 (by decide) (fun h1 => ?_) (fun h1 => absurd (nI_le (by omega) (by omega)) h1)
      refine lv_iconst (v := (-1)) hx hb dX0_firstUnitClause_77 (by decide) ?_
      exact W.iret (v := (-1)) hx hb hr (fun t ht hW => ⟨⟨_, (), rfl, hF, trivial⟩, hS.F ht⟩) hS.2.2 dX0_firstUnitClause_78
    | succ n ih =>
      intro i H locs ls hF hil hS hl
      rw [f_firstUnitClause_L] at hF
      refine lv_iload_n hx hb dX0_firstUnitClause_2 rfl (lv_at hl 1 rfl) ?_
      refine lv_aload_n hx hb dX0_firstUnitClause_3 rfl (lv_at hl 0 rfl) ?_
      have hR := xP0 hPr xnN hS
      refine va_get (D := (dC, dI)) (ci := 0) (v := .ref (ad 1)) (C := RX0) (T := TX0) (N := 9) hx hb hts (xcons inX0) hown hK hR 4 rfl rfl 0 (by decide) hw0 (fun _ h9 => h9) rfl dX0_firstUnitClause_4 ?_
      refine va_get (D := (dC, dI)) (ci := 1) (v := .int (nI nc)) (C := RX1) (T := TX1) (N := 6) hx hb hts (xcons inX1) hown hK hR 0 rfl rfl 2 (by decide) hw1 (fun _ h9 => h9) rfl dX0_firstUnitClause_7 ?_
      refine lv_icmp_ge (tgt := 77) hx hb dX0_firstUnitClause_10 (by decide) (fun h2 => absurd h2 (nI_ge (by omega) (by omega))) (fun h2 => ?_)
      refine lv_aload_n hx hb dX0_firstUnitClause_13 rfl (lv_at hl 0 rfl) ?_
      refine va_get (D := (dC, dI)) (ci := 0) (v := .ref (ad 1)) (C := RX0) (T := TX0) (N := 9) hx hb hts (xcons inX0) hown hK hR 4 rfl rfl 0 (by decide) hw0 (fun _ h9 => h9) rfl dX0_firstUnitClause_14 ?_
      refine lv_iload_n hx hb dX0_firstUnitClause_17 rfl (lv_at hl 1 rfl) ?_
      refine lv_aload_n hx hb dX0_firstUnitClause_18 rfl (lv_at hl 0 rfl) ?_
      refine va_get (D := (dC, dI)) (ci := 0) (v := .int gh) (C := RX0) (T := TX0) (N := 9) hx hb hts (xcons inX0) hown hK hR 4 rfl rfl 4 (by decide) hw2 (fun _ h9 => h9) rfl dX0_firstUnitClause_19 ?_
      refine xro_i (va_runV (As := [.int (nI i), .int gh]) (rest := []) ⟨hx, hb, hml, hown, hts⟩ (c_withoutValue l dC dI cI cL cZ ad hinj nv av nc mt mf wt i (by omega) gh) (xcwV 2 hts wd_257 wd_35 wd_287 wd_255 wd_256 rfl rfl (by decide +kernel) ⟨Nat.le_of_ble_eq_true rfl, Nat.le_of_ble_eq_true rfl⟩) (xpreV (va_recv hK hR rfl (q0 := 0) rfl) (hR.sub [0, 1, 2, 3] rfl) hK) rfl rfl hl.1 rfl (lv_room (Nat.le_of_ble_eq_true rfl)) dX0_firstUnitClause_22 ⟨Nat.le_of_ble_eq_true rfl, Nat.le_of_ble_eq_true rfl⟩) hS (fun H locs hk hS => ?_)
      have hR := xP0 hPr xnN hS
      refine xro_i (va_runS (As := [.int (f_withoutValue mt mf i gh)]) (rest := []) ⟨hx, hb, hml, hown, hts⟩ (c_bitCount l dC dI cI cL cZ ad hinj (f_withoutValue mt mf i gh)) (xcwS 1 hts wd_290 wd_40 wd_288 wd_289 rfl rfl (by decide +kernel) ⟨Nat.le_of_ble_eq_true rfl, Nat.le_of_ble_eq_true rfl⟩) (xpreS xPn hK) rfl rfl hl.1 rfl (lv_room (Nat.le_of_ble_eq_true rfl)) dX0_firstUnitClause_25 ⟨Nat.le_of_ble_eq_true rfl, Nat.le_of_ble_eq_true rfl⟩) hS (fun H locs hk hS => ?_)
      refine lv_iconst (v := 1) hx hb dX0_firstUnitClause_28 (by decide) ?_
      refine lv_icmp_ne (tgt := 36) hx hb dX0_firstUnitClause_29 (by decide) (fun h3 => ?_) (fun h3 => ?_)
      · have hF := hF.trans (if_neg h3)
        refine lv_iconst (v := 0) hx hb dX0_firstUnitClause_36 (by decide) ?_
        refine lv_istore_n (lv' := [(2, .int 0), (0, .ref (ad 5)), (1, .int (nI i))]) hx hb dX0_firstUnitClause_37 rfl hl (by decide) rfl (fun ls hl => ?_)
        refine lv_iload_n hx hb dX0_firstUnitClause_38 rfl (lv_at hl 0 rfl) ?_
        refine lv_if_eq (tgt := 71) hx hb dX0_firstUnitClause_39 (by decide) (fun h4 => ?_) (fun h4 => absurd (by decide) h4)
        refine lv_iinc (k := 2) (v := (nI (i + 1))) (lv' := [(1, .int (nI (i + 1))), (2, .int 0), (0, .ref (ad 5))]) hx hb dX0_firstUnitClause_71 hl rfl (xinc _) (by decide) rfl (fun ls hl => ?_)
        refine lv_goto (tgt := 2) hx hb dX0_firstUnitClause_74 (by decide) ?_
        exact ih (i + 1) _ _ _ hF (by omega) hS (lv_sub hl [2, 0] rfl)
      · have hF := hF.trans (if_pos h3)
        refine lv_iconst (v := 1) hx hb dX0_firstUnitClause_32 (by decide) ?_
        refine lv_goto (tgt := 37) hx hb dX0_firstUnitClause_33 (by decide) ?_
        refine lv_istore_n (lv' := [(2, .int 1), (0, .ref (ad 5)), (1, .int (nI i))]) hx hb dX0_firstUnitClause_37 rfl hl (by decide) rfl (fun ls hl => ?_)
        refine lv_iload_n hx hb dX0_firstUnitClause_38 rfl (lv_at hl 0 rfl) ?_
        refine lv_if_eq (tgt := 71) hx hb dX0_firstUnitClause_39 (by decide) (fun h5 => absurd h5 (by decide)) (fun h5 => ?_)
        refine lv_aload_n hx hb dX0_firstUnitClause_42 rfl (lv_at hl 1 rfl) ?_
        refine lv_iload_n hx hb dX0_firstUnitClause_43 rfl (lv_at hl 2 rfl) ?_
        have hR := xP0 hPr xnN hS
        refine xro_i (va_runV (As := [.int (nI i)]) (rest := []) ⟨hx, hb, hml, hown, hts⟩ (c_isAvailable l dC dI cI cL cZ ad hinj ss sc avl gh gv sv sr st i) (xcwV 1 hts wd_273 wd_37 wd_270 wd_272 wd_5 rfl rfl (by decide +kernel) ⟨Nat.le_of_ble_eq_true rfl, Nat.le_of_ble_eq_true rfl⟩) (xpreV (va_recv hK hR rfl (q0 := 4) rfl) (hR.sub [4, 5, 6, 7] rfl) hK) rfl rfl hl.1 rfl (lv_room (Nat.le_of_ble_eq_true rfl)) dX0_firstUnitClause_44 ⟨Nat.le_of_ble_eq_true rfl, Nat.le_of_ble_eq_true rfl⟩) hS (fun H locs hk hS => ?_)
        refine lv_if_eq (tgt := 71) hx hb dX0_firstUnitClause_47 (by decide) (fun h6 => ?_) (fun h6 => ?_)
        · have hF := hF.trans (if_pos h6)
          refine lv_iinc (k := 2) (v := (nI (i + 1))) (lv' := [(1, .int (nI (i + 1))), (2, .int 1), (0, .ref (ad 5))]) hx hb dX0_firstUnitClause_71 hl rfl (xinc _) (by decide) rfl (fun ls hl => ?_)
          refine lv_goto (tgt := 2) hx hb dX0_firstUnitClause_74 (by decide) ?_
          exact ih (i + 1) _ _ _ hF (by omega) hS (lv_sub hl [2, 0] rfl)
        · have hF := hF.trans (if_neg h6)
          refine lv_aload_n hx hb dX0_firstUnitClause_50 rfl (lv_at hl 1 rfl) ?_
          have hR := xP0 hPr xnN hS
          refine va_get (D := (dC, dI)) (ci := 0) (v := .ref (ad 1)) (C := RX0) (T := TX0) (N := 9) hx hb hts (xcons inX0) hown hK hR 4 rfl rfl 0 (by decide) hw0 (fun _ h9 => h9) rfl dX0_firstUnitClause_51 ?_
          refine lv_iload_n hx hb dX0_firstUnitClause_54 rfl (lv_at hl 2 rfl) ?_
          refine lv_aload_n hx hb dX0_firstUnitClause_55 rfl (lv_at hl 1 rfl) ?_
          refine va_get (D := (dC, dI)) (ci := 0) (v := .int gh) (C := RX0) (T := TX0) (N := 9) hx hb hts (xcons inX0) hown hK hR 4 rfl rfl 4 (by decide) hw2 (fun _ h9 => h9) rfl dX0_firstUnitClause_56 ?_
          refine lv_aload_n hx hb dX0_firstUnitClause_59 rfl (lv_at hl 1 rfl) ?_
          refine va_get (D := (dC, dI)) (ci := 0) (v := .int gv) (C := RX0) (T := TX0) (N := 9) hx hb hts (xcons inX0) hown hK hR 4 rfl rfl 5 (by decide) hw3 (fun _ h9 => h9) rfl dX0_firstUnitClause_60 ?_
          refine xro_i (va_runV (As := [.int (nI i), .int gh, .int gv]) (rest := []) ⟨hx, hb, hml, hown, hts⟩ (c_isTrue l dC dI cI cL cZ ad hinj nv av nc mt mf wt i (by omega) gh gv) (xcwV 3 hts wd_261 wd_35 wd_294 wd_259 wd_260 rfl rfl (by decide +kernel) ⟨Nat.le_of_ble_eq_true rfl, Nat.le_of_ble_eq_true rfl⟩) (xpreV (va_recv hK hR rfl (q0 := 0) rfl) (hR.sub [0, 1, 2, 3] rfl) hK) rfl rfl hl.1 rfl (lv_room (Nat.le_of_ble_eq_true rfl)) dX0_firstUnitClause_63 ⟨Nat.le_of_ble_eq_true rfl, Nat.le_of_ble_eq_true rfl⟩) hS (fun H locs hk hS => ?_)
          refine lv_if_ne (tgt := 71) hx hb dX0_firstUnitClause_66 (by decide) (fun h7 => ?_) (fun h7 => ?_)
          · have hF := hF.trans (if_neg h7)
            refine lv_iinc (k := 2) (v := (nI (i + 1))) (lv' := [(1, .int (nI (i + 1))), (2, .int 1), (0, .ref (ad 5))]) hx hb dX0_firstUnitClause_71 hl rfl (xinc _) (by decide) rfl (fun ls hl => ?_)
            refine lv_goto (tgt := 2) hx hb dX0_firstUnitClause_74 (by decide) ?_
            exact ih (i + 1) _ _ _ hF (by omega) hS (lv_sub hl [2, 0] rfl)
          · have hF := hF.trans (if_pos h7)
            refine lv_iload_n hx hb dX0_firstUnitClause_69 rfl (lv_at hl 2 rfl) ?_
            exact W.iret (v := (nI i)) hx hb hr (fun t ht hW => ⟨⟨_, (), rfl, hF, trivial⟩, hS.F ht⟩) hS.2.2 dX0_firstUnitClause_70
  exact lp2 nc 0 _ _ _ hF (by omega) hS (lv_sub hl [1, 0] rfl)
end
section
def f_growBy (mt mf : Nat → Int32) (gh gv : Int32) (sv : Nat → Int32) (sr : Nat → Nat) (st i : Nat) : Int32 × Int32 × (Nat → Int32) × (Nat → Nat) × Nat :=
  if (nI st) < 10 then
    ((gh ||| (f_withoutValue mt mf i gh)), (gv ||| ((f_withoutValue mt mf i gh) &&& (f_literalsSayingTrue mt i))), (upd sv st (f_withoutValue mt mf i gh)), (va_up sr st i), (st + 1))
  else
    (gh, gv, sv, sr, st)
def f_subsetBehind_L (mt mf sv : Nat → Int32) (sr : Nat → Nat) : Nat → Int64 → Int32 → Int64
  | 0, found, inv =>
    found
  | n + 1, found, inv =>
    if (inv &&& (sv n)) = 0 then
      f_subsetBehind_L mt mf sv sr n found inv
    else
      f_subsetBehind_L mt mf sv sr n (found ||| ((1 : Int64) <<< ((nI (sr n)).toInt64 &&& 63))) (inv ||| (f_variablesOf mt mf (sr n)))
def f_subsetBehind (mt mf sv : Nat → Int32) (sr : Nat → Nat) (st i : Nat) : Int64 :=
  f_subsetBehind_L mt mf sv sr st ((1 : Int64) <<< ((nI i).toInt64 &&& 63)) (f_variablesOf mt mf i)
def f_subsetAt (ss : Nat → Int64) (sc : Nat) (j : Int32) : Int64 :=
  if j < 0 then
    0
  else
    if (nI sc) ≤ j then
      0
    else
      (ss j.toNatClampNeg)
set_option maxHeartbeats 4000000 in
set_option maxRecDepth 100000 in
theorem c_growBy (l : Launch) (dC : Nat → ClassId) (dI : Nat → Nat → Nat) (cI cL cZ : ClassId) (ad : Nat → Nat) (hinj : xI ad 15) (nv : Nat) (av : Int32) (nc : Nat) (mt mf wt : Nat → Int32) (ss : Nat → Int64) (sc : Nat) (avl : Int64) (gh gv : Int32) (sv : Nat → Int32) (sr : Nat → Nat) (st : Nat) (i : Nat) (hi : i < 40) (hst : st ≤ 10) : Met l yX0_growBy wsX0_growBy ({ frames := 1, cells := 0, slots := 0, locals := 22 }) (va_Pc [.ref (ad 5), .int (nI i)] (fun U => va_P (dC, dI) vwCl [(ad 1, .inr (1, [.int (nI nv), .int av, .int (nI nc), .ref (ad 2), .ref (ad 3), .ref (ad 4)])), (ad 2, .inl (cI, 40, .inl mt)), (ad 3, .inl (cI, 40, .inl mf)), (ad 4, .inl (cI, 40, .inl wt)), (ad 5, .inr (0, [.ref (ad 1), .ref (ad 6), .int (nI sc), .long avl, .int gh, .int gv, .ref (ad 7), .ref (ad 8), .int (nI st)])), (ad 6, .inl (cL, 40, .inr (.inl ss))), (ad 7, .inl (cI, 10, .inl sv)), (ad 8, .inl (cI, 10, .inl (xnI sr)))] U.heap ∧ va_K (dC, dI) vwCl [(cI, .int), (cL, .long), (cZ, .boolean)] U)) (va_Qv (fun u => f_growBy mt mf gh gv sv sr st i = u) (xB (dC, dI) vwCl (fun (u : Int32 × Int32 × (Nat → Int32) × (Nat → Nat) × Nat) => match u with | (gh1, gv1, sv1, sr1, st1) => [(ad 5, .inr (0, [.ref (ad 1), .ref (ad 6), .int (nI sc), .long avl, .int gh1, .int gv1, .ref (ad 7), .ref (ad 8), .int (nI st1)])), (ad 6, .inl (cL, 40, .inr (.inl ss))), (ad 7, .inl (cI, 10, .inl sv1)), (ad 8, .inl (cI, 10, .inl (xnI sr1)))])) (xA ad [5, 6, 7, 8])) 0 0 (xA ad [5, 6, 7, 8]) := by
  refine Met.ofW (cc := cX0_growBy) (maxL := 3) (ret := none) (by decide) rfl ?_
  intro p e s m args below meth c s₁ B hml hvv
  obtain ⟨rfl, hP0, hK⟩ := hvv
  have hx := B.exec
  have hb := B.bytes
  have hr := B.returns
  have hts := atoms_spec (ws := wsX0_growBy) B.pre
  have hown : s.vm.findClass RX0 = some m.cls := findClass_of_methodNamed B.named
  have hlocks := B.notSynchronized
  have hw0 : (.fieldLink RX0 60 "WeightedClauses$Bounds" "stepCount" "I" : Cond).before _ s = true := hts _ (List.mem_cons_of_mem _ wd_106)
  have hw1 : (.fieldLink RX0 22 "WeightedClauses$Bounds" "formula" "LWeightedClauses$Formula;" : Cond).before _ s = true := hts _ (List.mem_cons_of_mem _ wd_98)
  have hw2 : (.fieldLink RX0 54 "WeightedClauses$Bounds" "grownHave" "I" : Cond).before _ s = true := hts _ (List.mem_cons_of_mem _ wd_102)
  have hw3 : (.fieldLink RX0 57 "WeightedClauses$Bounds" "grownValues" "I" : Cond).before _ s = true := hts _ (List.mem_cons_of_mem _ wd_103)
  have hw4 : (.fieldLink RX0 15 "WeightedClauses$Bounds" "stepVariable" "[I" : Cond).before _ s = true := hts _ (List.mem_cons_of_mem _ wd_104)
  have hw5 : (.fieldLink RX0 19 "WeightedClauses$Bounds" "stepReason" "[I" : Cond).before _ s = true := hts _ (List.mem_cons_of_mem _ wd_105)
  have hPr : va_P (dC, dI) vwCl [(ad 1, .inr (1, [.int (nI nv), .int av, .int (nI nc), .ref (ad 2), .ref (ad 3), .ref (ad 4)])), (ad 2, .inl (cI, 40, .inl mt)), (ad 3, .inl (cI, 40, .inl mf)), (ad 4, .inl (cI, 40, .inl wt))] s.heap := hP0.sub [0, 1, 2, 3] rfl
  have hP : va_P (dC, dI) vwCl [(ad 5, .inr (0, [.ref (ad 1), .ref (ad 6), .int (nI sc), .long avl, .int gh, .int gv, .ref (ad 7), .ref (ad 8), .int (nI st)])), (ad 6, .inl (cL, 40, .inr (.inl ss))), (ad 7, .inl (cI, 10, .inl sv)), (ad 8, .inl (cI, 10, .inl (xnI sr)))] s.heap := hP0.sub [4, 5, 6, 7] rfl
  have hS : va_S (xA ad [5, 6, 7, 8]) s.heap s.heap [] := va_S.rf
  have hl := lv_entry [.ref (ad 5), .int (nI i)] (n := 3) (Nat.le_of_ble_eq_true rfl)
  rw [lg_entry_eq]
  generalize (lg_sl [.ref (ad 5), .int (nI i)] ++ List.replicate (3 - (lg_sl [.ref (ad 5), .int (nI i)]).length) Slot.unset).toArray = ls at hl ⊢
  have hl : lv_has ls 3 [(0, .ref (ad 5)), (1, .int (nI i))] := hl
  have hF := Eq.refl (f_growBy mt mf gh gv sv sr st i)
  conv at hF => rhs; unfold f_growBy
  refine lv_aload_n hx hb dX0_growBy_0 rfl (lv_at hl 0 rfl) ?_
  refine va_get (D := (dC, dI)) (ci := 0) (v := .int (nI st)) (C := RX0) (T := TX0) (N := 9) hx hb hts (xcons inX0) hown hK hP 0 rfl rfl 8 (by decide) hw0 (fun _ h9 => h9) rfl dX0_growBy_1 ?_
  refine lv_bipush (v := 10) hx hb dX0_growBy_4 (by decide) ?_
  refine lv_icmp_lt (tgt := 10) hx hb dX0_growBy_6 (by decide) (fun h1 => ?_) (fun h1 => ?_)
  · have hF := hF.trans (if_pos h1)
    have hlt := xlt 10 h1 (by omega) (by decide)
    refine lv_aload_n hx hb dX0_growBy_10 rfl (lv_at hl 0 rfl) ?_
    refine va_get (D := (dC, dI)) (ci := 0) (v := .ref (ad 1)) (C := RX0) (T := TX0) (N := 9) hx hb hts (xcons inX0) hown hK hP 0 rfl rfl 0 (by decide) hw1 (fun _ h9 => h9) rfl dX0_growBy_11 ?_
    refine lv_iload_n hx hb dX0_growBy_14 rfl (lv_at hl 1 rfl) ?_
    refine lv_aload_n hx hb dX0_growBy_15 rfl (lv_at hl 0 rfl) ?_
    refine va_get (D := (dC, dI)) (ci := 0) (v := .int gh) (C := RX0) (T := TX0) (N := 9) hx hb hts (xcons inX0) hown hK hP 0 rfl rfl 4 (by decide) hw2 (fun _ h9 => h9) rfl dX0_growBy_16 ?_
    have hR := xP0 hPr (xnA hinj [1, 2, 3, 4] rfl (by decide)) hS
    refine xro_i (va_runV (As := [.int (nI i), .int gh]) (rest := []) ⟨hx, hb, hml, hown, hts⟩ (c_withoutValue l dC dI cI cL cZ ad hinj nv av nc mt mf wt i (by omega) gh) (xcwV 2 hts wd_257 wd_35 wd_287 wd_255 wd_256 rfl rfl (by decide +kernel) ⟨Nat.le_of_ble_eq_true rfl, Nat.le_of_ble_eq_true rfl⟩) (xpreV (va_recv hK hR rfl (q0 := 0) rfl) hR hK) rfl rfl hl.1 rfl (lv_room (Nat.le_of_ble_eq_true rfl)) dX0_growBy_19 ⟨Nat.le_of_ble_eq_true rfl, Nat.le_of_ble_eq_true rfl⟩) hS (fun H locs hk hS => ?_)
    have hP := xkeep hP hk
    refine lv_istore_n (lv' := [(2, .int (f_withoutValue mt mf i gh)), (0, .ref (ad 5)), (1, .int (nI i))]) hx hb dX0_growBy_22 rfl hl (by decide) rfl (fun ls hl => ?_)
    refine lv_aload_n hx hb dX0_growBy_23 rfl (lv_at hl 1 rfl) ?_
    refine lv_dup hx hb dX0_growBy_24 rfl ?_
    refine va_get (D := (dC, dI)) (ci := 0) (v := .int gh) (C := RX0) (T := TX0) (N := 9) hx hb hts (xcons inX0) hown hK hP 0 rfl rfl 4 (by decide) hw2 (fun _ h9 => h9) rfl dX0_growBy_25 ?_
    refine lv_iload_n hx hb dX0_growBy_28 rfl (lv_at hl 0 rfl) ?_
    refine lv_ior hx hb dX0_growBy_29 ?_
    refine va_put (D := (dC, dI)) (ci := 0) (v := .int (gh ||| (f_withoutValue mt mf i gh))) (ty := .int) (C := RX0) (T := TX0) (N := 9) hx hb hts (xcons inX0) tyX0 tyX0_ok nX0 hown hK hP (xD hinj [5, 6, 7, 8] rfl (by decide) (by decide)) hS 0 rfl rfl 4 (by decide) hw2 (fun _ h9 => h9) rfl (by decide +kernel) rfl rfl (Nat.le_of_ble_eq_true rfl) dX0_growBy_30 (fun H locs hP _ hS => ?_)
    have hP : va_P (dC, dI) vwCl [(ad 5, .inr (0, [.ref (ad 1), .ref (ad 6), .int (nI sc), .long avl, .int (gh ||| (f_withoutValue mt mf i gh)), .int gv, .ref (ad 7), .ref (ad 8), .int (nI st)])), (ad 6, .inl (cL, 40, .inr (.inl ss))), (ad 7, .inl (cI, 10, .inl sv)), (ad 8, .inl (cI, 10, .inl (xnI sr)))] H := hP
    refine lv_aload_n hx hb dX0_growBy_33 rfl (lv_at hl 1 rfl) ?_
    refine lv_dup hx hb dX0_growBy_34 rfl ?_
    refine va_get (D := (dC, dI)) (ci := 0) (v := .int gv) (C := RX0) (T := TX0) (N := 9) hx hb hts (xcons inX0) hown hK hP 0 rfl rfl 5 (by decide) hw3 (fun _ h9 => h9) rfl dX0_growBy_35 ?_
    refine lv_iload_n hx hb dX0_growBy_38 rfl (lv_at hl 0 rfl) ?_
    refine lv_aload_n hx hb dX0_growBy_39 rfl (lv_at hl 1 rfl) ?_
    refine va_get (D := (dC, dI)) (ci := 0) (v := .ref (ad 1)) (C := RX0) (T := TX0) (N := 9) hx hb hts (xcons inX0) hown hK hP 0 rfl rfl 0 (by decide) hw1 (fun _ h9 => h9) rfl dX0_growBy_40 ?_
    refine lv_iload_n hx hb dX0_growBy_43 rfl (lv_at hl 2 rfl) ?_
    have hR := xP0 hPr (xnA hinj [1, 2, 3, 4] rfl (by decide)) hS
    refine xro_i (va_runV (As := [.int (nI i)]) (rest := [.int (f_withoutValue mt mf i gh), .int gv, .ref (ad 5)]) ⟨hx, hb, hml, hown, hts⟩ (c_literalsSayingTrue l dC dI cI cL cZ ad hinj nv av nc mt mf wt i (by omega)) (xcwV 1 hts wd_302 wd_35 wd_299 wd_300 wd_301 rfl rfl (by decide +kernel) ⟨Nat.le_of_ble_eq_true rfl, Nat.le_of_ble_eq_true rfl⟩) (xpreV (va_recv hK hR rfl (q0 := 0) rfl) hR hK) rfl rfl hl.1 rfl (lv_room (Nat.le_of_ble_eq_true rfl)) dX0_growBy_44 ⟨Nat.le_of_ble_eq_true rfl, Nat.le_of_ble_eq_true rfl⟩) hS (fun H locs hk hS => ?_)
    have hP := xkeep hP hk
    refine lv_iand hx hb dX0_growBy_47 ?_
    refine lv_ior hx hb dX0_growBy_48 ?_
    refine va_put (D := (dC, dI)) (ci := 0) (v := .int (gv ||| ((f_withoutValue mt mf i gh) &&& (f_literalsSayingTrue mt i)))) (ty := .int) (C := RX0) (T := TX0) (N := 9) hx hb hts (xcons inX0) tyX0 tyX0_ok nX0 hown hK hP (xD hinj [5, 6, 7, 8] rfl (by decide) (by decide)) hS 0 rfl rfl 5 (by decide) hw3 (fun _ h9 => h9) rfl (by decide +kernel) rfl rfl (Nat.le_of_ble_eq_true rfl) dX0_growBy_49 (fun H locs hP _ hS => ?_)
    have hP : va_P (dC, dI) vwCl [(ad 5, .inr (0, [.ref (ad 1), .ref (ad 6), .int (nI sc), .long avl, .int (gh ||| (f_withoutValue mt mf i gh)), .int (gv ||| ((f_withoutValue mt mf i gh) &&& (f_literalsSayingTrue mt i))), .ref (ad 7), .ref (ad 8), .int (nI st)])), (ad 6, .inl (cL, 40, .inr (.inl ss))), (ad 7, .inl (cI, 10, .inl sv)), (ad 8, .inl (cI, 10, .inl (xnI sr)))] H := hP
    refine lv_aload_n hx hb dX0_growBy_52 rfl (lv_at hl 1 rfl) ?_
    refine va_get (D := (dC, dI)) (ci := 0) (v := .ref (ad 7)) (C := RX0) (T := TX0) (N := 9) hx hb hts (xcons inX0) hown hK hP 0 rfl rfl 6 (by decide) hw4 (fun _ h9 => h9) rfl dX0_growBy_53 ?_
    refine lv_aload_n hx hb dX0_growBy_56 rfl (lv_at hl 1 rfl) ?_
    refine va_get (D := (dC, dI)) (ci := 0) (v := .int (nI st)) (C := RX0) (T := TX0) (N := 9) hx hb hts (xcons inX0) hown hK hP 0 rfl rfl 8 (by decide) hw0 (fun _ h9 => h9) rfl dX0_growBy_57 ?_
    refine lv_iload_n hx hb dX0_growBy_60 rfl (lv_at hl 0 rfl) ?_
    refine xr_iast hx hb hK hP (xD hinj [5, 6, 7, 8] rfl (by decide) (by decide)) hS 2 0 rfl rfl st (by omega) (by omega) dX0_growBy_61 (fun H locs hP hS => ?_)
    have hP : va_P (dC, dI) vwCl [(ad 5, .inr (0, [.ref (ad 1), .ref (ad 6), .int (nI sc), .long avl, .int (gh ||| (f_withoutValue mt mf i gh)), .int (gv ||| ((f_withoutValue mt mf i gh) &&& (f_literalsSayingTrue mt i))), .ref (ad 7), .ref (ad 8), .int (nI st)])), (ad 6, .inl (cL, 40, .inr (.inl ss))), (ad 7, .inl (cI, 10, .inl (upd sv st (f_withoutValue mt mf i gh)))), (ad 8, .inl (cI, 10, .inl (xnI sr)))] H := hP
    refine lv_aload_n hx hb dX0_growBy_62 rfl (lv_at hl 1 rfl) ?_
    refine va_get (D := (dC, dI)) (ci := 0) (v := .ref (ad 8)) (C := RX0) (T := TX0) (N := 9) hx hb hts (xcons inX0) hown hK hP 0 rfl rfl 7 (by decide) hw5 (fun _ h9 => h9) rfl dX0_growBy_63 ?_
    refine lv_aload_n hx hb dX0_growBy_66 rfl (lv_at hl 1 rfl) ?_
    refine va_get (D := (dC, dI)) (ci := 0) (v := .int (nI st)) (C := RX0) (T := TX0) (N := 9) hx hb hts (xcons inX0) hown hK hP 0 rfl rfl 8 (by decide) hw0 (fun _ h9 => h9) rfl dX0_growBy_67 ?_
    refine lv_iload_n hx hb dX0_growBy_70 rfl (lv_at hl 2 rfl) ?_
    refine xr_iast hx hb hK hP (xD hinj [5, 6, 7, 8] rfl (by decide) (by decide)) hS 3 0 rfl rfl st (by omega) (by omega) dX0_growBy_71 (fun H locs hP hS => ?_)
    have hP : va_P (dC, dI) vwCl [(ad 5, .inr (0, [.ref (ad 1), .ref (ad 6), .int (nI sc), .long avl, .int (gh ||| (f_withoutValue mt mf i gh)), .int (gv ||| ((f_withoutValue mt mf i gh) &&& (f_literalsSayingTrue mt i))), .ref (ad 7), .ref (ad 8), .int (nI st)])), (ad 6, .inl (cL, 40, .inr (.inl ss))), (ad 7, .inl (cI, 10, .inl (upd sv st (f_withoutValue mt mf i gh)))), (ad 8, .inl (cI, 10, .inl (xnI (va_up sr st i))))] H := by rw [xnI_up]; exact hP
    refine lv_aload_n hx hb dX0_growBy_72 rfl (lv_at hl 1 rfl) ?_
    refine lv_dup hx hb dX0_growBy_73 rfl ?_
    refine va_get (D := (dC, dI)) (ci := 0) (v := .int (nI st)) (C := RX0) (T := TX0) (N := 9) hx hb hts (xcons inX0) hown hK hP 0 rfl rfl 8 (by decide) hw0 (fun _ h9 => h9) rfl dX0_growBy_74 ?_
    refine lv_iconst (v := 1) hx hb dX0_growBy_77 (by decide) ?_
    refine xr_add1 hx hb dX0_growBy_78 ?_
    refine va_put (D := (dC, dI)) (ci := 0) (v := .int (nI (st + 1))) (ty := .int) (C := RX0) (T := TX0) (N := 9) hx hb hts (xcons inX0) tyX0 tyX0_ok nX0 hown hK hP (xD hinj [5, 6, 7, 8] rfl (by decide) (by decide)) hS 0 rfl rfl 8 (by decide) hw0 (fun _ h9 => h9) rfl (by decide +kernel) rfl rfl (Nat.le_of_ble_eq_true rfl) dX0_growBy_79 (fun H locs hP _ hS => ?_)
    have hP : va_P (dC, dI) vwCl [(ad 5, .inr (0, [.ref (ad 1), .ref (ad 6), .int (nI sc), .long avl, .int (gh ||| (f_withoutValue mt mf i gh)), .int (gv ||| ((f_withoutValue mt mf i gh) &&& (f_literalsSayingTrue mt i))), .ref (ad 7), .ref (ad 8), .int (nI (st + 1))])), (ad 6, .inl (cL, 40, .inr (.inl ss))), (ad 7, .inl (cI, 10, .inl (upd sv st (f_withoutValue mt mf i gh)))), (ad 8, .inl (cI, 10, .inl (xnI (va_up sr st i))))] H := hP
    exact W.vret hx hb hr (fun t ht hW => ⟨⟨((gh ||| (f_withoutValue mt mf i gh)), (gv ||| ((f_withoutValue mt mf i gh) &&& (f_literalsSayingTrue mt i))), (upd sv st (f_withoutValue mt mf i gh)), (va_up sr st i), (st + 1)), rfl, hF, xBi ht hP⟩, hS.F ht⟩) hS.2.2 dX0_growBy_82
  · have hF := hF.trans (if_neg h1)
    exact W.vret hx hb hr (fun t ht hW => ⟨⟨(gh, gv, sv, sr, st), rfl, hF, xBi ht hP⟩, hS.F ht⟩) hS.2.2 dX0_growBy_9
set_option maxHeartbeats 4000000 in
set_option maxRecDepth 100000 in
theorem c_subsetBehind (l : Launch) (dC : Nat → ClassId) (dI : Nat → Nat → Nat) (cI cL cZ : ClassId) (ad : Nat → Nat) (hinj : xI ad 15) (nv : Nat) (av : Int32) (nc : Nat) (mt mf wt : Nat → Int32) (ss : Nat → Int64) (sc : Nat) (avl : Int64) (gh gv : Int32) (sv : Nat → Int32) (sr : Nat → Nat) (st : Nat) (i : Nat) (hi : i < 40) (hst : st ≤ 10) (hsr : ∀ j, j < st → sr j < 40) : Met l yX0_subsetBehind wsX0_subsetBehind ({ frames := 1, cells := 0, slots := 0, locals := 21 }) (va_Pc [.ref (ad 5), .int (nI i)] (fun U => va_P (dC, dI) vwCl [(ad 1, .inr (1, [.int (nI nv), .int av, .int (nI nc), .ref (ad 2), .ref (ad 3), .ref (ad 4)])), (ad 2, .inl (cI, 40, .inl mt)), (ad 3, .inl (cI, 40, .inl mf)), (ad 4, .inl (cI, 40, .inl wt)), (ad 5, .inr (0, [.ref (ad 1), .ref (ad 6), .int (nI sc), .long avl, .int gh, .int gv, .ref (ad 7), .ref (ad 8), .int (nI st)])), (ad 6, .inl (cL, 40, .inr (.inl ss))), (ad 7, .inl (cI, 10, .inl sv)), (ad 8, .inl (cI, 10, .inl (xnI sr)))] U.heap ∧ va_K (dC, dI) vwCl [(cI, .int), (cL, .long), (cZ, .boolean)] U)) (va_Ql (fun r (_ : Unit) => f_subsetBehind mt mf sv sr st i = r) (fun _ _ => True) xN) 0 0 xN := by
  refine Met.ofW (cc := cX0_subsetBehind) (maxL := 6) (ret := (some .long)) (by decide) rfl ?_
  intro p e s m args below meth c s₁ B hml hvv
  obtain ⟨rfl, hP0, hK⟩ := hvv
  have hx := B.exec
  have hb := B.bytes
  have hr := B.returns
  have hts := atoms_spec (ws := wsX0_subsetBehind) B.pre
  have hown : s.vm.findClass RX0 = some m.cls := findClass_of_methodNamed B.named
  have hlocks := B.notSynchronized
  have hw0 : (.fieldLink RX0 22 "WeightedClauses$Bounds" "formula" "LWeightedClauses$Formula;" : Cond).before _ s = true := hts _ (List.mem_cons_of_mem _ wd_98)
  have hw1 : (.fieldLink RX0 60 "WeightedClauses$Bounds" "stepCount" "I" : Cond).before _ s = true := hts _ (List.mem_cons_of_mem _ wd_106)
  have hw2 : (.fieldLink RX0 15 "WeightedClauses$Bounds" "stepVariable" "[I" : Cond).before _ s = true := hts _ (List.mem_cons_of_mem _ wd_104)
  have hw3 : (.fieldLink RX0 19 "WeightedClauses$Bounds" "stepReason" "[I" : Cond).before _ s = true := hts _ (List.mem_cons_of_mem _ wd_105)
  have hPr : va_P (dC, dI) vwCl [(ad 1, .inr (1, [.int (nI nv), .int av, .int (nI nc), .ref (ad 2), .ref (ad 3), .ref (ad 4)])), (ad 2, .inl (cI, 40, .inl mt)), (ad 3, .inl (cI, 40, .inl mf)), (ad 4, .inl (cI, 40, .inl wt)), (ad 5, .inr (0, [.ref (ad 1), .ref (ad 6), .int (nI sc), .long avl, .int gh, .int gv, .ref (ad 7), .ref (ad 8), .int (nI st)])), (ad 6, .inl (cL, 40, .inr (.inl ss))), (ad 7, .inl (cI, 10, .inl sv)), (ad 8, .inl (cI, 10, .inl (xnI sr)))] s.heap := hP0.sub [0, 1, 2, 3, 4, 5, 6, 7] rfl
  have hS : va_S xN s.heap s.heap [] := va_S.rf
  have hl := lv_entry [.ref (ad 5), .int (nI i)] (n := 6) (Nat.le_of_ble_eq_true rfl)
  rw [lg_entry_eq]
  generalize (lg_sl [.ref (ad 5), .int (nI i)] ++ List.replicate (6 - (lg_sl [.ref (ad 5), .int (nI i)]).length) Slot.unset).toArray = ls at hl ⊢
  have hl : lv_has ls 6 [(0, .ref (ad 5)), (1, .int (nI i))] := hl
  have hF := Eq.refl (f_subsetBehind mt mf sv sr st i)
  conv at hF => rhs; unfold f_subsetBehind
  refine lv_lconst (v := 1) hx hb dX0_subsetBehind_0 (by decide) ?_
  refine lv_iload_n hx hb dX0_subsetBehind_1 rfl (lv_at hl 1 rfl) ?_
  refine lv_lshl (v := ((1 : Int64) <<< ((nI i).toInt64 &&& 63))) hx hb dX0_subsetBehind_2 rfl ?_
  refine lv_lstore_n (lv' := [(2, .long ((1 : Int64) <<< ((nI i).toInt64 &&& 63))), (0, .ref (ad 5)), (1, .int (nI i))]) hx hb dX0_subsetBehind_3 rfl hl (by decide) rfl (fun ls hl => ?_)
  refine lv_aload_n hx hb dX0_subsetBehind_4 rfl (lv_at hl 1 rfl) ?_
  have hR := xP0 hPr xnN hS
  refine va_get (D := (dC, dI)) (ci := 0) (v := .ref (ad 1)) (C := RX0) (T := TX0) (N := 9) hx hb hts (xcons inX0) hown hK hR 4 rfl rfl 0 (by decide) hw0 (fun _ h9 => h9) rfl dX0_subsetBehind_5 ?_
  refine lv_iload_n hx hb dX0_subsetBehind_8 rfl (lv_at hl 2 rfl) ?_
  refine xro_i (va_runV (As := [.int (nI i)]) (rest := []) ⟨hx, hb, hml, hown, hts⟩ (c_variablesOf l dC dI cI cL cZ ad hinj nv av nc mt mf wt i (by omega)) (xcwV 1 hts wd_282 wd_35 wd_279 wd_280 wd_281 rfl rfl (by decide +kernel) ⟨Nat.le_of_ble_eq_true rfl, Nat.le_of_ble_eq_true rfl⟩) (xpreV (va_recv hK hR rfl (q0 := 0) rfl) (hR.sub [0, 1, 2, 3] rfl) hK) rfl rfl hl.1 rfl (lv_room (Nat.le_of_ble_eq_true rfl)) dX0_subsetBehind_9 ⟨Nat.le_of_ble_eq_true rfl, Nat.le_of_ble_eq_true rfl⟩) hS (fun H locs hk hS => ?_)
  refine lv_istore (lv' := [(4, .int (f_variablesOf mt mf i)), (2, .long ((1 : Int64) <<< ((nI i).toInt64 &&& 63))), (0, .ref (ad 5)), (1, .int (nI i))]) hx hb dX0_subsetBehind_12 hl (by decide) rfl (fun ls hl => ?_)
  refine lv_aload_n hx hb dX0_subsetBehind_14 rfl (lv_at hl 2 rfl) ?_
  have hR := xP0 hPr xnN hS
  refine va_get (D := (dC, dI)) (ci := 0) (v := .int (nI st)) (C := RX0) (T := TX0) (N := 9) hx hb hts (xcons inX0) hown hK hR 4 rfl rfl 8 (by decide) hw1 (fun _ h9 => h9) rfl dX0_subsetBehind_15 ?_
  refine lv_iconst (v := 1) hx hb dX0_subsetBehind_18 (by decide) ?_
  refine lv_isub hx hb dX0_subsetBehind_19 ?_
  refine lv_istore (lv' := [(5, .int ((nI st) - 1)), (4, .int (f_variablesOf mt mf i)), (2, .long ((1 : Int64) <<< ((nI i).toInt64 &&& 63))), (0, .ref (ad 5)), (1, .int (nI i))]) hx hb dX0_subsetBehind_20 hl (by decide) rfl (fun ls hl => ?_)
  have lp22 : ∀ (n : Nat) (z : Int32) (found : Int64) (inv : Int32) (H : Heap) (locs : List Loc) (ls : Array Slot), f_subsetBehind mt mf sv sr st i = f_subsetBehind_L mt mf sv sr n found inv → z + 1 = nI n → n ≤ st → va_S xN s.heap H locs → lv_has ls 6 [(0, .ref (ad 5)), (2, .long found), (4, .int inv), (5, .int z)] → W p l e (headSpec wsX0_subsetBehind ({ frames := 1, cells := 0, slots := 0, locals := 21 })).room s m [.ref (ad 5), .int (nI i)].toArray below meth c H locs 0 0 (MQ below (va_Ql (fun r (_ : Unit) => f_subsetBehind mt mf sv sr st i = r) (fun _ _ => True) xN) [.ref (ad 5), .int (nI i)].toArray s 0 0 xN) (F0 m 22 ls []) := by
    intro n
    induction n with
    | zero =>
      intro z found inv H locs ls hF hz hn hS hl
      rw [f_subsetBehind_L] at hF
      refine lv_iload hx hb dX0_subsetBehind_22 (lv_at hl 3 rfl) ?_
      refine lv_if_lt (tgt := 77) hx hb dX0_subsetBehind_24 (by decide) (fun h1 => ?_) (fun h1 => absurd (xneg hz) h1)
      refine lv_lload_n hx hb dX0_subsetBehind_77 rfl (lv_at hl 1 rfl) ?_
      exact W.lret (v := found) hx hb hr (fun t ht hW => ⟨⟨_, (), rfl, hF, trivial⟩, hS.F ht⟩) hS.2.2 dX0_subsetBehind_78
    | succ n ih =>
      intro z found inv H locs ls hF hz hn hS hl
      rw [f_subsetBehind_L] at hF
      obtain rfl : z = nI n := xsucc hz
      refine lv_iload hx hb dX0_subsetBehind_22 (lv_at hl 3 rfl) ?_
      refine lv_if_lt (tgt := 77) hx hb dX0_subsetBehind_24 (by decide) (fun h2 => absurd h2 (nI_pos (by omega))) (fun h2 => ?_)
      refine lv_iload hx hb dX0_subsetBehind_27 (lv_at hl 2 rfl) ?_
      refine lv_aload_n hx hb dX0_subsetBehind_29 rfl (lv_at hl 0 rfl) ?_
      have hR := xP0 hPr xnN hS
      refine va_get (D := (dC, dI)) (ci := 0) (v := .ref (ad 7)) (C := RX0) (T := TX0) (N := 9) hx hb hts (xcons inX0) hown hK hR 4 rfl rfl 6 (by decide) hw2 (fun _ h9 => h9) rfl dX0_subsetBehind_30 ?_
      refine lv_iload hx hb dX0_subsetBehind_33 (lv_at hl 3 rfl) ?_
      refine xr_iald hx hb hK hR 6 0 rfl rfl n (by omega) (by omega) dX0_subsetBehind_35 ?_
      refine lv_iand hx hb dX0_subsetBehind_36 ?_
      refine lv_if_eq (tgt := 71) hx hb dX0_subsetBehind_37 (by decide) (fun h3 => ?_) (fun h3 => ?_)
      · have hF := hF.trans (if_pos h3)
        refine lv_iinc (k := 3) (v := ((nI n) - 1)) (lv' := [(5, .int ((nI n) - 1)), (0, .ref (ad 5)), (2, .long found), (4, .int inv)]) hx hb dX0_subsetBehind_71 hl rfl (xdec1 _) (by decide) rfl (fun ls hl => ?_)
        refine lv_goto (tgt := 22) hx hb dX0_subsetBehind_74 (by decide) ?_
        exact ih ((nI n) - 1) found inv _ _ _ hF (by simp) (by omega) hS (lv_sub hl [1, 2, 3, 0] rfl)
      · have hF := hF.trans (if_neg h3)
        refine lv_lload_n hx hb dX0_subsetBehind_40 rfl (lv_at hl 1 rfl) ?_
        refine lv_lconst (v := 1) hx hb dX0_subsetBehind_41 (by decide) ?_
        refine lv_aload_n hx hb dX0_subsetBehind_42 rfl (lv_at hl 0 rfl) ?_
        refine va_get (D := (dC, dI)) (ci := 0) (v := .ref (ad 8)) (C := RX0) (T := TX0) (N := 9) hx hb hts (xcons inX0) hown hK hR 4 rfl rfl 7 (by decide) hw3 (fun _ h9 => h9) rfl dX0_subsetBehind_43 ?_
        refine lv_iload hx hb dX0_subsetBehind_46 (lv_at hl 3 rfl) ?_
        refine xr_iald hx hb hK hR 7 0 rfl rfl n (by omega) (by omega) dX0_subsetBehind_48 ?_
        refine lv_lshl (v := ((1 : Int64) <<< ((nI (sr n)).toInt64 &&& 63))) hx hb dX0_subsetBehind_49 rfl ?_
        refine lv_lor hx hb dX0_subsetBehind_50 ?_
        refine lv_lstore_n (lv' := [(2, .long (found ||| ((1 : Int64) <<< ((nI (sr n)).toInt64 &&& 63)))), (0, .ref (ad 5)), (4, .int inv), (5, .int (nI n))]) hx hb dX0_subsetBehind_51 rfl hl (by decide) rfl (fun ls hl => ?_)
        refine lv_iload hx hb dX0_subsetBehind_52 (lv_at hl 2 rfl) ?_
        refine lv_aload_n hx hb dX0_subsetBehind_54 rfl (lv_at hl 1 rfl) ?_
        refine va_get (D := (dC, dI)) (ci := 0) (v := .ref (ad 1)) (C := RX0) (T := TX0) (N := 9) hx hb hts (xcons inX0) hown hK hR 4 rfl rfl 0 (by decide) hw0 (fun _ h9 => h9) rfl dX0_subsetBehind_55 ?_
        refine lv_aload_n hx hb dX0_subsetBehind_58 rfl (lv_at hl 1 rfl) ?_
        refine va_get (D := (dC, dI)) (ci := 0) (v := .ref (ad 8)) (C := RX0) (T := TX0) (N := 9) hx hb hts (xcons inX0) hown hK hR 4 rfl rfl 7 (by decide) hw3 (fun _ h9 => h9) rfl dX0_subsetBehind_59 ?_
        refine lv_iload hx hb dX0_subsetBehind_62 (lv_at hl 3 rfl) ?_
        refine xr_iald hx hb hK hR 7 0 rfl rfl n (by omega) (by omega) dX0_subsetBehind_64 ?_
        refine xro_i (va_runV (As := [.int (nI (sr n))]) (rest := [.int inv]) ⟨hx, hb, hml, hown, hts⟩ (c_variablesOf l dC dI cI cL cZ ad hinj nv av nc mt mf wt (sr n) (hsr n (by omega))) (xcwV 1 hts wd_282 wd_35 wd_279 wd_280 wd_281 rfl rfl (by decide +kernel) ⟨Nat.le_of_ble_eq_true rfl, Nat.le_of_ble_eq_true rfl⟩) (xpreV (va_recv hK hR rfl (q0 := 0) rfl) (hR.sub [0, 1, 2, 3] rfl) hK) rfl rfl hl.1 rfl (lv_room (Nat.le_of_ble_eq_true rfl)) dX0_subsetBehind_65 ⟨Nat.le_of_ble_eq_true rfl, Nat.le_of_ble_eq_true rfl⟩) hS (fun H locs hk hS => ?_)
        refine lv_ior hx hb dX0_subsetBehind_68 ?_
        refine lv_istore (lv' := [(4, .int (inv ||| (f_variablesOf mt mf (sr n)))), (2, .long (found ||| ((1 : Int64) <<< ((nI (sr n)).toInt64 &&& 63)))), (0, .ref (ad 5)), (5, .int (nI n))]) hx hb dX0_subsetBehind_69 hl (by decide) rfl (fun ls hl => ?_)
        refine lv_iinc (k := 3) (v := ((nI n) - 1)) (lv' := [(5, .int ((nI n) - 1)), (4, .int (inv ||| (f_variablesOf mt mf (sr n)))), (2, .long (found ||| ((1 : Int64) <<< ((nI (sr n)).toInt64 &&& 63)))), (0, .ref (ad 5))]) hx hb dX0_subsetBehind_71 hl rfl (xdec1 _) (by decide) rfl (fun ls hl => ?_)
        refine lv_goto (tgt := 22) hx hb dX0_subsetBehind_74 (by decide) ?_
        exact ih ((nI n) - 1) (found ||| ((1 : Int64) <<< ((nI (sr n)).toInt64 &&& 63))) (inv ||| (f_variablesOf mt mf (sr n))) _ _ _ hF (by simp) (by omega) hS (lv_sub hl [3, 2, 1, 0] rfl)
  exact lp22 st ((nI st) - 1) ((1 : Int64) <<< ((nI i).toInt64 &&& 63)) (f_variablesOf mt mf i) _ _ _ hF (by simp) (Nat.le_refl _) hS (lv_sub hl [3, 2, 1, 0] rfl)
set_option maxHeartbeats 4000000 in
set_option maxRecDepth 100000 in
theorem c_subsetAt (l : Launch) (dC : Nat → ClassId) (dI : Nat → Nat → Nat) (cI cL cZ : ClassId) (ad : Nat → Nat) (hinj : xI ad 15) (ss : Nat → Int64) (sc : Nat) (avl : Int64) (gh gv : Int32) (sv : Nat → Int32) (sr : Nat → Nat) (st : Nat) (j : Int32) (hsc : sc ≤ 40) : Met l yX0_subsetAt wsX0_subsetAt ({ frames := 0, cells := 0, slots := 0, locals := 0 }) (va_Pc [.ref (ad 5), .int j] (fun U => va_P (dC, dI) vwCl [(ad 5, .inr (0, [.ref (ad 1), .ref (ad 6), .int (nI sc), .long avl, .int gh, .int gv, .ref (ad 7), .ref (ad 8), .int (nI st)])), (ad 6, .inl (cL, 40, .inr (.inl ss))), (ad 7, .inl (cI, 10, .inl sv)), (ad 8, .inl (cI, 10, .inl (xnI sr)))] U.heap ∧ va_K (dC, dI) vwCl [(cI, .int), (cL, .long), (cZ, .boolean)] U)) (va_Ql (fun r (_ : Unit) => f_subsetAt ss sc j = r) (fun _ _ => True) xN) 0 0 xN := by
  refine Met.ofW (cc := cX0_subsetAt) (maxL := 2) (ret := (some .long)) (by decide) rfl ?_
  intro p e s m args below meth c s₁ B hml hvv
  obtain ⟨rfl, hP0, hK⟩ := hvv
  have hx := B.exec
  have hb := B.bytes
  have hr := B.returns
  have hts := atoms_spec (ws := wsX0_subsetAt) B.pre
  have hown : s.vm.findClass RX0 = some m.cls := findClass_of_methodNamed B.named
  have hlocks := B.notSynchronized
  have hw0 : (.fieldLink RX0 26 "WeightedClauses$Bounds" "subsetCount" "I" : Cond).before _ s = true := hts _ (List.mem_cons_of_mem _ wd_100)
  have hw1 : (.fieldLink RX0 9 "WeightedClauses$Bounds" "subsets" "[J" : Cond).before _ s = true := hts _ (List.mem_cons_of_mem _ wd_99)
  have hPr : va_P (dC, dI) vwCl [(ad 5, .inr (0, [.ref (ad 1), .ref (ad 6), .int (nI sc), .long avl, .int gh, .int gv, .ref (ad 7), .ref (ad 8), .int (nI st)])), (ad 6, .inl (cL, 40, .inr (.inl ss))), (ad 7, .inl (cI, 10, .inl sv)), (ad 8, .inl (cI, 10, .inl (xnI sr)))] s.heap := hP0.sub [0, 1, 2, 3] rfl
  have hS : va_S xN s.heap s.heap [] := va_S.rf
  have hl := lv_entry [.ref (ad 5), .int j] (n := 2) (Nat.le_of_ble_eq_true rfl)
  rw [lg_entry_eq]
  generalize (lg_sl [.ref (ad 5), .int j] ++ List.replicate (2 - (lg_sl [.ref (ad 5), .int j]).length) Slot.unset).toArray = ls at hl ⊢
  have hl : lv_has ls 2 [(0, .ref (ad 5)), (1, .int j)] := hl
  have hF := Eq.refl (f_subsetAt ss sc j)
  conv at hF => rhs; unfold f_subsetAt
  refine lv_iload_n hx hb dX0_subsetAt_0 rfl (lv_at hl 1 rfl) ?_
  refine lv_if_lt (tgt := 21) hx hb dX0_subsetAt_1 (by decide) (fun h1 => ?_) (fun h1 => ?_)
  · have hF := hF.trans (if_pos h1)
    refine lv_lconst (v := 0) hx hb dX0_subsetAt_21 (by decide) ?_
    exact W.lret (v := 0) hx hb hr (fun t ht hW => ⟨⟨_, (), rfl, hF, trivial⟩, hS.F ht⟩) hS.2.2 dX0_subsetAt_22
  · have hF := hF.trans (if_neg h1)
    have hj1 := h1
    refine lv_iload_n hx hb dX0_subsetAt_4 rfl (lv_at hl 1 rfl) ?_
    refine lv_aload_n hx hb dX0_subsetAt_5 rfl (lv_at hl 0 rfl) ?_
    have hR := xP0 hPr xnN hS
    refine va_get (D := (dC, dI)) (ci := 0) (v := .int (nI sc)) (C := RX0) (T := TX0) (N := 9) hx hb hts (xcons inX0) hown hK hR 0 rfl rfl 2 (by decide) hw0 (fun _ h9 => h9) rfl dX0_subsetAt_6 ?_
    refine lv_icmp_ge (tgt := 21) hx hb dX0_subsetAt_9 (by decide) (fun h2 => ?_) (fun h2 => ?_)
    · have hF := hF.trans (if_pos h2)
      refine lv_lconst (v := 0) hx hb dX0_subsetAt_21 (by decide) ?_
      exact W.lret (v := 0) hx hb hr (fun t ht hW => ⟨⟨_, (), rfl, hF, trivial⟩, hS.F ht⟩) hS.2.2 dX0_subsetAt_22
    · have hF := hF.trans (if_neg h2)
      have hj2 := h2
      refine lv_aload_n hx hb dX0_subsetAt_12 rfl (lv_at hl 0 rfl) ?_
      refine va_get (D := (dC, dI)) (ci := 0) (v := .ref (ad 6)) (C := RX0) (T := TX0) (N := 9) hx hb hts (xcons inX0) hown hK hR 0 rfl rfl 1 (by decide) hw1 (fun _ h9 => h9) rfl dX0_subsetAt_13 ?_
      refine lv_iload_n hx hb dX0_subsetAt_16 rfl (lv_at hl 1 rfl) ?_
      refine va_lald hx hb hK hR 1 1 rfl rfl (xin hj1 hj2 hsc (by decide)) dX0_subsetAt_17 ?_
      refine lv_goto (tgt := 22) hx hb dX0_subsetAt_18 (by decide) ?_
      exact W.lret (v := (ss j.toNatClampNeg)) hx hb hr (fun t ht hW => ⟨⟨_, (), rfl, hF, trivial⟩, hS.F ht⟩) hS.2.2 dX0_subsetAt_22
end
section
/-! what the walk needs to know of the functions: bounds -/
theorem ff_L (mt mf : Nat → Int32) (avl : Int64) (gh gv : Int32) : ∀ n i : Nat, f_firstFalseClause_L mt mf avl gh gv n i = -1 ∨ ∃ k, k < i + n ∧ f_firstFalseClause_L mt mf avl gh gv n i = nI k := by
  intro n
  induction n with
  | zero => intro i; left; rfl
  | succ n ih =>
    intro i
    rw [f_firstFalseClause_L]
    have hs : f_firstFalseClause_L mt mf avl gh gv n (i + 1) = -1 ∨ ∃ k, k < i + (n + 1) ∧ f_firstFalseClause_L mt mf avl gh gv n (i + 1) = nI k := by
      rcases ih (i + 1) with h | ⟨k, hk, h⟩
      · exact Or.inl h
      · exact Or.inr ⟨k, by omega, h⟩
    split
    · exact hs
    · split
      · exact hs
      · exact Or.inr ⟨i, by omega, rfl⟩
theorem ff_ok {nc : Nat} {mt mf : Nat → Int32} {avl : Int64} {gh gv : Int32} (hnc : nc ≤ 40) (h : ¬ f_firstFalseClause nc mt mf avl gh gv = -1) :
    nI (f_firstFalseClause nc mt mf avl gh gv).toNatClampNeg = f_firstFalseClause nc mt mf avl gh gv ∧ (f_firstFalseClause nc mt mf avl gh gv).toNatClampNeg < nc := by
  rcases ff_L mt mf avl gh gv nc 0 with h1 | ⟨k, hk, h1⟩
  · exact absurd h1 h
  · have h2 : f_firstFalseClause nc mt mf avl gh gv = nI k := h1
    rw [h2, nI_clamp (by omega)]
    exact ⟨rfl, by omega⟩
theorem fu_L (mt mf : Nat → Int32) (avl : Int64) (gh gv : Int32) : ∀ n i : Nat, f_firstUnitClause_L mt mf avl gh gv n i = -1 ∨ ∃ k, k < i + n ∧ f_firstUnitClause_L mt mf avl gh gv n i = nI k := by
  intro n
  induction n with
  | zero => intro i; left; rfl
  | succ n ih =>
    intro i
    rw [f_firstUnitClause_L]
    have hs : f_firstUnitClause_L mt mf avl gh gv n (i + 1) = -1 ∨ ∃ k, k < i + (n + 1) ∧ f_firstUnitClause_L mt mf avl gh gv n (i + 1) = nI k := by
      rcases ih (i + 1) with h | ⟨k, hk, h⟩
      · exact Or.inl h
      · exact Or.inr ⟨k, by omega, h⟩
    split
    · split
      · exact hs
      · split
        · exact Or.inr ⟨i, by omega, rfl⟩
        · exact hs
    · exact hs
theorem fu_ok {nc : Nat} {mt mf : Nat → Int32} {avl : Int64} {gh gv : Int32} (hnc : nc ≤ 40) (h : ¬ f_firstUnitClause nc mt mf avl gh gv = -1) :
    nI (f_firstUnitClause nc mt mf avl gh gv).toNatClampNeg = f_firstUnitClause nc mt mf avl gh gv ∧ (f_firstUnitClause nc mt mf avl gh gv).toNatClampNeg < nc := by
  rcases fu_L mt mf avl gh gv nc 0 with h1 | ⟨k, hk, h1⟩
  · exact absurd h1 h
  · have h2 : f_firstUnitClause nc mt mf avl gh gv = nI k := h1
    rw [h2, nI_clamp (by omega)]
    exact ⟨rfl, by omega⟩
theorem growBy_ok {mt mf : Nat → Int32} {gh gv : Int32} {sv : Nat → Int32} {sr : Nat → Nat} {st i : Nat} {gh1 gv1 : Int32} {sv1 : Nat → Int32} {sr1 : Nat → Nat} {st1 : Nat} (h : f_growBy mt mf gh gv sv sr st i = (gh1, gv1, sv1, sr1, st1)) (hst : st ≤ 10) (hsr : ∀ j, j < st → sr j < 40) (hi : i < 40) :
    st1 ≤ 10 ∧ ∀ j, j < st1 → sr1 j < 40 := by
  unfold f_growBy at h
  split at h
  · rename_i hc
    have hlt := xlt 10 hc (by omega) (by decide)
    simp only [Prod.mk.injEq] at h
    obtain ⟨-, -, -, h4, h5⟩ := h
    subst h4; subst h5
    refine ⟨by omega, fun j hj => ?_⟩
    by_cases he : j = st
    · rw [he, va_up_self]; exact hi
    · rw [va_up_ne _ _ he]; exact hsr j (by omega)
  · simp only [Prod.mk.injEq] at h
    obtain ⟨-, -, -, h4, h5⟩ := h
    subst h4; subst h5
    exact ⟨hst, hsr⟩
end
section
def f_nextSubset_L (nc : Nat) (mt mf : Nat → Int32) (avl : Int64) : Nat → Nat → Int32 → Int32 → (Nat → Int32) → (Nat → Nat) → Nat → Int64 × Int32 × Int32 × (Nat → Int32) × (Nat → Nat) × Nat
  | 0, i, gh2, gv2, sv2, sr2, st2 =>
    (0, (gh2, gv2, sv2, sr2, st2))
  | n + 1, i, gh2, gv2, sv2, sr2, st2 =>
    if (f_firstFalseClause nc mt mf avl gh2 gv2) = (-1) then
      if (f_firstUnitClause nc mt mf avl gh2 gv2) = (-1) then
        (0, (gh2, gv2, sv2, sr2, st2))
      else
        match (f_growBy mt mf gh2 gv2 sv2 sr2 st2 ((f_firstUnitClause nc mt mf avl gh2 gv2).toNatClampNeg)) with
        | (gh1_59, gv1_59, sv1_59, sr1_59, st1_59) =>
          f_nextSubset_L nc mt mf avl n (i + 1) gh1_59 gv1_59 sv1_59 sr1_59 st1_59
    else
      ((f_subsetBehind mt mf sv2 sr2 st2 ((f_firstFalseClause nc mt mf avl gh2 gv2).toNatClampNeg)), (gh2, gv2, sv2, sr2, st2))
def f_nextSubset (nc : Nat) (mt mf : Nat → Int32) (avl : Int64) (sv : Nat → Int32) (sr : Nat → Nat) (hv vl : Int32) : Int64 × Int32 × Int32 × (Nat → Int32) × (Nat → Nat) × Nat :=
  f_nextSubset_L nc mt mf avl 11 0 hv vl sv sr 0
set_option maxHeartbeats 4000000 in
set_option maxRecDepth 100000 in
theorem c_nextSubset (l : Launch) (dC : Nat → ClassId) (dI : Nat → Nat → Nat) (cI cL cZ : ClassId) (ad : Nat → Nat) (hinj : xI ad 15) (nv : Nat) (av : Int32) (nc : Nat) (mt mf wt : Nat → Int32) (ss : Nat → Int64) (sc : Nat) (avl : Int64) (gh gv : Int32) (sv : Nat → Int32) (sr : Nat → Nat) (st : Nat) (hnc : nc ≤ 40) (hv vl : Int32) : Met l yX0_nextSubset wsX0_nextSubset ({ frames := 2, cells := 0, slots := 0, locals := 46 }) (va_Pc [.ref (ad 5), .int hv, .int vl] (fun U => va_P (dC, dI) vwCl [(ad 1, .inr (1, [.int (nI nv), .int av, .int (nI nc), .ref (ad 2), .ref (ad 3), .ref (ad 4)])), (ad 2, .inl (cI, 40, .inl mt)), (ad 3, .inl (cI, 40, .inl mf)), (ad 4, .inl (cI, 40, .inl wt)), (ad 5, .inr (0, [.ref (ad 1), .ref (ad 6), .int (nI sc), .long avl, .int gh, .int gv, .ref (ad 7), .ref (ad 8), .int (nI st)])), (ad 6, .inl (cL, 40, .inr (.inl ss))), (ad 7, .inl (cI, 10, .inl sv)), (ad 8, .inl (cI, 10, .inl (xnI sr)))] U.heap ∧ va_K (dC, dI) vwCl [(cI, .int), (cL, .long), (cZ, .boolean)] U)) (va_Ql (fun r u => f_nextSubset nc mt mf avl sv sr hv vl = (r, u)) (xB (dC, dI) vwCl (fun (u : Int32 × Int32 × (Nat → Int32) × (Nat → Nat) × Nat) => match u with | (gh1, gv1, sv1, sr1, st1) => [(ad 5, .inr (0, [.ref (ad 1), .ref (ad 6), .int (nI sc), .long avl, .int gh1, .int gv1, .ref (ad 7), .ref (ad 8), .int (nI st1)])), (ad 6, .inl (cL, 40, .inr (.inl ss))), (ad 7, .inl (cI, 10, .inl sv1)), (ad 8, .inl (cI, 10, .inl (xnI sr1)))])) (xA ad [5, 6, 7, 8])) 0 0 (xA ad [5, 6, 7, 8]) := by
  refine Met.ofW (cc := cX0_nextSubset) (maxL := 6) (ret := (some .long)) (by decide) rfl ?_
  intro p e s m args below meth c s₁ B hml hvv
  obtain ⟨rfl, hP0, hK⟩ := hvv
  have hx := B.exec
  have hb := B.bytes
  have hr := B.returns
  have hts := atoms_spec (ws := wsX0_nextSubset) B.pre
  have hown : s.vm.findClass RX0 = some m.cls := findClass_of_methodNamed B.named
  have hlocks := B.notSynchronized
  have hw0 : (.fieldLink RX0 54 "WeightedClauses$Bounds" "grownHave" "I" : Cond).before _ s = true := hts _ (List.mem_cons_of_mem _ wd_102)
  have hw1 : (.fieldLink RX0 57 "WeightedClauses$Bounds" "grownValues" "I" : Cond).before _ s = true := hts _ (List.mem_cons_of_mem _ wd_103)
  have hw2 : (.fieldLink RX0 60 "WeightedClauses$Bounds" "stepCount" "I" : Cond).before _ s = true := hts _ (List.mem_cons_of_mem _ wd_106)
  have hPr : va_P (dC, dI) vwCl [(ad 1, .inr (1, [.int (nI nv), .int av, .int (nI nc), .ref (ad 2), .ref (ad 3), .ref (ad 4)])), (ad 2, .inl (cI, 40, .inl mt)), (ad 3, .inl (cI, 40, .inl mf)), (ad 4, .inl (cI, 40, .inl wt))] s.heap := hP0.sub [0, 1, 2, 3] rfl
  have hP : va_P (dC, dI) vwCl [(ad 5, .inr (0, [.ref (ad 1), .ref (ad 6), .int (nI sc), .long avl, .int gh, .int gv, .ref (ad 7), .ref (ad 8), .int (nI st)])), (ad 6, .inl (cL, 40, .inr (.inl ss))), (ad 7, .inl (cI, 10, .inl sv)), (ad 8, .inl (cI, 10, .inl (xnI sr)))] s.heap := hP0.sub [4, 5, 6, 7] rfl
  have hS : va_S (xA ad [5, 6, 7, 8]) s.heap s.heap [] := va_S.rf
  have hl := lv_entry [.ref (ad 5), .int hv, .int vl] (n := 6) (Nat.le_of_ble_eq_true rfl)
  rw [lg_entry_eq]
  generalize (lg_sl [.ref (ad 5), .int hv, .int vl] ++ List.replicate (6 - (lg_sl [.ref (ad 5), .int hv, .int vl]).length) Slot.unset).toArray = ls at hl ⊢
  have hl : lv_has ls 6 [(0, .ref (ad 5)), (1, .int hv), (2, .int vl)] := hl
  have hF := Eq.refl (f_nextSubset nc mt mf avl sv sr hv vl)
  conv at hF => rhs; unfold f_nextSubset
  refine lv_aload_n hx hb dX0_nextSubset_0 rfl (lv_at hl 0 rfl) ?_
  refine lv_iload_n hx hb dX0_nextSubset_1 rfl (lv_at hl 1 rfl) ?_
  refine va_put (D := (dC, dI)) (ci := 0) (v := .int hv) (ty := .int) (C := RX0) (T := TX0) (N := 9) hx hb hts (xcons inX0) tyX0 tyX0_ok nX0 hown hK hP (xD hinj [5, 6, 7, 8] rfl (by decide) (by decide)) hS 0 rfl rfl 4 (by decide) hw0 (fun _ h9 => h9) rfl (by decide +kernel) rfl rfl (Nat.le_of_ble_eq_true rfl) dX0_nextSubset_2 (fun H locs hP _ hS => ?_)
  have hP : va_P (dC, dI) vwCl [(ad 5, .inr (0, [.ref (ad 1), .ref (ad 6), .int (nI sc), .long avl, .int hv, .int gv, .ref (ad 7), .ref (ad 8), .int (nI st)])), (ad 6, .inl (cL, 40, .inr (.inl ss))), (ad 7, .inl (cI, 10, .inl sv)), (ad 8, .inl (cI, 10, .inl (xnI sr)))] H := hP
  refine lv_aload_n hx hb dX0_nextSubset_5 rfl (lv_at hl 0 rfl) ?_
  refine lv_iload_n hx hb dX0_nextSubset_6 rfl (lv_at hl 2 rfl) ?_
  refine va_put (D := (dC, dI)) (ci := 0) (v := .int vl) (ty := .int) (C := RX0) (T := TX0) (N := 9) hx hb hts (xcons inX0) tyX0 tyX0_ok nX0 hown hK hP (xD hinj [5, 6, 7, 8] rfl (by decide) (by decide)) hS 0 rfl rfl 5 (by decide) hw1 (fun _ h9 => h9) rfl (by decide +kernel) rfl rfl (Nat.le_of_ble_eq_true rfl) dX0_nextSubset_7 (fun H locs hP _ hS => ?_)
  have hP : va_P (dC, dI) vwCl [(ad 5, .inr (0, [.ref (ad 1), .ref (ad 6), .int (nI sc), .long avl, .int hv, .int vl, .ref (ad 7), .ref (ad 8), .int (nI st)])), (ad 6, .inl (cL, 40, .inr (.inl ss))), (ad 7, .inl (cI, 10, .inl sv)), (ad 8, .inl (cI, 10, .inl (xnI sr)))] H := hP
  refine lv_aload_n hx hb dX0_nextSubset_10 rfl (lv_at hl 0 rfl) ?_
  refine lv_iconst (v := 0) hx hb dX0_nextSubset_11 (by decide) ?_
  refine va_put (D := (dC, dI)) (ci := 0) (v := .int 0) (ty := .int) (C := RX0) (T := TX0) (N := 9) hx hb hts (xcons inX0) tyX0 tyX0_ok nX0 hown hK hP (xD hinj [5, 6, 7, 8] rfl (by decide) (by decide)) hS 0 rfl rfl 8 (by decide) hw2 (fun _ h9 => h9) rfl (by decide +kernel) rfl rfl (Nat.le_of_ble_eq_true rfl) dX0_nextSubset_12 (fun H locs hP _ hS => ?_)
  have hP : va_P (dC, dI) vwCl [(ad 5, .inr (0, [.ref (ad 1), .ref (ad 6), .int (nI sc), .long avl, .int hv, .int vl, .ref (ad 7), .ref (ad 8), .int 0])), (ad 6, .inl (cL, 40, .inr (.inl ss))), (ad 7, .inl (cI, 10, .inl sv)), (ad 8, .inl (cI, 10, .inl (xnI sr)))] H := hP
  refine lv_iconst (v := 0) hx hb dX0_nextSubset_15 (by decide) ?_
  refine lv_istore_n (lv' := [(3, .int 0), (0, .ref (ad 5)), (1, .int hv), (2, .int vl)]) hx hb dX0_nextSubset_16 rfl hl (by decide) rfl (fun ls hl => ?_)
  have lp17 : ∀ (n : Nat) (i : Nat) (gh2 gv2 : Int32) (sv2 : Nat → Int32) (sr2 : Nat → Nat) (st2 : Nat) (H : Heap) (locs : List Loc) (ls : Array Slot), f_nextSubset nc mt mf avl sv sr hv vl = f_nextSubset_L nc mt mf avl n i gh2 gv2 sv2 sr2 st2 → i + n = 11 → st2 ≤ 10 → (∀ j, j < st2 → sr2 j < 40) → va_P (dC, dI) vwCl [(ad 5, .inr (0, [.ref (ad 1), .ref (ad 6), .int (nI sc), .long avl, .int gh2, .int gv2, .ref (ad 7), .ref (ad 8), .int (nI st2)])), (ad 6, .inl (cL, 40, .inr (.inl ss))), (ad 7, .inl (cI, 10, .inl sv2)), (ad 8, .inl (cI, 10, .inl (xnI sr2)))] H → va_S (xA ad [5, 6, 7, 8]) s.heap H locs → lv_has ls 6 [(0, .ref (ad 5)), (1, .int hv), (2, .int vl), (3, .int (nI i))] → W p l e (headSpec wsX0_nextSubset ({ frames := 2, cells := 0, slots := 0, locals := 46 })).room s m [.ref (ad 5), .int hv, .int vl].toArray below meth c H locs 0 0 (MQ below (va_Ql (fun r u => f_nextSubset nc mt mf avl sv sr hv vl = (r, u)) (xB (dC, dI) vwCl (fun (u : Int32 × Int32 × (Nat → Int32) × (Nat → Nat) × Nat) => match u with | (gh1, gv1, sv1, sr1, st1) => [(ad 5, .inr (0, [.ref (ad 1), .ref (ad 6), .int (nI sc), .long avl, .int gh1, .int gv1, .ref (ad 7), .ref (ad 8), .int (nI st1)])), (ad 6, .inl (cL, 40, .inr (.inl ss))), (ad 7, .inl (cI, 10, .inl sv1)), (ad 8, .inl (cI, 10, .inl (xnI sr1)))])) (xA ad [5, 6, 7, 8])) [.ref (ad 5), .int hv, .int vl].toArray s 0 0 (xA ad [5, 6, 7, 8])) (F0 m 17 ls []) := by
    intro n
    induction n with
    | zero =>
      intro i gh2 gv2 sv2 sr2 st2 H locs ls hF hil hst2 hsr2 hP hS hl
      rw [f_nextSubset_L] at hF
      refine lv_iload_n hx hb dX0_nextSubset_17 rfl (lv_at hl 3 rfl) ?_
      refine lv_bipush (v := 10) hx hb dX0_nextSubset_18 (by decide) ?_
      refine lv_icmp_gt (tgt := 68) hx hb dX0_nextSubset_20 (by decide) (fun h1 => ?_) (fun h1 => absurd (nI_lt (a := 10) (by omega) (by omega)) h1)
      refine lv_lconst (v := 0) hx hb dX0_nextSubset_68 (by decide) ?_
      exact W.lret (v := 0) hx hb hr (fun t ht hW => ⟨⟨_, (gh2, gv2, sv2, sr2, st2), rfl, hF, xBi ht hP⟩, hS.F ht⟩) hS.2.2 dX0_nextSubset_69
    | succ n ih =>
      intro i gh2 gv2 sv2 sr2 st2 H locs ls hF hil hst2 hsr2 hP hS hl
      rw [f_nextSubset_L] at hF
      refine lv_iload_n hx hb dX0_nextSubset_17 rfl (lv_at hl 3 rfl) ?_
      refine lv_bipush (v := 10) hx hb dX0_nextSubset_18 (by decide) ?_
      refine lv_icmp_gt (tgt := 68) hx hb dX0_nextSubset_20 (by decide) (fun h2 => absurd h2 (nI_nlt (a := 10) (b := i) (by omega) (by decide))) (fun h2 => ?_)
      refine lv_aload_n hx hb dX0_nextSubset_23 rfl (lv_at hl 0 rfl) ?_
      have hR := xP0 hPr (xnA hinj [1, 2, 3, 4] rfl (by decide)) hS
      refine xro_i (va_runV (As := []) (rest := []) ⟨hx, hb, hml, hown, hts⟩ (c_firstFalseClause l dC dI cI cL cZ ad hinj nv av nc mt mf wt ss sc avl gh2 gv2 sv2 sr2 st2 (by omega)) (xcwV 0 hts wd_269 wd_37 wd_266 wd_268 wd_4 rfl rfl (by decide +kernel) ⟨Nat.le_of_ble_eq_true rfl, Nat.le_of_ble_eq_true rfl⟩) (xpreV (va_recv hK hP rfl (q0 := 0) rfl) ((hR.app hP).sub [0, 1, 2, 3, 4, 5, 6, 7] rfl) hK) rfl rfl hl.1 rfl (lv_room (Nat.le_of_ble_eq_true rfl)) dX0_nextSubset_24 ⟨Nat.le_of_ble_eq_true rfl, Nat.le_of_ble_eq_true rfl⟩) hS (fun H locs hk hS => ?_)
      have hP := xkeep hP hk
      refine lv_istore (lv' := [(4, .int (f_firstFalseClause nc mt mf avl gh2 gv2)), (0, .ref (ad 5)), (1, .int hv), (2, .int vl), (3, .int (nI i))]) hx hb dX0_nextSubset_27 hl (by decide) rfl (fun ls hl => ?_)
      refine lv_iload hx hb dX0_nextSubset_29 (lv_at hl 0 rfl) ?_
      refine lv_iconst (v := (-1)) hx hb dX0_nextSubset_31 (by decide) ?_
      refine lv_icmp_eq (tgt := 42) hx hb dX0_nextSubset_32 (by decide) (fun h3 => ?_) (fun h3 => ?_)
      · have hF := hF.trans (if_pos h3)
        refine lv_aload_n hx hb dX0_nextSubset_42 rfl (lv_at hl 1 rfl) ?_
        have hR := xP0 hPr (xnA hinj [1, 2, 3, 4] rfl (by decide)) hS
        refine xro_i (va_runV (As := []) (rest := []) ⟨hx, hb, hml, hown, hts⟩ (c_firstUnitClause l dC dI cI cL cZ ad hinj nv av nc mt mf wt ss sc avl gh2 gv2 sv2 sr2 st2 (by omega)) (xcwV 0 hts wd_286 wd_37 wd_283 wd_285 wd_7 rfl rfl (by decide +kernel) ⟨Nat.le_of_ble_eq_true rfl, Nat.le_of_ble_eq_true rfl⟩) (xpreV (va_recv hK hP rfl (q0 := 0) rfl) ((hR.app hP).sub [0, 1, 2, 3, 4, 5, 6, 7] rfl) hK) rfl rfl hl.1 rfl (lv_room (Nat.le_of_ble_eq_true rfl)) dX0_nextSubset_43 ⟨Nat.le_of_ble_eq_true rfl, Nat.le_of_ble_eq_true rfl⟩) hS (fun H locs hk hS => ?_)
        have hP := xkeep hP hk
        refine lv_istore (lv' := [(5, .int (f_firstUnitClause nc mt mf avl gh2 gv2)), (4, .int (f_firstFalseClause nc mt mf avl gh2 gv2)), (0, .ref (ad 5)), (1, .int hv), (2, .int vl), (3, .int (nI i))]) hx hb dX0_nextSubset_46 hl (by decide) rfl (fun ls hl => ?_)
        refine lv_iload hx hb dX0_nextSubset_48 (lv_at hl 0 rfl) ?_
        refine lv_iconst (v := (-1)) hx hb dX0_nextSubset_50 (by decide) ?_
        refine lv_icmp_ne (tgt := 56) hx hb dX0_nextSubset_51 (by decide) (fun h4 => ?_) (fun h4 => ?_)
        · have hF := hF.trans (if_neg h4)
          have hq := fu_ok hnc h4
          refine lv_aload_n hx hb dX0_nextSubset_56 rfl (lv_at hl 2 rfl) ?_
          refine lv_iload hx hb dX0_nextSubset_57 (lv_at hl 0 rfl) ?_
          rw [← hq.1]
          have hR := xP0 hPr (xnA hinj [1, 2, 3, 4] rfl (by decide)) hS
          refine xrw_v (va_runV (As := [.int (nI (f_firstUnitClause nc mt mf avl gh2 gv2).toNatClampNeg)]) (rest := []) ⟨hx, hb, hml, hown, hts⟩ (c_growBy l dC dI cI cL cZ ad hinj nv av nc mt mf wt ss sc avl gh2 gv2 sv2 sr2 st2 ((f_firstUnitClause nc mt mf avl gh2 gv2).toNatClampNeg) (by omega) (by omega)) (xcwV 1 hts wd_298 wd_37 wd_295 wd_297 wd_8 rfl rfl (by decide +kernel) ⟨Nat.le_of_ble_eq_true rfl, Nat.le_of_ble_eq_true rfl⟩) (xpreV (va_recv hK hP rfl (q0 := 0) rfl) ((hR.app hP).sub [0, 1, 2, 3, 4, 5, 6, 7] rfl) hK) rfl rfl hl.1 rfl (lv_room (Nat.le_of_ble_eq_true rfl)) dX0_nextSubset_59 ⟨Nat.le_of_ble_eq_true rfl, Nat.le_of_ble_eq_true rfl⟩) hS (xAsub (by decide)) (fun u H locs h5 hB hk hS => ?_)
          obtain ⟨gh1_59, gv1_59, sv1_59, sr1_59, st1_59⟩ := u
          have hP : va_P (dC, dI) vwCl [(ad 5, .inr (0, [.ref (ad 1), .ref (ad 6), .int (nI sc), .long avl, .int gh1_59, .int gv1_59, .ref (ad 7), .ref (ad 8), .int (nI st1_59)])), (ad 6, .inl (cL, 40, .inr (.inl ss))), (ad 7, .inl (cI, 10, .inl sv1_59)), (ad 8, .inl (cI, 10, .inl (xnI sr1_59)))] H := va_P.sub hB [0, 1, 2, 3] rfl
          rw [h5] at hF
          dsimp only at hF
          have hg := growBy_ok h5 hst2 hsr2 (by omega)
          refine lv_iinc (k := 5) (v := (nI (i + 1))) (lv' := [(3, .int (nI (i + 1))), (5, .int (f_firstUnitClause nc mt mf avl gh2 gv2)), (4, .int (f_firstFalseClause nc mt mf avl gh2 gv2)), (0, .ref (ad 5)), (1, .int hv), (2, .int vl)]) hx hb dX0_nextSubset_62 hl rfl (xinc _) (by decide) rfl (fun ls hl => ?_)
          refine lv_goto (tgt := 17) hx hb dX0_nextSubset_65 (by decide) ?_
          exact ih (i + 1) gh1_59 gv1_59 sv1_59 sr1_59 st1_59 _ _ _ hF (by omega) hg.1 hg.2 hP hS (lv_sub hl [3, 4, 5, 0] rfl)
        · have hF := hF.trans (if_pos h4)
          refine lv_lconst (v := 0) hx hb dX0_nextSubset_54 (by decide) ?_
          exact W.lret (v := 0) hx hb hr (fun t ht hW => ⟨⟨_, (gh2, gv2, sv2, sr2, st2), rfl, hF, xBi ht hP⟩, hS.F ht⟩) hS.2.2 dX0_nextSubset_55
      · have hF := hF.trans (if_neg h3)
        have hq := ff_ok hnc h3
        refine lv_aload_n hx hb dX0_nextSubset_35 rfl (lv_at hl 1 rfl) ?_
        refine lv_iload hx hb dX0_nextSubset_36 (lv_at hl 0 rfl) ?_
        rw [← hq.1]
        have hR := xP0 hPr (xnA hinj [1, 2, 3, 4] rfl (by decide)) hS
        refine xro_l (va_runV (As := [.int (nI (f_firstFalseClause nc mt mf avl gh2 gv2).toNatClampNeg)]) (rest := []) ⟨hx, hb, hml, hown, hts⟩ (c_subsetBehind l dC dI cI cL cZ ad hinj nv av nc mt mf wt ss sc avl gh2 gv2 sv2 sr2 st2 ((f_firstFalseClause nc mt mf avl gh2 gv2).toNatClampNeg) (by omega) (by omega) hsr2) (xcwV 1 hts wd_278 wd_37 wd_275 wd_277 wd_6 rfl rfl (by decide +kernel) ⟨Nat.le_of_ble_eq_true rfl, Nat.le_of_ble_eq_true rfl⟩) (xpreV (va_recv hK hP rfl (q0 := 0) rfl) ((hR.app hP).sub [0, 1, 2, 3, 4, 5, 6, 7] rfl) hK) rfl rfl hl.1 rfl (lv_room (Nat.le_of_ble_eq_true rfl)) dX0_nextSubset_38 ⟨Nat.le_of_ble_eq_true rfl, Nat.le_of_ble_eq_true rfl⟩) hS (fun H locs hk hS => ?_)
        have hP := xkeep hP hk
        exact W.lret (v := (f_subsetBehind mt mf sv2 sr2 st2 ((f_firstFalseClause nc mt mf avl gh2 gv2).toNatClampNeg))) hx hb hr (fun t ht hW => ⟨⟨_, (gh2, gv2, sv2, sr2, st2), rfl, hF, xBi ht hP⟩, hS.F ht⟩) hS.2.2 dX0_nextSubset_41
  exact lp17 11 0 hv vl sv sr 0 _ _ _ hF (by omega) (by omega) (fun j h => absurd h (Nat.not_lt_zero _)) hP hS (lv_sub hl [1, 2, 3, 0] rfl)
end
section
def f_boundOf_L (nc : Nat) (mt mf wt : Nat → Int32) (hv vl : Int32) : Nat → Nat → Int64 → (Nat → Int64) → Nat → Int64 → Int32 → Int32 → (Nat → Int32) → (Nat → Nat) → Nat → Int64 × (Nat → Int64) × Nat × Int64 × Int32 × Int32 × (Nat → Int32) × (Nat → Nat) × Nat
  | 0, i, tot, ss2, sc2, avl2, gh2, gv2, sv2, sr2, st2 =>
    (tot, (ss2, sc2, avl2, gh2, gv2, sv2, sr2, st2))
  | n + 1, i, tot, ss2, sc2, avl2, gh2, gv2, sv2, sr2, st2 =>
    match (f_nextSubset nc mt mf avl2 sv2 sr2 hv vl) with
    | (r_53, gh1_53, gv1_53, sv1_53, sr1_53, st1_53) =>
      if (lg_cmp r_53 0) = 0 then
        (tot, (ss2, sc2, avl2, gh1_53, gv1_53, sv1_53, sr1_53, st1_53))
      else
        if (f_lightestWeight nc wt r_53) = 0 then
          ((-2), ((vp_updL ss2 i r_53), (i + 1), avl2, gh1_53, gv1_53, sv1_53, sr1_53, st1_53))
        else
          f_boundOf_L nc mt mf wt hv vl n (i + 1) (tot + ((f_lightestWeight nc wt r_53).toInt64)) (vp_updL ss2 i r_53) (i + 1) (avl2 &&& (r_53 ^^^ (-1))) gh1_53 gv1_53 sv1_53 sr1_53 st1_53
def f_boundOf (nc : Nat) (mt mf wt : Nat → Int32) (ss : Nat → Int64) (sc : Nat) (avl : Int64) (gh gv : Int32) (sv : Nat → Int32) (sr : Nat → Nat) (st : Nat) (hv vl : Int32) : Int64 × (Nat → Int64) × Nat × Int64 × Int32 × Int32 × (Nat → Int32) × (Nat → Nat) × Nat :=
  if (lg_cmp (f_costOf nc mt mf wt hv vl) (-2)) = 0 then
    ((-2), (ss, 0, avl, gh, gv, sv, sr, st))
  else
    f_boundOf_L nc mt mf wt hv vl 40 0 (f_costOf nc mt mf wt hv vl) ss 0 (f_openClauses nc mt mf hv vl) gh gv sv sr st
set_option maxHeartbeats 4000000 in
set_option maxRecDepth 100000 in
theorem c_boundOf (l : Launch) (dC : Nat → ClassId) (dI : Nat → Nat → Nat) (cI cL cZ : ClassId) (ad : Nat → Nat) (hinj : xI ad 15) (nv : Nat) (av : Int32) (nc : Nat) (mt mf wt : Nat → Int32) (ss : Nat → Int64) (sc : Nat) (avl : Int64) (gh gv : Int32) (sv : Nat → Int32) (sr : Nat → Nat) (st : Nat) (hnc : nc ≤ 40) (hv vl : Int32) : Met l yX0_boundOf wsX0_boundOf ({ frames := 3, cells := 0, slots := 0, locals := 71 }) (va_Pc [.ref (ad 5), .int hv, .int vl] (fun U => va_P (dC, dI) vwCl [(ad 1, .inr (1, [.int (nI nv), .int av, .int (nI nc), .ref (ad 2), .ref (ad 3), .ref (ad 4)])), (ad 2, .inl (cI, 40, .inl mt)), (ad 3, .inl (cI, 40, .inl mf)), (ad 4, .inl (cI, 40, .inl wt)), (ad 5, .inr (0, [.ref (ad 1), .ref (ad 6), .int (nI sc), .long avl, .int gh, .int gv, .ref (ad 7), .ref (ad 8), .int (nI st)])), (ad 6, .inl (cL, 40, .inr (.inl ss))), (ad 7, .inl (cI, 10, .inl sv)), (ad 8, .inl (cI, 10, .inl (xnI sr)))] U.heap ∧ va_K (dC, dI) vwCl [(cI, .int), (cL, .long), (cZ, .boolean)] U)) (va_Ql (fun r u => f_boundOf nc mt mf wt ss sc avl gh gv sv sr st hv vl = (r, u)) (xB (dC, dI) vwCl (fun (u : (Nat → Int64) × Nat × Int64 × Int32 × Int32 × (Nat → Int32) × (Nat → Nat) × Nat) => match u with | (ss1, sc1, avl1, gh1, gv1, sv1, sr1, st1) => [(ad 5, .inr (0, [.ref (ad 1), .ref (ad 6), .int (nI sc1), .long avl1, .int gh1, .int gv1, .ref (ad 7), .ref (ad 8), .int (nI st1)])), (ad 6, .inl (cL, 40, .inr (.inl ss1))), (ad 7, .inl (cI, 10, .inl sv1)), (ad 8, .inl (cI, 10, .inl (xnI sr1)))])) (xA ad [5, 6, 7, 8])) 0 0 (xA ad [5, 6, 7, 8]) := by
  refine Met.ofW (cc := cX0_boundOf) (maxL := 9) (ret := (some .long)) (by decide) rfl ?_
  intro p e s m args below meth c s₁ B hml hvv
  obtain ⟨rfl, hP0, hK⟩ := hvv
  have hx := B.exec
  have hb := B.bytes
  have hr := B.returns
  have hts := atoms_spec (ws := wsX0_boundOf) B.pre
  have hown : s.vm.findClass RX0 = some m.cls := findClass_of_methodNamed B.named
  have hlocks := B.notSynchronized
  have hw0 : (.fieldLink RX0 26 "WeightedClauses$Bounds" "subsetCount" "I" : Cond).before _ s = true := hts _ (List.mem_cons_of_mem _ wd_100)
  have hw1 : (.fieldLink RX0 22 "WeightedClauses$Bounds" "formula" "LWeightedClauses$Formula;" : Cond).before _ s = true := hts _ (List.mem_cons_of_mem _ wd_98)
  have hw2 : (.constantLong RX0 36 (-2) : Cond).before _ s = true := hts _ (List.mem_cons_of_mem _ wd_249)
  have hw3 : (.fieldLink RX0 41 "WeightedClauses$Bounds" "available" "J" : Cond).before _ s = true := hts _ (List.mem_cons_of_mem _ wd_101)
  have hw4 : (.fieldLink RX0 9 "WeightedClauses$Bounds" "subsets" "[J" : Cond).before _ s = true := hts _ (List.mem_cons_of_mem _ wd_99)
  have hw5 : (.constantLong RX0 52 (-1) : Cond).before _ s = true := hts _ (List.mem_cons_of_mem _ wd_307)
  have hPr : va_P (dC, dI) vwCl [(ad 1, .inr (1, [.int (nI nv), .int av, .int (nI nc), .ref (ad 2), .ref (ad 3), .ref (ad 4)])), (ad 2, .inl (cI, 40, .inl mt)), (ad 3, .inl (cI, 40, .inl mf)), (ad 4, .inl (cI, 40, .inl wt))] s.heap := hP0.sub [0, 1, 2, 3] rfl
  have hP : va_P (dC, dI) vwCl [(ad 5, .inr (0, [.ref (ad 1), .ref (ad 6), .int (nI sc), .long avl, .int gh, .int gv, .ref (ad 7), .ref (ad 8), .int (nI st)])), (ad 6, .inl (cL, 40, .inr (.inl ss))), (ad 7, .inl (cI, 10, .inl sv)), (ad 8, .inl (cI, 10, .inl (xnI sr)))] s.heap := hP0.sub [4, 5, 6, 7] rfl
  have hS : va_S (xA ad [5, 6, 7, 8]) s.heap s.heap [] := va_S.rf
  have hl := lv_entry [.ref (ad 5), .int hv, .int vl] (n := 9) (Nat.le_of_ble_eq_true rfl)
  rw [lg_entry_eq]
  generalize (lg_sl [.ref (ad 5), .int hv, .int vl] ++ List.replicate (9 - (lg_sl [.ref (ad 5), .int hv, .int vl]).length) Slot.unset).toArray = ls at hl ⊢
  have hl : lv_has ls 9 [(0, .ref (ad 5)), (1, .int hv), (2, .int vl)] := hl
  have hF := Eq.refl (f_boundOf nc mt mf wt ss sc avl gh gv sv sr st hv vl)
  conv at hF => rhs; unfold f_boundOf
  refine lv_aload_n hx hb dX0_boundOf_0 rfl (lv_at hl 0 rfl) ?_
  refine lv_iconst (v := 0) hx hb dX0_boundOf_1 (by decide) ?_
  refine va_put (D := (dC, dI)) (ci := 0) (v := .int 0) (ty := .int) (C := RX0) (T := TX0) (N := 9) hx hb hts (xcons inX0) tyX0 tyX0_ok nX0 hown hK hP (xD hinj [5, 6, 7, 8] rfl (by decide) (by decide)) hS 0 rfl rfl 2 (by decide) hw0 (fun _ h9 => h9) rfl (by decide +kernel) rfl rfl (Nat.le_of_ble_eq_true rfl) dX0_boundOf_2 (fun H locs hP _ hS => ?_)
  have hP : va_P (dC, dI) vwCl [(ad 5, .inr (0, [.ref (ad 1), .ref (ad 6), .int 0, .long avl, .int gh, .int gv, .ref (ad 7), .ref (ad 8), .int (nI st)])), (ad 6, .inl (cL, 40, .inr (.inl ss))), (ad 7, .inl (cI, 10, .inl sv)), (ad 8, .inl (cI, 10, .inl (xnI sr)))] H := hP
  refine lv_aload_n hx hb dX0_boundOf_5 rfl (lv_at hl 0 rfl) ?_
  refine va_get (D := (dC, dI)) (ci := 0) (v := .ref (ad 1)) (C := RX0) (T := TX0) (N := 9) hx hb hts (xcons inX0) hown hK hP 0 rfl rfl 0 (by decide) hw1 (fun _ h9 => h9) rfl dX0_boundOf_6 ?_
  refine lv_iload_n hx hb dX0_boundOf_9 rfl (lv_at hl 1 rfl) ?_
  refine lv_iload_n hx hb dX0_boundOf_10 rfl (lv_at hl 2 rfl) ?_
  have hR := xP0 hPr (xnA hinj [1, 2, 3, 4] rfl (by decide)) hS
  refine xro_l (va_runV (As := [.int hv, .int vl]) (rest := []) ⟨hx, hb, hml, hown, hts⟩ (c_costOf l dC dI cI cL cZ ad hinj nv av nc mt mf wt (by omega) hv vl) (xcwV 2 hts wd_233 wd_35 wd_248 wd_231 wd_232 rfl rfl (by decide +kernel) ⟨Nat.le_of_ble_eq_true rfl, Nat.le_of_ble_eq_true rfl⟩) (xpreV (va_recv hK hR rfl (q0 := 0) rfl) hR hK) rfl rfl hl.1 rfl (lv_room (Nat.le_of_ble_eq_true rfl)) dX0_boundOf_11 ⟨Nat.le_of_ble_eq_true rfl, Nat.le_of_ble_eq_true rfl⟩) hS (fun H locs hk hS => ?_)
  have hP := xkeep hP hk
  refine lv_lstore_n (lv' := [(3, .long (f_costOf nc mt mf wt hv vl)), (0, .ref (ad 5)), (1, .int hv), (2, .int vl)]) hx hb dX0_boundOf_14 rfl hl (by decide) rfl (fun ls hl => ?_)
  refine lv_lload_n hx hb dX0_boundOf_15 rfl (lv_at hl 0 rfl) ?_
  refine lv_ldc2 hx hb hown hw2 dX0_boundOf_16 ?_
  refine W.lcmp hx hb dX0_boundOf_19 ?_
  refine lv_if_ne (tgt := 27) hx hb dX0_boundOf_20 (by decide) (fun h1 => ?_) (fun h1 => ?_)
  · have hF := hF.trans (if_neg h1)
    refine lv_aload_n hx hb dX0_boundOf_27 rfl (lv_at hl 1 rfl) ?_
    refine lv_aload_n hx hb dX0_boundOf_28 rfl (lv_at hl 1 rfl) ?_
    refine va_get (D := (dC, dI)) (ci := 0) (v := .ref (ad 1)) (C := RX0) (T := TX0) (N := 9) hx hb hts (xcons inX0) hown hK hP 0 rfl rfl 0 (by decide) hw1 (fun _ h9 => h9) rfl dX0_boundOf_29 ?_
    refine lv_iload_n hx hb dX0_boundOf_32 rfl (lv_at hl 2 rfl) ?_
    refine lv_iload_n hx hb dX0_boundOf_33 rfl (lv_at hl 3 rfl) ?_
    have hR := xP0 hPr (xnA hinj [1, 2, 3, 4] rfl (by decide)) hS
    refine xro_l (va_runV (As := [.int hv, .int vl]) (rest := [.ref (ad 5)]) ⟨hx, hb, hml, hown, hts⟩ (c_openClauses l dC dI cI cL cZ ad hinj nv av nc mt mf wt (by omega) hv vl) (xcwV 2 hts wd_253 wd_35 wd_250 wd_251 wd_252 rfl rfl (by decide +kernel) ⟨Nat.le_of_ble_eq_true rfl, Nat.le_of_ble_eq_true rfl⟩) (xpreV (va_recv hK hR rfl (q0 := 0) rfl) hR hK) rfl rfl hl.1 rfl (lv_room (Nat.le_of_ble_eq_true rfl)) dX0_boundOf_34 ⟨Nat.le_of_ble_eq_true rfl, Nat.le_of_ble_eq_true rfl⟩) hS (fun H locs hk hS => ?_)
    have hP := xkeep hP hk
    refine va_put (D := (dC, dI)) (ci := 0) (v := .long (f_openClauses nc mt mf hv vl)) (ty := .long) (C := RX0) (T := TX0) (N := 9) hx hb hts (xcons inX0) tyX0 tyX0_ok nX0 hown hK hP (xD hinj [5, 6, 7, 8] rfl (by decide) (by decide)) hS 0 rfl rfl 3 (by decide) hw3 (fun _ h9 => h9) rfl (by decide +kernel) rfl rfl (Nat.le_of_ble_eq_true rfl) dX0_boundOf_37 (fun H locs hP _ hS => ?_)
    have hP : va_P (dC, dI) vwCl [(ad 5, .inr (0, [.ref (ad 1), .ref (ad 6), .int 0, .long (f_openClauses nc mt mf hv vl), .int gh, .int gv, .ref (ad 7), .ref (ad 8), .int (nI st)])), (ad 6, .inl (cL, 40, .inr (.inl ss))), (ad 7, .inl (cI, 10, .inl sv)), (ad 8, .inl (cI, 10, .inl (xnI sr)))] H := hP
    refine lv_iconst (v := 0) hx hb dX0_boundOf_40 (by decide) ?_
    refine lv_istore (lv' := [(5, .int 0), (3, .long (f_costOf nc mt mf wt hv vl)), (0, .ref (ad 5)), (1, .int hv), (2, .int vl)]) hx hb dX0_boundOf_41 hl (by decide) rfl (fun ls hl => ?_)
    have lp43 : ∀ (n : Nat) (i : Nat) (tot : Int64) (ss2 : (Nat → Int64)) (sc2 : Nat) (avl2 : Int64) (gh2 : Int32) (gv2 : Int32) (sv2 : (Nat → Int32)) (sr2 : (Nat → Nat)) (st2 : Nat) (H : Heap) (locs : List Loc) (ls : Array Slot), f_boundOf nc mt mf wt ss sc avl gh gv sv sr st hv vl = f_boundOf_L nc mt mf wt hv vl n i tot ss2 sc2 avl2 gh2 gv2 sv2 sr2 st2 → i + n = 40 → sc2 ≤ 40 → va_P (dC, dI) vwCl [(ad 5, .inr (0, [.ref (ad 1), .ref (ad 6), .int (nI sc2), .long avl2, .int gh2, .int gv2, .ref (ad 7), .ref (ad 8), .int (nI st2)])), (ad 6, .inl (cL, 40, .inr (.inl ss2))), (ad 7, .inl (cI, 10, .inl sv2)), (ad 8, .inl (cI, 10, .inl (xnI sr2)))] H → va_S (xA ad [5, 6, 7, 8]) s.heap H locs → lv_has ls 9 [(0, .ref (ad 5)), (1, .int hv), (2, .int vl), (3, .long tot), (5, .int (nI i))] → W p l e (headSpec wsX0_boundOf ({ frames := 3, cells := 0, slots := 0, locals := 71 })).room s m [.ref (ad 5), .int hv, .int vl].toArray below meth c H locs 0 0 (MQ below (va_Ql (fun r u => f_boundOf nc mt mf wt ss sc avl gh gv sv sr st hv vl = (r, u)) (xB (dC, dI) vwCl (fun (u : (Nat → Int64) × Nat × Int64 × Int32 × Int32 × (Nat → Int32) × (Nat → Nat) × Nat) => match u with | (ss1, sc1, avl1, gh1, gv1, sv1, sr1, st1) => [(ad 5, .inr (0, [.ref (ad 1), .ref (ad 6), .int (nI sc1), .long avl1, .int gh1, .int gv1, .ref (ad 7), .ref (ad 8), .int (nI st1)])), (ad 6, .inl (cL, 40, .inr (.inl ss1))), (ad 7, .inl (cI, 10, .inl sv1)), (ad 8, .inl (cI, 10, .inl (xnI sr1)))])) (xA ad [5, 6, 7, 8])) [.ref (ad 5), .int hv, .int vl].toArray s 0 0 (xA ad [5, 6, 7, 8])) (F0 m 43 ls []) := by
      intro n
      induction n with
      | zero =>
        intro i tot ss2 sc2 avl2 gh2 gv2 sv2 sr2 st2 H locs ls hF hil hsc2 hP hS hl
        rw [f_boundOf_L] at hF
        refine lv_iload hx hb dX0_boundOf_43 (lv_at hl 4 rfl) ?_
        refine lv_bipush (v := 40) hx hb dX0_boundOf_45 (by decide) ?_
        refine lv_icmp_ge (tgt := 131) hx hb dX0_boundOf_47 (by decide) (fun h2 => ?_) (fun h2 => absurd (nI_le (a := 40) (by omega) (by omega)) h2)
        refine lv_lload_n hx hb dX0_boundOf_131 rfl (lv_at hl 3 rfl) ?_
        exact W.lret (v := tot) hx hb hr (fun t ht hW => ⟨⟨_, (ss2, sc2, avl2, gh2, gv2, sv2, sr2, st2), rfl, hF, xBi ht hP⟩, hS.F ht⟩) hS.2.2 dX0_boundOf_132
      | succ n ih =>
        intro i tot ss2 sc2 avl2 gh2 gv2 sv2 sr2 st2 H locs ls hF hil hsc2 hP hS hl
        rw [f_boundOf_L] at hF
        refine lv_iload hx hb dX0_boundOf_43 (lv_at hl 4 rfl) ?_
        refine lv_bipush (v := 40) hx hb dX0_boundOf_45 (by decide) ?_
        refine lv_icmp_ge (tgt := 131) hx hb dX0_boundOf_47 (by decide) (fun h3 => absurd h3 (nI_ge (a := i) (b := 40) (by omega) (by decide))) (fun h3 => ?_)
        refine lv_aload_n hx hb dX0_boundOf_50 rfl (lv_at hl 0 rfl) ?_
        refine lv_iload_n hx hb dX0_boundOf_51 rfl (lv_at hl 1 rfl) ?_
        refine lv_iload_n hx hb dX0_boundOf_52 rfl (lv_at hl 2 rfl) ?_
        have hR := xP0 hPr (xnA hinj [1, 2, 3, 4] rfl (by decide)) hS
        refine xrw_l (va_runV (As := [.int hv, .int vl]) (rest := []) ⟨hx, hb, hml, hown, hts⟩ (c_nextSubset l dC dI cI cL cZ ad hinj nv av nc mt mf wt ss2 sc2 avl2 gh2 gv2 sv2 sr2 st2 (by omega) hv vl) (xcwV 2 hts wd_265 wd_37 wd_262 wd_264 wd_3 rfl rfl (by decide +kernel) ⟨Nat.le_of_ble_eq_true rfl, Nat.le_of_ble_eq_true rfl⟩) (xpreV (va_recv hK hP rfl (q0 := 0) rfl) ((hR.app hP).sub [0, 1, 2, 3, 4, 5, 6, 7] rfl) hK) rfl rfl hl.1 rfl (lv_room (Nat.le_of_ble_eq_true rfl)) dX0_boundOf_53 ⟨Nat.le_of_ble_eq_true rfl, Nat.le_of_ble_eq_true rfl⟩) hS (xAsub (by decide)) (fun r_53 u H locs h4 hB hk hS => ?_)
        obtain ⟨gh1_53, gv1_53, sv1_53, sr1_53, st1_53⟩ := u
        have hP : va_P (dC, dI) vwCl [(ad 5, .inr (0, [.ref (ad 1), .ref (ad 6), .int (nI sc2), .long avl2, .int gh1_53, .int gv1_53, .ref (ad 7), .ref (ad 8), .int (nI st1_53)])), (ad 6, .inl (cL, 40, .inr (.inl ss2))), (ad 7, .inl (cI, 10, .inl sv1_53)), (ad 8, .inl (cI, 10, .inl (xnI sr1_53)))] H := va_P.sub hB [0, 1, 2, 3] rfl
        rw [h4] at hF
        dsimp only at hF
        refine lv_lstore (lv' := [(6, .long r_53), (0, .ref (ad 5)), (1, .int hv), (2, .int vl), (3, .long tot), (5, .int (nI i))]) hx hb dX0_boundOf_56 hl (by decide) rfl (fun ls hl => ?_)
        refine lv_lload hx hb dX0_boundOf_58 (lv_at hl 0 rfl) ?_
        refine lv_lconst (v := 0) hx hb dX0_boundOf_60 (by decide) ?_
        refine W.lcmp hx hb dX0_boundOf_61 ?_
        refine lv_if_ne (tgt := 67) hx hb dX0_boundOf_62 (by decide) (fun h5 => ?_) (fun h5 => ?_)
        · have hF := hF.trans (if_neg h5)
          refine lv_aload_n hx hb dX0_boundOf_67 rfl (lv_at hl 1 rfl) ?_
          refine va_get (D := (dC, dI)) (ci := 0) (v := .ref (ad 6)) (C := RX0) (T := TX0) (N := 9) hx hb hts (xcons inX0) hown hK hP 0 rfl rfl 1 (by decide) hw4 (fun _ h9 => h9) rfl dX0_boundOf_68 ?_
          refine lv_iload hx hb dX0_boundOf_71 (lv_at hl 5 rfl) ?_
          refine lv_lload hx hb dX0_boundOf_73 (lv_at hl 0 rfl) ?_
          refine xr_last hx hb hK hP (xD hinj [5, 6, 7, 8] rfl (by decide) (by decide)) hS 1 1 rfl rfl i (by omega) (by omega) dX0_boundOf_75 (fun H locs hP hS => ?_)
          have hP : va_P (dC, dI) vwCl [(ad 5, .inr (0, [.ref (ad 1), .ref (ad 6), .int (nI sc2), .long avl2, .int gh1_53, .int gv1_53, .ref (ad 7), .ref (ad 8), .int (nI st1_53)])), (ad 6, .inl (cL, 40, .inr (.inl (vp_updL ss2 i r_53)))), (ad 7, .inl (cI, 10, .inl sv1_53)), (ad 8, .inl (cI, 10, .inl (xnI sr1_53)))] H := hP
          refine lv_aload_n hx hb dX0_boundOf_76 rfl (lv_at hl 1 rfl) ?_
          refine lv_iload hx hb dX0_boundOf_77 (lv_at hl 5 rfl) ?_
          refine lv_iconst (v := 1) hx hb dX0_boundOf_79 (by decide) ?_
          refine xr_add1 hx hb dX0_boundOf_80 ?_
          refine va_put (D := (dC, dI)) (ci := 0) (v := .int (nI (i + 1))) (ty := .int) (C := RX0) (T := TX0) (N := 9) hx hb hts (xcons inX0) tyX0 tyX0_ok nX0 hown hK hP (xD hinj [5, 6, 7, 8] rfl (by decide) (by decide)) hS 0 rfl rfl 2 (by decide) hw0 (fun _ h9 => h9) rfl (by decide +kernel) rfl rfl (Nat.le_of_ble_eq_true rfl) dX0_boundOf_81 (fun H locs hP _ hS => ?_)
          have hP : va_P (dC, dI) vwCl [(ad 5, .inr (0, [.ref (ad 1), .ref (ad 6), .int (nI (i + 1)), .long avl2, .int gh1_53, .int gv1_53, .ref (ad 7), .ref (ad 8), .int (nI st1_53)])), (ad 6, .inl (cL, 40, .inr (.inl (vp_updL ss2 i r_53)))), (ad 7, .inl (cI, 10, .inl sv1_53)), (ad 8, .inl (cI, 10, .inl (xnI sr1_53)))] H := hP
          refine lv_aload_n hx hb dX0_boundOf_84 rfl (lv_at hl 1 rfl) ?_
          refine va_get (D := (dC, dI)) (ci := 0) (v := .ref (ad 1)) (C := RX0) (T := TX0) (N := 9) hx hb hts (xcons inX0) hown hK hP 0 rfl rfl 0 (by decide) hw1 (fun _ h9 => h9) rfl dX0_boundOf_85 ?_
          refine lv_lload hx hb dX0_boundOf_88 (lv_at hl 0 rfl) ?_
          have hR := xP0 hPr (xnA hinj [1, 2, 3, 4] rfl (by decide)) hS
          refine xro_i (va_runV (As := [.long r_53]) (rest := []) ⟨hx, hb, hml, hown, hts⟩ (c_lightestWeight l dC dI cI cL cZ ad hinj nv av nc mt mf wt (by omega) r_53) (xcwV 1 hts wd_306 wd_35 wd_303 wd_304 wd_305 rfl rfl (by decide +kernel) ⟨Nat.le_of_ble_eq_true rfl, Nat.le_of_ble_eq_true rfl⟩) (xpreV (va_recv hK hR rfl (q0 := 0) rfl) hR hK) rfl rfl hl.1 rfl (lv_room (Nat.le_of_ble_eq_true rfl)) dX0_boundOf_90 ⟨Nat.le_of_ble_eq_true rfl, Nat.le_of_ble_eq_true rfl⟩) hS (fun H locs hk hS => ?_)
          have hP := xkeep hP hk
          refine lv_istore (lv' := [(8, .int (f_lightestWeight nc wt r_53)), (6, .long r_53), (0, .ref (ad 5)), (1, .int hv), (2, .int vl), (3, .long tot), (5, .int (nI i))]) hx hb dX0_boundOf_93 hl (by decide) rfl (fun ls hl => ?_)
          refine lv_iload hx hb dX0_boundOf_95 (lv_at hl 0 rfl) ?_
          refine lv_if_ne (tgt := 104) hx hb dX0_boundOf_97 (by decide) (fun h6 => ?_) (fun h6 => ?_)
          · have hF := hF.trans (if_neg h6)
            refine lv_lload_n hx hb dX0_boundOf_104 rfl (lv_at hl 5 rfl) ?_
            refine lv_iload hx hb dX0_boundOf_105 (lv_at hl 0 rfl) ?_
            refine lv_i2l (v := (f_lightestWeight nc wt r_53).toInt64) hx hb dX0_boundOf_107 rfl ?_
            refine lv_ladd hx hb dX0_boundOf_108 ?_
            refine lv_lstore_n (lv' := [(3, .long (tot + ((f_lightestWeight nc wt r_53).toInt64))), (8, .int (f_lightestWeight nc wt r_53)), (6, .long r_53), (0, .ref (ad 5)), (1, .int hv), (2, .int vl), (5, .int (nI i))]) hx hb dX0_boundOf_109 rfl hl (by decide) rfl (fun ls hl => ?_)
            refine lv_aload_n hx hb dX0_boundOf_110 rfl (lv_at hl 3 rfl) ?_
            refine lv_dup hx hb dX0_boundOf_111 rfl ?_
            refine va_get (D := (dC, dI)) (ci := 0) (v := .long avl2) (C := RX0) (T := TX0) (N := 9) hx hb hts (xcons inX0) hown hK hP 0 rfl rfl 3 (by decide) hw3 (fun _ h9 => h9) rfl dX0_boundOf_112 ?_
            refine lv_lload hx hb dX0_boundOf_115 (lv_at hl 2 rfl) ?_
            refine lv_ldc2 hx hb hown hw5 dX0_boundOf_117 ?_
            refine lv_lxor hx hb dX0_boundOf_120 ?_
            refine lv_land hx hb dX0_boundOf_121 ?_
            refine va_put (D := (dC, dI)) (ci := 0) (v := .long (avl2 &&& (r_53 ^^^ (-1)))) (ty := .long) (C := RX0) (T := TX0) (N := 9) hx hb hts (xcons inX0) tyX0 tyX0_ok nX0 hown hK hP (xD hinj [5, 6, 7, 8] rfl (by decide) (by decide)) hS 0 rfl rfl 3 (by decide) hw3 (fun _ h9 => h9) rfl (by decide +kernel) rfl rfl (Nat.le_of_ble_eq_true rfl) dX0_boundOf_122 (fun H locs hP _ hS => ?_)
            have hP : va_P (dC, dI) vwCl [(ad 5, .inr (0, [.ref (ad 1), .ref (ad 6), .int (nI (i + 1)), .long (avl2 &&& (r_53 ^^^ (-1))), .int gh1_53, .int gv1_53, .ref (ad 7), .ref (ad 8), .int (nI st1_53)])), (ad 6, .inl (cL, 40, .inr (.inl (vp_updL ss2 i r_53)))), (ad 7, .inl (cI, 10, .inl sv1_53)), (ad 8, .inl (cI, 10, .inl (xnI sr1_53)))] H := hP
            refine lv_iinc (k := 6) (v := (nI (i + 1))) (lv' := [(5, .int (nI (i + 1))), (3, .long (tot + ((f_lightestWeight nc wt r_53).toInt64))), (8, .int (f_lightestWeight nc wt r_53)), (6, .long r_53), (0, .ref (ad 5)), (1, .int hv), (2, .int vl)]) hx hb dX0_boundOf_125 hl rfl (xinc _) (by decide) rfl (fun ls hl => ?_)
            refine lv_goto (tgt := 43) hx hb dX0_boundOf_128 (by decide) ?_
            exact ih (i + 1) (tot + ((f_lightestWeight nc wt r_53).toInt64)) (vp_updL ss2 i r_53) (i + 1) (avl2 &&& (r_53 ^^^ (-1))) gh1_53 gv1_53 sv1_53 sr1_53 st1_53 _ _ _ hF (by omega) (by omega) hP hS (lv_sub hl [4, 5, 6, 1, 0] rfl)
          · have hF := hF.trans (if_pos h6)
            refine lv_ldc2 hx hb hown hw2 dX0_boundOf_100 ?_
            exact W.lret (v := (-2)) hx hb hr (fun t ht hW => ⟨⟨_, ((vp_updL ss2 i r_53), (i + 1), avl2, gh1_53, gv1_53, sv1_53, sr1_53, st1_53), rfl, hF, xBi ht hP⟩, hS.F ht⟩) hS.2.2 dX0_boundOf_103
        · have hF := hF.trans (if_pos h5)
          refine lv_lload_n hx hb dX0_boundOf_65 rfl (lv_at hl 4 rfl) ?_
          exact W.lret (v := tot) hx hb hr (fun t ht hW => ⟨⟨_, (ss2, sc2, avl2, gh1_53, gv1_53, sv1_53, sr1_53, st1_53), rfl, hF, xBi ht hP⟩, hS.F ht⟩) hS.2.2 dX0_boundOf_66
    exact lp43 40 0 (f_costOf nc mt mf wt hv vl) ss 0 (f_openClauses nc mt mf hv vl) gh gv sv sr st _ _ _ hF (by omega) (by omega) hP hS (lv_sub hl [2, 3, 4, 1, 0] rfl)
  · have hF := hF.trans (if_pos h1)
    refine lv_ldc2 hx hb hown hw2 dX0_boundOf_23 ?_
    exact W.lret (v := (-2)) hx hb hr (fun t ht hW => ⟨⟨_, (ss, 0, avl, gh, gv, sv, sr, st), rfl, hF, xBi ht hP⟩, hS.F ht⟩) hS.2.2 dX0_boundOf_26
end
section
def f_hasBest (bc : Int64) : Int32 :=
  if (lg_cmp bc (-1)) = 0 then
    0
  else
    1
def f_isLogged (lc : Nat) (k : Int32) : Int32 :=
  if k < 0 then
    0
  else
    if (nI lc) ≤ k then
      0
    else
      1
def f_isGivenUp (bc x : Int64) : Int32 :=
  if (lg_cmp x (-2)) = 0 then
    1
  else
    if (f_hasBest bc) = 0 then
      0
    else
      if 0 < (lg_cmp bc x) then
        0
      else
        1
def f_forget  : Int32 × Nat × Int64 × Int32 × Nat :=
  (0, 0, (-1), 0, 0)
def f_putWaiting (wh wv : Nat → Int32) (wc : Nat) (hv vl : Int32) : (Nat → Int32) × (Nat → Int32) × Nat :=
  if 11 ≤ (nI wc) then
    (wh, wv, wc)
  else
    ((upd wh wc hv), (upd wv wc vl), (wc + 1))
def f_putIntoLog (lz lc : Nat) (bc : Int64) (lh lw : Nat → Int32) (lb : Nat → Int64) (hv vl : Int32) : Nat × (Nat → Int32) × (Nat → Int32) × (Nat → Int64) :=
  if (nI lz) ≤ (nI lc) then
    (lc, lh, lw, lb)
  else
    ((lc + 1), (upd lh lc hv), (upd lw lc vl), (vp_updL lb lc bc))
set_option maxHeartbeats 4000000 in
set_option maxRecDepth 100000 in
theorem c_hasBest (l : Launch) (dC : Nat → ClassId) (dI : Nat → Nat → Nat) (cI cL cZ : ClassId) (ad : Nat → Nat) (hinj : xI ad 15) (lz : Nat) (nd : Int32) (lc : Nat) (bc : Int64) (bv : Int32) (lh lw : Nat → Int32) (lb : Nat → Int64) (wh wv : Nat → Int32) (wc : Nat) : Met l yX2_hasBest wsX2_hasBest ({ frames := 0, cells := 0, slots := 0, locals := 0 }) (va_Pc [.ref (ad 9)] (fun U => va_P (dC, dI) vwCl [(ad 9, .inr (2, [.int nd, .int (nI lc), .long bc, .int bv, .ref (ad 10), .ref (ad 11), .ref (ad 12), .ref (ad 1), .ref (ad 5), .ref (ad 13), .ref (ad 14), .int (nI wc)])), (ad 10, .inl (cI, lz, .inl lh)), (ad 11, .inl (cI, lz, .inl lw)), (ad 12, .inl (cL, lz, .inr (.inl lb))), (ad 13, .inl (cI, 11, .inl wh)), (ad 14, .inl (cI, 11, .inl wv))] U.heap ∧ va_K (dC, dI) vwCl [(cI, .int), (cL, .long), (cZ, .boolean)] U)) (va_Qi (fun r (_ : Unit) => f_hasBest bc = r) (fun _ _ => True) xN) 0 0 xN := by
  refine Met.ofW (cc := cX2_hasBest) (maxL := 1) (ret := (some .boolean)) (by decide) rfl ?_
  intro p e s m args below meth c s₁ B hml hvv
  obtain ⟨rfl, hP0, hK⟩ := hvv
  have hx := B.exec
  have hb := B.bytes
  have hr := B.returns
  have hts := atoms_spec (ws := wsX2_hasBest) B.pre
  have hown : s.vm.findClass RX2 = some m.cls := findClass_of_methodNamed B.named
  have hlocks := B.notSynchronized
  have hw0 : (.fieldLink RX2 11 "WeightedClauses$Search" "bestCost" "J" : Cond).before _ s = true := hts _ (List.mem_cons_of_mem _ wd_138)
  have hw1 : (.constantLong RX2 9 (-1) : Cond).before _ s = true := hts _ (List.mem_cons_of_mem _ wd_133)
  have hPr : va_P (dC, dI) vwCl [(ad 9, .inr (2, [.int nd, .int (nI lc), .long bc, .int bv, .ref (ad 10), .ref (ad 11), .ref (ad 12), .ref (ad 1), .ref (ad 5), .ref (ad 13), .ref (ad 14), .int (nI wc)])), (ad 10, .inl (cI, lz, .inl lh)), (ad 11, .inl (cI, lz, .inl lw)), (ad 12, .inl (cL, lz, .inr (.inl lb))), (ad 13, .inl (cI, 11, .inl wh)), (ad 14, .inl (cI, 11, .inl wv))] s.heap := hP0.sub [0, 1, 2, 3, 4, 5] rfl
  have hS : va_S xN s.heap s.heap [] := va_S.rf
  have hl := lv_entry [.ref (ad 9)] (n := 1) (Nat.le_of_ble_eq_true rfl)
  rw [lg_entry_eq]
  generalize (lg_sl [.ref (ad 9)] ++ List.replicate (1 - (lg_sl [.ref (ad 9)]).length) Slot.unset).toArray = ls at hl ⊢
  have hl : lv_has ls 1 [(0, .ref (ad 9))] := hl
  have hF := Eq.refl (f_hasBest bc)
  conv at hF => rhs; unfold f_hasBest
  refine lv_aload_n hx hb dX2_hasBest_0 rfl (lv_at hl 0 rfl) ?_
  have hR := xP0 hPr xnN hS
  refine va_get (D := (dC, dI)) (ci := 2) (v := .long bc) (C := RX2) (T := TX2) (N := 12) hx hb hts (xcons inX2) hown hK hR 0 rfl rfl 2 (by decide) hw0 (fun _ h9 => h9) rfl dX2_hasBest_1 ?_
  refine lv_ldc2 hx hb hown hw1 dX2_hasBest_4 ?_
  refine W.lcmp hx hb dX2_hasBest_7 ?_
  refine lv_if_eq (tgt := 15) hx hb dX2_hasBest_8 (by decide) (fun h1 => ?_) (fun h1 => ?_)
  · have hF := hF.trans (if_pos h1)
    refine lv_iconst (v := 0) hx hb dX2_hasBest_15 (by decide) ?_
    exact W.zret (v := 0) hx hb hr rfl (fun t ht hW => ⟨⟨_, (), rfl, hF, trivial⟩, hS.F ht⟩) hS.2.2 dX2_hasBest_16
  · have hF := hF.trans (if_neg h1)
    refine lv_iconst (v := 1) hx hb dX2_hasBest_11 (by decide) ?_
    refine lv_goto (tgt := 16) hx hb dX2_hasBest_12 (by decide) ?_
    exact W.zret (v := 1) hx hb hr rfl (fun t ht hW => ⟨⟨_, (), rfl, hF, trivial⟩, hS.F ht⟩) hS.2.2 dX2_hasBest_16
set_option maxHeartbeats 4000000 in
set_option maxRecDepth 100000 in
theorem c_isLogged (l : Launch) (dC : Nat → ClassId) (dI : Nat → Nat → Nat) (cI cL cZ : ClassId) (ad : Nat → Nat) (hinj : xI ad 15) (lz : Nat) (nd : Int32) (lc : Nat) (bc : Int64) (bv : Int32) (lh lw : Nat → Int32) (lb : Nat → Int64) (wh wv : Nat → Int32) (wc : Nat) (k : Int32) : Met l yX2_isLogged wsX2_isLogged ({ frames := 0, cells := 0, slots := 0, locals := 0 }) (va_Pc [.ref (ad 9), .int k] (fun U => va_P (dC, dI) vwCl [(ad 9, .inr (2, [.int nd, .int (nI lc), .long bc, .int bv, .ref (ad 10), .ref (ad 11), .ref (ad 12), .ref (ad 1), .ref (ad 5), .ref (ad 13), .ref (ad 14), .int (nI wc)])), (ad 10, .inl (cI, lz, .inl lh)), (ad 11, .inl (cI, lz, .inl lw)), (ad 12, .inl (cL, lz, .inr (.inl lb))), (ad 13, .inl (cI, 11, .inl wh)), (ad 14, .inl (cI, 11, .inl wv))] U.heap ∧ va_K (dC, dI) vwCl [(cI, .int), (cL, .long), (cZ, .boolean)] U)) (va_Qi (fun r (_ : Unit) => f_isLogged lc k = r) (fun _ _ => True) xN) 0 0 xN := by
  refine Met.ofW (cc := cX2_isLogged) (maxL := 2) (ret := (some .boolean)) (by decide) rfl ?_
  intro p e s m args below meth c s₁ B hml hvv
  obtain ⟨rfl, hP0, hK⟩ := hvv
  have hx := B.exec
  have hb := B.bytes
  have hr := B.returns
  have hts := atoms_spec (ws := wsX2_isLogged) B.pre
  have hown : s.vm.findClass RX2 = some m.cls := findClass_of_methodNamed B.named
  have hlocks := B.notSynchronized
  have hw0 : (.fieldLink RX2 51 "WeightedClauses$Search" "logCount" "I" : Cond).before _ s = true := hts _ (List.mem_cons_of_mem _ wd_136)
  have hPr : va_P (dC, dI) vwCl [(ad 9, .inr (2, [.int nd, .int (nI lc), .long bc, .int bv, .ref (ad 10), .ref (ad 11), .ref (ad 12), .ref (ad 1), .ref (ad 5), .ref (ad 13), .ref (ad 14), .int (nI wc)])), (ad 10, .inl (cI, lz, .inl lh)), (ad 11, .inl (cI, lz, .inl lw)), (ad 12, .inl (cL, lz, .inr (.inl lb))), (ad 13, .inl (cI, 11, .inl wh)), (ad 14, .inl (cI, 11, .inl wv))] s.heap := hP0.sub [0, 1, 2, 3, 4, 5] rfl
  have hS : va_S xN s.heap s.heap [] := va_S.rf
  have hl := lv_entry [.ref (ad 9), .int k] (n := 2) (Nat.le_of_ble_eq_true rfl)
  rw [lg_entry_eq]
  generalize (lg_sl [.ref (ad 9), .int k] ++ List.replicate (2 - (lg_sl [.ref (ad 9), .int k]).length) Slot.unset).toArray = ls at hl ⊢
  have hl : lv_has ls 2 [(0, .ref (ad 9)), (1, .int k)] := hl
  have hF := Eq.refl (f_isLogged lc k)
  conv at hF => rhs; unfold f_isLogged
  refine lv_iload_n hx hb dX2_isLogged_0 rfl (lv_at hl 1 rfl) ?_
  refine lv_if_lt (tgt := 16) hx hb dX2_isLogged_1 (by decide) (fun h1 => ?_) (fun h1 => ?_)
  · have hF := hF.trans (if_pos h1)
    refine lv_iconst (v := 0) hx hb dX2_isLogged_16 (by decide) ?_
    exact W.zret (v := 0) hx hb hr rfl (fun t ht hW => ⟨⟨_, (), rfl, hF, trivial⟩, hS.F ht⟩) hS.2.2 dX2_isLogged_17
  · have hF := hF.trans (if_neg h1)
    refine lv_iload_n hx hb dX2_isLogged_4 rfl (lv_at hl 1 rfl) ?_
    refine lv_aload_n hx hb dX2_isLogged_5 rfl (lv_at hl 0 rfl) ?_
    have hR := xP0 hPr xnN hS
    refine va_get (D := (dC, dI)) (ci := 2) (v := .int (nI lc)) (C := RX2) (T := TX2) (N := 12) hx hb hts (xcons inX2) hown hK hR 0 rfl rfl 1 (by decide) hw0 (fun _ h9 => h9) rfl dX2_isLogged_6 ?_
    refine lv_icmp_ge (tgt := 16) hx hb dX2_isLogged_9 (by decide) (fun h2 => ?_) (fun h2 => ?_)
    · have hF := hF.trans (if_pos h2)
      refine lv_iconst (v := 0) hx hb dX2_isLogged_16 (by decide) ?_
      exact W.zret (v := 0) hx hb hr rfl (fun t ht hW => ⟨⟨_, (), rfl, hF, trivial⟩, hS.F ht⟩) hS.2.2 dX2_isLogged_17
    · have hF := hF.trans (if_neg h2)
      refine lv_iconst (v := 1) hx hb dX2_isLogged_12 (by decide) ?_
      refine lv_goto (tgt := 17) hx hb dX2_isLogged_13 (by decide) ?_
      exact W.zret (v := 1) hx hb hr rfl (fun t ht hW => ⟨⟨_, (), rfl, hF, trivial⟩, hS.F ht⟩) hS.2.2 dX2_isLogged_17
set_option maxHeartbeats 4000000 in
set_option maxRecDepth 100000 in
theorem c_isGivenUp (l : Launch) (dC : Nat → ClassId) (dI : Nat → Nat → Nat) (cI cL cZ : ClassId) (ad : Nat → Nat) (hinj : xI ad 15) (lz : Nat) (nd : Int32) (lc : Nat) (bc : Int64) (bv : Int32) (lh lw : Nat → Int32) (lb : Nat → Int64) (wh wv : Nat → Int32) (wc : Nat) (x : Int64) : Met l yX2_isGivenUp wsX2_isGivenUp ({ frames := 1, cells := 0, slots := 0, locals := 20 }) (va_Pc [.ref (ad 9), .long x] (fun U => va_P (dC, dI) vwCl [(ad 9, .inr (2, [.int nd, .int (nI lc), .long bc, .int bv, .ref (ad 10), .ref (ad 11), .ref (ad 12), .ref (ad 1), .ref (ad 5), .ref (ad 13), .ref (ad 14), .int (nI wc)])), (ad 10, .inl (cI, lz, .inl lh)), (ad 11, .inl (cI, lz, .inl lw)), (ad 12, .inl (cL, lz, .inr (.inl lb))), (ad 13, .inl (cI, 11, .inl wh)), (ad 14, .inl (cI, 11, .inl wv))] U.heap ∧ va_K (dC, dI) vwCl [(cI, .int), (cL, .long), (cZ, .boolean)] U)) (va_Qi (fun r (_ : Unit) => f_isGivenUp bc x = r) (fun _ _ => True) xN) 0 0 xN := by
  refine Met.ofW (cc := cX2_isGivenUp) (maxL := 3) (ret := (some .boolean)) (by decide) rfl ?_
  intro p e s m args below meth c s₁ B hml hvv
  obtain ⟨rfl, hP0, hK⟩ := hvv
  have hx := B.exec
  have hb := B.bytes
  have hr := B.returns
  have hts := atoms_spec (ws := wsX2_isGivenUp) B.pre
  have hown : s.vm.findClass RX2 = some m.cls := findClass_of_methodNamed B.named
  have hlocks := B.notSynchronized
  have hw0 : (.constantLong RX2 96 (-2) : Cond).before _ s = true := hts _ (List.mem_cons_of_mem _ wd_239)
  have hw1 : (.fieldLink RX2 11 "WeightedClauses$Search" "bestCost" "J" : Cond).before _ s = true := hts _ (List.mem_cons_of_mem _ wd_138)
  have hPr : va_P (dC, dI) vwCl [(ad 9, .inr (2, [.int nd, .int (nI lc), .long bc, .int bv, .ref (ad 10), .ref (ad 11), .ref (ad 12), .ref (ad 1), .ref (ad 5), .ref (ad 13), .ref (ad 14), .int (nI wc)])), (ad 10, .inl (cI, lz, .inl lh)), (ad 11, .inl (cI, lz, .inl lw)), (ad 12, .inl (cL, lz, .inr (.inl lb))), (ad 13, .inl (cI, 11, .inl wh)), (ad 14, .inl (cI, 11, .inl wv))] s.heap := hP0.sub [0, 1, 2, 3, 4, 5] rfl
  have hS : va_S xN s.heap s.heap [] := va_S.rf
  have hl := lv_entry [.ref (ad 9), .long x] (n := 3) (Nat.le_of_ble_eq_true rfl)
  rw [lg_entry_eq]
  generalize (lg_sl [.ref (ad 9), .long x] ++ List.replicate (3 - (lg_sl [.ref (ad 9), .long x]).length) Slot.unset).toArray = ls at hl ⊢
  have hl : lv_has ls 3 [(0, .ref (ad 9)), (1, .long x)] := hl
  have hF := Eq.refl (f_isGivenUp bc x)
  conv at hF => rhs; unfold f_isGivenUp
  refine lv_lload_n hx hb dX2_isGivenUp_0 rfl (lv_at hl 1 rfl) ?_
  refine lv_ldc2 hx hb hown hw0 dX2_isGivenUp_1 ?_
  refine W.lcmp hx hb dX2_isGivenUp_4 ?_
  refine lv_if_eq (tgt := 24) hx hb dX2_isGivenUp_5 (by decide) (fun h1 => ?_) (fun h1 => ?_)
  · have hF := hF.trans (if_pos h1)
    refine lv_iconst (v := 1) hx hb dX2_isGivenUp_24 (by decide) ?_
    refine lv_goto (tgt := 29) hx hb dX2_isGivenUp_25 (by decide) ?_
    exact W.zret (v := 1) hx hb hr rfl (fun t ht hW => ⟨⟨_, (), rfl, hF, trivial⟩, hS.F ht⟩) hS.2.2 dX2_isGivenUp_29
  · have hF := hF.trans (if_neg h1)
    refine lv_aload_n hx hb dX2_isGivenUp_8 rfl (lv_at hl 0 rfl) ?_
    have hR := xP0 hPr xnN hS
    refine xro_i (va_runV (As := []) (rest := []) ⟨hx, hb, hml, hown, hts⟩ (c_hasBest l dC dI cI cL cZ ad hinj lz nd lc bc bv lh lw lb wh wv wc) (xcwV 0 hts wd_243 wd_38 wd_240 wd_241 wd_242 rfl rfl (by decide +kernel) ⟨Nat.le_of_ble_eq_true rfl, Nat.le_of_ble_eq_true rfl⟩) (xpreV (va_recv hK hR rfl (q0 := 0) rfl) hR hK) rfl rfl hl.1 rfl (lv_room (Nat.le_of_ble_eq_true rfl)) dX2_isGivenUp_9 ⟨Nat.le_of_ble_eq_true rfl, Nat.le_of_ble_eq_true rfl⟩) hS (fun H locs hk hS => ?_)
    refine lv_if_eq (tgt := 28) hx hb dX2_isGivenUp_12 (by decide) (fun h2 => ?_) (fun h2 => ?_)
    · have hF := hF.trans (if_pos h2)
      refine lv_iconst (v := 0) hx hb dX2_isGivenUp_28 (by decide) ?_
      exact W.zret (v := 0) hx hb hr rfl (fun t ht hW => ⟨⟨_, (), rfl, hF, trivial⟩, hS.F ht⟩) hS.2.2 dX2_isGivenUp_29
    · have hF := hF.trans (if_neg h2)
      refine lv_aload_n hx hb dX2_isGivenUp_15 rfl (lv_at hl 0 rfl) ?_
      have hR := xP0 hPr xnN hS
      refine va_get (D := (dC, dI)) (ci := 2) (v := .long bc) (C := RX2) (T := TX2) (N := 12) hx hb hts (xcons inX2) hown hK hR 0 rfl rfl 2 (by decide) hw1 (fun _ h9 => h9) rfl dX2_isGivenUp_16 ?_
      refine lv_lload_n hx hb dX2_isGivenUp_19 rfl (lv_at hl 1 rfl) ?_
      refine W.lcmp hx hb dX2_isGivenUp_20 ?_
      refine lv_if_gt (tgt := 28) hx hb dX2_isGivenUp_21 (by decide) (fun h3 => ?_) (fun h3 => ?_)
      · have hF := hF.trans (if_pos h3)
        refine lv_iconst (v := 0) hx hb dX2_isGivenUp_28 (by decide) ?_
        exact W.zret (v := 0) hx hb hr rfl (fun t ht hW => ⟨⟨_, (), rfl, hF, trivial⟩, hS.F ht⟩) hS.2.2 dX2_isGivenUp_29
      · have hF := hF.trans (if_neg h3)
        refine lv_iconst (v := 1) hx hb dX2_isGivenUp_24 (by decide) ?_
        refine lv_goto (tgt := 29) hx hb dX2_isGivenUp_25 (by decide) ?_
        exact W.zret (v := 1) hx hb hr rfl (fun t ht hW => ⟨⟨_, (), rfl, hF, trivial⟩, hS.F ht⟩) hS.2.2 dX2_isGivenUp_29
set_option maxHeartbeats 4000000 in
set_option maxRecDepth 100000 in
theorem c_forget (l : Launch) (dC : Nat → ClassId) (dI : Nat → Nat → Nat) (cI cL cZ : ClassId) (ad : Nat → Nat) (hinj : xI ad 15) (lz : Nat) (nd : Int32) (lc : Nat) (bc : Int64) (bv : Int32) (lh lw : Nat → Int32) (lb : Nat → Int64) (wh wv : Nat → Int32) (wc : Nat) : Met l yX2_forget wsX2_forget ({ frames := 0, cells := 0, slots := 0, locals := 0 }) (va_Pc [.ref (ad 9)] (fun U => va_P (dC, dI) vwCl [(ad 9, .inr (2, [.int nd, .int (nI lc), .long bc, .int bv, .ref (ad 10), .ref (ad 11), .ref (ad 12), .ref (ad 1), .ref (ad 5), .ref (ad 13), .ref (ad 14), .int (nI wc)])), (ad 10, .inl (cI, lz, .inl lh)), (ad 11, .inl (cI, lz, .inl lw)), (ad 12, .inl (cL, lz, .inr (.inl lb))), (ad 13, .inl (cI, 11, .inl wh)), (ad 14, .inl (cI, 11, .inl wv))] U.heap ∧ va_K (dC, dI) vwCl [(cI, .int), (cL, .long), (cZ, .boolean)] U)) (va_Qv (fun u => f_forget = u) (xB (dC, dI) vwCl (fun (u : Int32 × Nat × Int64 × Int32 × Nat) => match u with | (nd1, lc1, bc1, bv1, wc1) => [(ad 9, .inr (2, [.int nd1, .int (nI lc1), .long bc1, .int bv1, .ref (ad 10), .ref (ad 11), .ref (ad 12), .ref (ad 1), .ref (ad 5), .ref (ad 13), .ref (ad 14), .int (nI wc1)])), (ad 10, .inl (cI, lz, .inl lh)), (ad 11, .inl (cI, lz, .inl lw)), (ad 12, .inl (cL, lz, .inr (.inl lb))), (ad 13, .inl (cI, 11, .inl wh)), (ad 14, .inl (cI, 11, .inl wv))])) (xA ad [9, 10, 11, 12, 13, 14])) 0 0 (xA ad [9, 10, 11, 12, 13, 14]) := by
  refine Met.ofW (cc := cX2_forget) (maxL := 1) (ret := none) (by decide) rfl ?_
  intro p e s m args below meth c s₁ B hml hvv
  obtain ⟨rfl, hP0, hK⟩ := hvv
  have hx := B.exec
  have hb := B.bytes
  have hr := B.returns
  have hts := atoms_spec (ws := wsX2_forget) B.pre
  have hown : s.vm.findClass RX2 = some m.cls := findClass_of_methodNamed B.named
  have hlocks := B.notSynchronized
  have hw0 : (.fieldLink RX2 48 "WeightedClauses$Search" "nodeCount" "I" : Cond).before _ s = true := hts _ (List.mem_cons_of_mem _ wd_134)
  have hw1 : (.fieldLink RX2 51 "WeightedClauses$Search" "logCount" "I" : Cond).before _ s = true := hts _ (List.mem_cons_of_mem _ wd_136)
  have hw2 : (.constantLong RX2 9 (-1) : Cond).before _ s = true := hts _ (List.mem_cons_of_mem _ wd_133)
  have hw3 : (.fieldLink RX2 11 "WeightedClauses$Search" "bestCost" "J" : Cond).before _ s = true := hts _ (List.mem_cons_of_mem _ wd_138)
  have hw4 : (.fieldLink RX2 54 "WeightedClauses$Search" "bestValues" "I" : Cond).before _ s = true := hts _ (List.mem_cons_of_mem _ wd_140)
  have hw5 : (.fieldLink RX2 57 "WeightedClauses$Search" "waitingCount" "I" : Cond).before _ s = true := hts _ (List.mem_cons_of_mem _ wd_152)
  have hP : va_P (dC, dI) vwCl [(ad 9, .inr (2, [.int nd, .int (nI lc), .long bc, .int bv, .ref (ad 10), .ref (ad 11), .ref (ad 12), .ref (ad 1), .ref (ad 5), .ref (ad 13), .ref (ad 14), .int (nI wc)])), (ad 10, .inl (cI, lz, .inl lh)), (ad 11, .inl (cI, lz, .inl lw)), (ad 12, .inl (cL, lz, .inr (.inl lb))), (ad 13, .inl (cI, 11, .inl wh)), (ad 14, .inl (cI, 11, .inl wv))] s.heap := hP0.sub [0, 1, 2, 3, 4, 5] rfl
  have hS : va_S (xA ad [9, 10, 11, 12, 13, 14]) s.heap s.heap [] := va_S.rf
  have hl := lv_entry [.ref (ad 9)] (n := 1) (Nat.le_of_ble_eq_true rfl)
  rw [lg_entry_eq]
  generalize (lg_sl [.ref (ad 9)] ++ List.replicate (1 - (lg_sl [.ref (ad 9)]).length) Slot.unset).toArray = ls at hl ⊢
  have hl : lv_has ls 1 [(0, .ref (ad 9))] := hl
  have hF := Eq.refl f_forget
  conv at hF => rhs; unfold f_forget
  refine lv_aload_n hx hb dX2_forget_0 rfl (lv_at hl 0 rfl) ?_
  refine lv_iconst (v := 0) hx hb dX2_forget_1 (by decide) ?_
  refine va_put (D := (dC, dI)) (ci := 2) (v := .int 0) (ty := .int) (C := RX2) (T := TX2) (N := 12) hx hb hts (xcons inX2) tyX2 tyX2_ok nX2 hown hK hP (xD hinj [9, 10, 11, 12, 13, 14] rfl (by decide) (by decide)) hS 0 rfl rfl 0 (by decide) hw0 (fun _ h9 => h9) rfl (by decide +kernel) rfl rfl (Nat.le_of_ble_eq_true rfl) dX2_forget_2 (fun H locs hP _ hS => ?_)
  have hP : va_P (dC, dI) vwCl [(ad 9, .inr (2, [.int 0, .int (nI lc), .long bc, .int bv, .ref (ad 10), .ref (ad 11), .ref (ad 12), .ref (ad 1), .ref (ad 5), .ref (ad 13), .ref (ad 14), .int (nI wc)])), (ad 10, .inl (cI, lz, .inl lh)), (ad 11, .inl (cI, lz, .inl lw)), (ad 12, .inl (cL, lz, .inr (.inl lb))), (ad 13, .inl (cI, 11, .inl wh)), (ad 14, .inl (cI, 11, .inl wv))] H := hP
  refine lv_aload_n hx hb dX2_forget_5 rfl (lv_at hl 0 rfl) ?_
  refine lv_iconst (v := 0) hx hb dX2_forget_6 (by decide) ?_
  refine va_put (D := (dC, dI)) (ci := 2) (v := .int 0) (ty := .int) (C := RX2) (T := TX2) (N := 12) hx hb hts (xcons inX2) tyX2 tyX2_ok nX2 hown hK hP (xD hinj [9, 10, 11, 12, 13, 14] rfl (by decide) (by decide)) hS 0 rfl rfl 1 (by decide) hw1 (fun _ h9 => h9) rfl (by decide +kernel) rfl rfl (Nat.le_of_ble_eq_true rfl) dX2_forget_7 (fun H locs hP _ hS => ?_)
  have hP : va_P (dC, dI) vwCl [(ad 9, .inr (2, [.int 0, .int 0, .long bc, .int bv, .ref (ad 10), .ref (ad 11), .ref (ad 12), .ref (ad 1), .ref (ad 5), .ref (ad 13), .ref (ad 14), .int (nI wc)])), (ad 10, .inl (cI, lz, .inl lh)), (ad 11, .inl (cI, lz, .inl lw)), (ad 12, .inl (cL, lz, .inr (.inl lb))), (ad 13, .inl (cI, 11, .inl wh)), (ad 14, .inl (cI, 11, .inl wv))] H := hP
  refine lv_aload_n hx hb dX2_forget_10 rfl (lv_at hl 0 rfl) ?_
  refine lv_ldc2 hx hb hown hw2 dX2_forget_11 ?_
  refine va_put (D := (dC, dI)) (ci := 2) (v := .long (-1)) (ty := .long) (C := RX2) (T := TX2) (N := 12) hx hb hts (xcons inX2) tyX2 tyX2_ok nX2 hown hK hP (xD hinj [9, 10, 11, 12, 13, 14] rfl (by decide) (by decide)) hS 0 rfl rfl 2 (by decide) hw3 (fun _ h9 => h9) rfl (by decide +kernel) rfl rfl (Nat.le_of_ble_eq_true rfl) dX2_forget_14 (fun H locs hP _ hS => ?_)
  have hP : va_P (dC, dI) vwCl [(ad 9, .inr (2, [.int 0, .int 0, .long (-1), .int bv, .ref (ad 10), .ref (ad 11), .ref (ad 12), .ref (ad 1), .ref (ad 5), .ref (ad 13), .ref (ad 14), .int (nI wc)])), (ad 10, .inl (cI, lz, .inl lh)), (ad 11, .inl (cI, lz, .inl lw)), (ad 12, .inl (cL, lz, .inr (.inl lb))), (ad 13, .inl (cI, 11, .inl wh)), (ad 14, .inl (cI, 11, .inl wv))] H := hP
  refine lv_aload_n hx hb dX2_forget_17 rfl (lv_at hl 0 rfl) ?_
  refine lv_iconst (v := 0) hx hb dX2_forget_18 (by decide) ?_
  refine va_put (D := (dC, dI)) (ci := 2) (v := .int 0) (ty := .int) (C := RX2) (T := TX2) (N := 12) hx hb hts (xcons inX2) tyX2 tyX2_ok nX2 hown hK hP (xD hinj [9, 10, 11, 12, 13, 14] rfl (by decide) (by decide)) hS 0 rfl rfl 3 (by decide) hw4 (fun _ h9 => h9) rfl (by decide +kernel) rfl rfl (Nat.le_of_ble_eq_true rfl) dX2_forget_19 (fun H locs hP _ hS => ?_)
  have hP : va_P (dC, dI) vwCl [(ad 9, .inr (2, [.int 0, .int 0, .long (-1), .int 0, .ref (ad 10), .ref (ad 11), .ref (ad 12), .ref (ad 1), .ref (ad 5), .ref (ad 13), .ref (ad 14), .int (nI wc)])), (ad 10, .inl (cI, lz, .inl lh)), (ad 11, .inl (cI, lz, .inl lw)), (ad 12, .inl (cL, lz, .inr (.inl lb))), (ad 13, .inl (cI, 11, .inl wh)), (ad 14, .inl (cI, 11, .inl wv))] H := hP
  refine lv_aload_n hx hb dX2_forget_22 rfl (lv_at hl 0 rfl) ?_
  refine lv_iconst (v := 0) hx hb dX2_forget_23 (by decide) ?_
  refine va_put (D := (dC, dI)) (ci := 2) (v := .int 0) (ty := .int) (C := RX2) (T := TX2) (N := 12) hx hb hts (xcons inX2) tyX2 tyX2_ok nX2 hown hK hP (xD hinj [9, 10, 11, 12, 13, 14] rfl (by decide) (by decide)) hS 0 rfl rfl 11 (by decide) hw5 (fun _ h9 => h9) rfl (by decide +kernel) rfl rfl (Nat.le_of_ble_eq_true rfl) dX2_forget_24 (fun H locs hP _ hS => ?_)
  have hP : va_P (dC, dI) vwCl [(ad 9, .inr (2, [.int 0, .int 0, .long (-1), .int 0, .ref (ad 10), .ref (ad 11), .ref (ad 12), .ref (ad 1), .ref (ad 5), .ref (ad 13), .ref (ad 14), .int 0])), (ad 10, .inl (cI, lz, .inl lh)), (ad 11, .inl (cI, lz, .inl lw)), (ad 12, .inl (cL, lz, .inr (.inl lb))), (ad 13, .inl (cI, 11, .inl wh)), (ad 14, .inl (cI, 11, .inl wv))] H := hP
  exact W.vret hx hb hr (fun t ht hW => ⟨⟨(0, 0, (-1), 0, 0), rfl, hF, xBi ht hP⟩, hS.F ht⟩) hS.2.2 dX2_forget_27
set_option maxHeartbeats 4000000 in
set_option maxRecDepth 100000 in
theorem c_putWaiting (l : Launch) (dC : Nat → ClassId) (dI : Nat → Nat → Nat) (cI cL cZ : ClassId) (ad : Nat → Nat) (hinj : xI ad 15) (lz : Nat) (nd : Int32) (lc : Nat) (bc : Int64) (bv : Int32) (lh lw : Nat → Int32) (lb : Nat → Int64) (wh wv : Nat → Int32) (wc : Nat) (hwc : wc ≤ 11) (hv vl : Int32) : Met l yX2_putWaiting wsX2_putWaiting ({ frames := 0, cells := 0, slots := 0, locals := 0 }) (va_Pc [.ref (ad 9), .int hv, .int vl] (fun U => va_P (dC, dI) vwCl [(ad 9, .inr (2, [.int nd, .int (nI lc), .long bc, .int bv, .ref (ad 10), .ref (ad 11), .ref (ad 12), .ref (ad 1), .ref (ad 5), .ref (ad 13), .ref (ad 14), .int (nI wc)])), (ad 10, .inl (cI, lz, .inl lh)), (ad 11, .inl (cI, lz, .inl lw)), (ad 12, .inl (cL, lz, .inr (.inl lb))), (ad 13, .inl (cI, 11, .inl wh)), (ad 14, .inl (cI, 11, .inl wv))] U.heap ∧ va_K (dC, dI) vwCl [(cI, .int), (cL, .long), (cZ, .boolean)] U)) (va_Qv (fun u => f_putWaiting wh wv wc hv vl = u) (xB (dC, dI) vwCl (fun (u : (Nat → Int32) × (Nat → Int32) × Nat) => match u with | (wh1, wv1, wc1) => [(ad 9, .inr (2, [.int nd, .int (nI lc), .long bc, .int bv, .ref (ad 10), .ref (ad 11), .ref (ad 12), .ref (ad 1), .ref (ad 5), .ref (ad 13), .ref (ad 14), .int (nI wc1)])), (ad 10, .inl (cI, lz, .inl lh)), (ad 11, .inl (cI, lz, .inl lw)), (ad 12, .inl (cL, lz, .inr (.inl lb))), (ad 13, .inl (cI, 11, .inl wh1)), (ad 14, .inl (cI, 11, .inl wv1))])) (xA ad [9, 10, 11, 12, 13, 14])) 0 0 (xA ad [9, 10, 11, 12, 13, 14]) := by
  refine Met.ofW (cc := cX2_putWaiting) (maxL := 3) (ret := none) (by decide) rfl ?_
  intro p e s m args below meth c s₁ B hml hvv
  obtain ⟨rfl, hP0, hK⟩ := hvv
  have hx := B.exec
  have hb := B.bytes
  have hr := B.returns
  have hts := atoms_spec (ws := wsX2_putWaiting) B.pre
  have hown : s.vm.findClass RX2 = some m.cls := findClass_of_methodNamed B.named
  have hlocks := B.notSynchronized
  have hw0 : (.fieldLink RX2 57 "WeightedClauses$Search" "waitingCount" "I" : Cond).before _ s = true := hts _ (List.mem_cons_of_mem _ wd_152)
  have hw1 : (.fieldLink RX2 17 "WeightedClauses$Search" "waitingHave" "[I" : Cond).before _ s = true := hts _ (List.mem_cons_of_mem _ wd_150)
  have hw2 : (.fieldLink RX2 21 "WeightedClauses$Search" "waitingValues" "[I" : Cond).before _ s = true := hts _ (List.mem_cons_of_mem _ wd_151)
  have hP : va_P (dC, dI) vwCl [(ad 9, .inr (2, [.int nd, .int (nI lc), .long bc, .int bv, .ref (ad 10), .ref (ad 11), .ref (ad 12), .ref (ad 1), .ref (ad 5), .ref (ad 13), .ref (ad 14), .int (nI wc)])), (ad 10, .inl (cI, lz, .inl lh)), (ad 11, .inl (cI, lz, .inl lw)), (ad 12, .inl (cL, lz, .inr (.inl lb))), (ad 13, .inl (cI, 11, .inl wh)), (ad 14, .inl (cI, 11, .inl wv))] s.heap := hP0.sub [0, 1, 2, 3, 4, 5] rfl
  have hS : va_S (xA ad [9, 10, 11, 12, 13, 14]) s.heap s.heap [] := va_S.rf
  have hl := lv_entry [.ref (ad 9), .int hv, .int vl] (n := 3) (Nat.le_of_ble_eq_true rfl)
  rw [lg_entry_eq]
  generalize (lg_sl [.ref (ad 9), .int hv, .int vl] ++ List.replicate (3 - (lg_sl [.ref (ad 9), .int hv, .int vl]).length) Slot.unset).toArray = ls at hl ⊢
  have hl : lv_has ls 3 [(0, .ref (ad 9)), (1, .int hv), (2, .int vl)] := hl
  have hF := Eq.refl (f_putWaiting wh wv wc hv vl)
  conv at hF => rhs; unfold f_putWaiting
  refine lv_aload_n hx hb dX2_putWaiting_0 rfl (lv_at hl 0 rfl) ?_
  refine va_get (D := (dC, dI)) (ci := 2) (v := .int (nI wc)) (C := RX2) (T := TX2) (N := 12) hx hb hts (xcons inX2) hown hK hP 0 rfl rfl 11 (by decide) hw0 (fun _ h9 => h9) rfl dX2_putWaiting_1 ?_
  refine lv_aload_n hx hb dX2_putWaiting_4 rfl (lv_at hl 0 rfl) ?_
  refine va_get (D := (dC, dI)) (ci := 2) (v := .ref (ad 13)) (C := RX2) (T := TX2) (N := 12) hx hb hts (xcons inX2) hown hK hP 0 rfl rfl 9 (by decide) hw1 (fun _ h9 => h9) rfl dX2_putWaiting_5 ?_
  refine va_alen (v := 11) hx hb hK hP 4 0 rfl rfl rfl dX2_putWaiting_8 ?_
  refine lv_icmp_ge (tgt := 42) hx hb dX2_putWaiting_9 (by decide) (fun h1 => ?_) (fun h1 => ?_)
  · have hF := hF.trans (if_pos h1)
    exact W.vret hx hb hr (fun t ht hW => ⟨⟨(wh, wv, wc), rfl, hF, xBi ht hP⟩, hS.F ht⟩) hS.2.2 dX2_putWaiting_42
  · have hF := hF.trans (if_neg h1)
    have hlt := xnle 11 h1 (by omega) (by decide)
    refine lv_aload_n hx hb dX2_putWaiting_12 rfl (lv_at hl 0 rfl) ?_
    refine va_get (D := (dC, dI)) (ci := 2) (v := .ref (ad 13)) (C := RX2) (T := TX2) (N := 12) hx hb hts (xcons inX2) hown hK hP 0 rfl rfl 9 (by decide) hw1 (fun _ h9 => h9) rfl dX2_putWaiting_13 ?_
    refine lv_aload_n hx hb dX2_putWaiting_16 rfl (lv_at hl 0 rfl) ?_
    refine va_get (D := (dC, dI)) (ci := 2) (v := .int (nI wc)) (C := RX2) (T := TX2) (N := 12) hx hb hts (xcons inX2) hown hK hP 0 rfl rfl 11 (by decide) hw0 (fun _ h9 => h9) rfl dX2_putWaiting_17 ?_
    refine lv_iload_n hx hb dX2_putWaiting_20 rfl (lv_at hl 1 rfl) ?_
    refine xr_iast hx hb hK hP (xD hinj [9, 10, 11, 12, 13, 14] rfl (by decide) (by decide)) hS 4 0 rfl rfl wc (by omega) (by omega) dX2_putWaiting_21 (fun H locs hP hS => ?_)
    have hP : va_P (dC, dI) vwCl [(ad 9, .inr (2, [.int nd, .int (nI lc), .long bc, .int bv, .ref (ad 10), .ref (ad 11), .ref (ad 12), .ref (ad 1), .ref (ad 5), .ref (ad 13), .ref (ad 14), .int (nI wc)])), (ad 10, .inl (cI, lz, .inl lh)), (ad 11, .inl (cI, lz, .inl lw)), (ad 12, .inl (cL, lz, .inr (.inl lb))), (ad 13, .inl (cI, 11, .inl (upd wh wc hv))), (ad 14, .inl (cI, 11, .inl wv))] H := hP
    refine lv_aload_n hx hb dX2_putWaiting_22 rfl (lv_at hl 0 rfl) ?_
    refine va_get (D := (dC, dI)) (ci := 2) (v := .ref (ad 14)) (C := RX2) (T := TX2) (N := 12) hx hb hts (xcons inX2) hown hK hP 0 rfl rfl 10 (by decide) hw2 (fun _ h9 => h9) rfl dX2_putWaiting_23 ?_
    refine lv_aload_n hx hb dX2_putWaiting_26 rfl (lv_at hl 0 rfl) ?_
    refine va_get (D := (dC, dI)) (ci := 2) (v := .int (nI wc)) (C := RX2) (T := TX2) (N := 12) hx hb hts (xcons inX2) hown hK hP 0 rfl rfl 11 (by decide) hw0 (fun _ h9 => h9) rfl dX2_putWaiting_27 ?_
    refine lv_iload_n hx hb dX2_putWaiting_30 rfl (lv_at hl 2 rfl) ?_
    refine xr_iast hx hb hK hP (xD hinj [9, 10, 11, 12, 13, 14] rfl (by decide) (by decide)) hS 5 0 rfl rfl wc (by omega) (by omega) dX2_putWaiting_31 (fun H locs hP hS => ?_)
    have hP : va_P (dC, dI) vwCl [(ad 9, .inr (2, [.int nd, .int (nI lc), .long bc, .int bv, .ref (ad 10), .ref (ad 11), .ref (ad 12), .ref (ad 1), .ref (ad 5), .ref (ad 13), .ref (ad 14), .int (nI wc)])), (ad 10, .inl (cI, lz, .inl lh)), (ad 11, .inl (cI, lz, .inl lw)), (ad 12, .inl (cL, lz, .inr (.inl lb))), (ad 13, .inl (cI, 11, .inl (upd wh wc hv))), (ad 14, .inl (cI, 11, .inl (upd wv wc vl)))] H := hP
    refine lv_aload_n hx hb dX2_putWaiting_32 rfl (lv_at hl 0 rfl) ?_
    refine lv_dup hx hb dX2_putWaiting_33 rfl ?_
    refine va_get (D := (dC, dI)) (ci := 2) (v := .int (nI wc)) (C := RX2) (T := TX2) (N := 12) hx hb hts (xcons inX2) hown hK hP 0 rfl rfl 11 (by decide) hw0 (fun _ h9 => h9) rfl dX2_putWaiting_34 ?_
    refine lv_iconst (v := 1) hx hb dX2_putWaiting_37 (by decide) ?_
    refine xr_add1 hx hb dX2_putWaiting_38 ?_
    refine va_put (D := (dC, dI)) (ci := 2) (v := .int (nI (wc + 1))) (ty := .int) (C := RX2) (T := TX2) (N := 12) hx hb hts (xcons inX2) tyX2 tyX2_ok nX2 hown hK hP (xD hinj [9, 10, 11, 12, 13, 14] rfl (by decide) (by decide)) hS 0 rfl rfl 11 (by decide) hw0 (fun _ h9 => h9) rfl (by decide +kernel) rfl rfl (Nat.le_of_ble_eq_true rfl) dX2_putWaiting_39 (fun H locs hP _ hS => ?_)
    have hP : va_P (dC, dI) vwCl [(ad 9, .inr (2, [.int nd, .int (nI lc), .long bc, .int bv, .ref (ad 10), .ref (ad 11), .ref (ad 12), .ref (ad 1), .ref (ad 5), .ref (ad 13), .ref (ad 14), .int (nI (wc + 1))])), (ad 10, .inl (cI, lz, .inl lh)), (ad 11, .inl (cI, lz, .inl lw)), (ad 12, .inl (cL, lz, .inr (.inl lb))), (ad 13, .inl (cI, 11, .inl (upd wh wc hv))), (ad 14, .inl (cI, 11, .inl (upd wv wc vl)))] H := hP
    exact W.vret hx hb hr (fun t ht hW => ⟨⟨((upd wh wc hv), (upd wv wc vl), (wc + 1)), rfl, hF, xBi ht hP⟩, hS.F ht⟩) hS.2.2 dX2_putWaiting_42
set_option maxHeartbeats 4000000 in
set_option maxRecDepth 100000 in
theorem c_putIntoLog (l : Launch) (dC : Nat → ClassId) (dI : Nat → Nat → Nat) (cI cL cZ : ClassId) (ad : Nat → Nat) (hinj : xI ad 15) (lz : Nat) (nd : Int32) (lc : Nat) (bc : Int64) (bv : Int32) (lh lw : Nat → Int32) (lb : Nat → Int64) (wh wv : Nat → Int32) (wc : Nat) (hlz : lz ≤ 512) (hlc : lc ≤ lz) (hv vl : Int32) : Met l yX2_putIntoLog wsX2_putIntoLog ({ frames := 0, cells := 0, slots := 0, locals := 0 }) (va_Pc [.ref (ad 9), .int hv, .int vl] (fun U => va_P (dC, dI) vwCl [(ad 9, .inr (2, [.int nd, .int (nI lc), .long bc, .int bv, .ref (ad 10), .ref (ad 11), .ref (ad 12), .ref (ad 1), .ref (ad 5), .ref (ad 13), .ref (ad 14), .int (nI wc)])), (ad 10, .inl (cI, lz, .inl lh)), (ad 11, .inl (cI, lz, .inl lw)), (ad 12, .inl (cL, lz, .inr (.inl lb))), (ad 13, .inl (cI, 11, .inl wh)), (ad 14, .inl (cI, 11, .inl wv))] U.heap ∧ va_K (dC, dI) vwCl [(cI, .int), (cL, .long), (cZ, .boolean)] U)) (va_Qv (fun u => f_putIntoLog lz lc bc lh lw lb hv vl = u) (xB (dC, dI) vwCl (fun (u : Nat × (Nat → Int32) × (Nat → Int32) × (Nat → Int64)) => match u with | (lc1, lh1, lw1, lb1) => [(ad 9, .inr (2, [.int nd, .int (nI lc1), .long bc, .int bv, .ref (ad 10), .ref (ad 11), .ref (ad 12), .ref (ad 1), .ref (ad 5), .ref (ad 13), .ref (ad 14), .int (nI wc)])), (ad 10, .inl (cI, lz, .inl lh1)), (ad 11, .inl (cI, lz, .inl lw1)), (ad 12, .inl (cL, lz, .inr (.inl lb1))), (ad 13, .inl (cI, 11, .inl wh)), (ad 14, .inl (cI, 11, .inl wv))])) (xA ad [9, 10, 11, 12, 13, 14])) 0 0 (xA ad [9, 10, 11, 12, 13, 14]) := by
  refine Met.ofW (cc := cX2_putIntoLog) (maxL := 3) (ret := none) (by decide) rfl ?_
  intro p e s m args below meth c s₁ B hml hvv
  obtain ⟨rfl, hP0, hK⟩ := hvv
  have hx := B.exec
  have hb := B.bytes
  have hr := B.returns
  have hts := atoms_spec (ws := wsX2_putIntoLog) B.pre
  have hown : s.vm.findClass RX2 = some m.cls := findClass_of_methodNamed B.named
  have hlocks := B.notSynchronized
  have hw0 : (.fieldLink RX2 51 "WeightedClauses$Search" "logCount" "I" : Cond).before _ s = true := hts _ (List.mem_cons_of_mem _ wd_136)
  have hw1 : (.fieldLink RX2 38 "WeightedClauses$Search" "logHave" "[I" : Cond).before _ s = true := hts _ (List.mem_cons_of_mem _ wd_142)
  have hw2 : (.fieldLink RX2 41 "WeightedClauses$Search" "logValues" "[I" : Cond).before _ s = true := hts _ (List.mem_cons_of_mem _ wd_144)
  have hw3 : (.fieldLink RX2 44 "WeightedClauses$Search" "logBest" "[J" : Cond).before _ s = true := hts _ (List.mem_cons_of_mem _ wd_146)
  have hw4 : (.fieldLink RX2 11 "WeightedClauses$Search" "bestCost" "J" : Cond).before _ s = true := hts _ (List.mem_cons_of_mem _ wd_138)
  have hP : va_P (dC, dI) vwCl [(ad 9, .inr (2, [.int nd, .int (nI lc), .long bc, .int bv, .ref (ad 10), .ref (ad 11), .ref (ad 12), .ref (ad 1), .ref (ad 5), .ref (ad 13), .ref (ad 14), .int (nI wc)])), (ad 10, .inl (cI, lz, .inl lh)), (ad 11, .inl (cI, lz, .inl lw)), (ad 12, .inl (cL, lz, .inr (.inl lb))), (ad 13, .inl (cI, 11, .inl wh)), (ad 14, .inl (cI, 11, .inl wv))] s.heap := hP0.sub [0, 1, 2, 3, 4, 5] rfl
  have hS : va_S (xA ad [9, 10, 11, 12, 13, 14]) s.heap s.heap [] := va_S.rf
  have hl := lv_entry [.ref (ad 9), .int hv, .int vl] (n := 3) (Nat.le_of_ble_eq_true rfl)
  rw [lg_entry_eq]
  generalize (lg_sl [.ref (ad 9), .int hv, .int vl] ++ List.replicate (3 - (lg_sl [.ref (ad 9), .int hv, .int vl]).length) Slot.unset).toArray = ls at hl ⊢
  have hl : lv_has ls 3 [(0, .ref (ad 9)), (1, .int hv), (2, .int vl)] := hl
  have hF := Eq.refl (f_putIntoLog lz lc bc lh lw lb hv vl)
  conv at hF => rhs; unfold f_putIntoLog
  refine lv_aload_n hx hb dX2_putIntoLog_0 rfl (lv_at hl 0 rfl) ?_
  refine va_get (D := (dC, dI)) (ci := 2) (v := .int (nI lc)) (C := RX2) (T := TX2) (N := 12) hx hb hts (xcons inX2) hown hK hP 0 rfl rfl 1 (by decide) hw0 (fun _ h9 => h9) rfl dX2_putIntoLog_1 ?_
  refine lv_aload_n hx hb dX2_putIntoLog_4 rfl (lv_at hl 0 rfl) ?_
  refine va_get (D := (dC, dI)) (ci := 2) (v := .ref (ad 10)) (C := RX2) (T := TX2) (N := 12) hx hb hts (xcons inX2) hown hK hP 0 rfl rfl 4 (by decide) hw1 (fun _ h9 => h9) rfl dX2_putIntoLog_5 ?_
  refine va_alen (v := (nI lz)) hx hb hK hP 1 0 rfl rfl rfl dX2_putIntoLog_8 ?_
  refine lv_icmp_ge (tgt := 55) hx hb dX2_putIntoLog_9 (by decide) (fun h1 => ?_) (fun h1 => ?_)
  · have hF := hF.trans (if_pos h1)
    exact W.vret hx hb hr (fun t ht hW => ⟨⟨(lc, lh, lw, lb), rfl, hF, xBi ht hP⟩, hS.F ht⟩) hS.2.2 dX2_putIntoLog_55
  · have hF := hF.trans (if_neg h1)
    have hlt := xnle lz h1 (by omega) (by omega)
    refine lv_aload_n hx hb dX2_putIntoLog_12 rfl (lv_at hl 0 rfl) ?_
    refine va_get (D := (dC, dI)) (ci := 2) (v := .ref (ad 10)) (C := RX2) (T := TX2) (N := 12) hx hb hts (xcons inX2) hown hK hP 0 rfl rfl 4 (by decide) hw1 (fun _ h9 => h9) rfl dX2_putIntoLog_13 ?_
    refine lv_aload_n hx hb dX2_putIntoLog_16 rfl (lv_at hl 0 rfl) ?_
    refine va_get (D := (dC, dI)) (ci := 2) (v := .int (nI lc)) (C := RX2) (T := TX2) (N := 12) hx hb hts (xcons inX2) hown hK hP 0 rfl rfl 1 (by decide) hw0 (fun _ h9 => h9) rfl dX2_putIntoLog_17 ?_
    refine lv_iload_n hx hb dX2_putIntoLog_20 rfl (lv_at hl 1 rfl) ?_
    refine xr_iast hx hb hK hP (xD hinj [9, 10, 11, 12, 13, 14] rfl (by decide) (by decide)) hS 1 0 rfl rfl lc (by omega) (by omega) dX2_putIntoLog_21 (fun H locs hP hS => ?_)
    have hP : va_P (dC, dI) vwCl [(ad 9, .inr (2, [.int nd, .int (nI lc), .long bc, .int bv, .ref (ad 10), .ref (ad 11), .ref (ad 12), .ref (ad 1), .ref (ad 5), .ref (ad 13), .ref (ad 14), .int (nI wc)])), (ad 10, .inl (cI, lz, .inl (upd lh lc hv))), (ad 11, .inl (cI, lz, .inl lw)), (ad 12, .inl (cL, lz, .inr (.inl lb))), (ad 13, .inl (cI, 11, .inl wh)), (ad 14, .inl (cI, 11, .inl wv))] H := hP
    refine lv_aload_n hx hb dX2_putIntoLog_22 rfl (lv_at hl 0 rfl) ?_
    refine va_get (D := (dC, dI)) (ci := 2) (v := .ref (ad 11)) (C := RX2) (T := TX2) (N := 12) hx hb hts (xcons inX2) hown hK hP 0 rfl rfl 5 (by decide) hw2 (fun _ h9 => h9) rfl dX2_putIntoLog_23 ?_
    refine lv_aload_n hx hb dX2_putIntoLog_26 rfl (lv_at hl 0 rfl) ?_
    refine va_get (D := (dC, dI)) (ci := 2) (v := .int (nI lc)) (C := RX2) (T := TX2) (N := 12) hx hb hts (xcons inX2) hown hK hP 0 rfl rfl 1 (by decide) hw0 (fun _ h9 => h9) rfl dX2_putIntoLog_27 ?_
    refine lv_iload_n hx hb dX2_putIntoLog_30 rfl (lv_at hl 2 rfl) ?_
    refine xr_iast hx hb hK hP (xD hinj [9, 10, 11, 12, 13, 14] rfl (by decide) (by decide)) hS 2 0 rfl rfl lc (by omega) (by omega) dX2_putIntoLog_31 (fun H locs hP hS => ?_)
    have hP : va_P (dC, dI) vwCl [(ad 9, .inr (2, [.int nd, .int (nI lc), .long bc, .int bv, .ref (ad 10), .ref (ad 11), .ref (ad 12), .ref (ad 1), .ref (ad 5), .ref (ad 13), .ref (ad 14), .int (nI wc)])), (ad 10, .inl (cI, lz, .inl (upd lh lc hv))), (ad 11, .inl (cI, lz, .inl (upd lw lc vl))), (ad 12, .inl (cL, lz, .inr (.inl lb))), (ad 13, .inl (cI, 11, .inl wh)), (ad 14, .inl (cI, 11, .inl wv))] H := hP
    refine lv_aload_n hx hb dX2_putIntoLog_32 rfl (lv_at hl 0 rfl) ?_
    refine va_get (D := (dC, dI)) (ci := 2) (v := .ref (ad 12)) (C := RX2) (T := TX2) (N := 12) hx hb hts (xcons inX2) hown hK hP 0 rfl rfl 6 (by decide) hw3 (fun _ h9 => h9) rfl dX2_putIntoLog_33 ?_
    refine lv_aload_n hx hb dX2_putIntoLog_36 rfl (lv_at hl 0 rfl) ?_
    refine va_get (D := (dC, dI)) (ci := 2) (v := .int (nI lc)) (C := RX2) (T := TX2) (N := 12) hx hb hts (xcons inX2) hown hK hP 0 rfl rfl 1 (by decide) hw0 (fun _ h9 => h9) rfl dX2_putIntoLog_37 ?_
    refine lv_aload_n hx hb dX2_putIntoLog_40 rfl (lv_at hl 0 rfl) ?_
    refine va_get (D := (dC, dI)) (ci := 2) (v := .long bc) (C := RX2) (T := TX2) (N := 12) hx hb hts (xcons inX2) hown hK hP 0 rfl rfl 2 (by decide) hw4 (fun _ h9 => h9) rfl dX2_putIntoLog_41 ?_
    refine xr_last hx hb hK hP (xD hinj [9, 10, 11, 12, 13, 14] rfl (by decide) (by decide)) hS 3 1 rfl rfl lc (by omega) (by omega) dX2_putIntoLog_44 (fun H locs hP hS => ?_)
    have hP : va_P (dC, dI) vwCl [(ad 9, .inr (2, [.int nd, .int (nI lc), .long bc, .int bv, .ref (ad 10), .ref (ad 11), .ref (ad 12), .ref (ad 1), .ref (ad 5), .ref (ad 13), .ref (ad 14), .int (nI wc)])), (ad 10, .inl (cI, lz, .inl (upd lh lc hv))), (ad 11, .inl (cI, lz, .inl (upd lw lc vl))), (ad 12, .inl (cL, lz, .inr (.inl (vp_updL lb lc bc)))), (ad 13, .inl (cI, 11, .inl wh)), (ad 14, .inl (cI, 11, .inl wv))] H := hP
    refine lv_aload_n hx hb dX2_putIntoLog_45 rfl (lv_at hl 0 rfl) ?_
    refine lv_dup hx hb dX2_putIntoLog_46 rfl ?_
    refine va_get (D := (dC, dI)) (ci := 2) (v := .int (nI lc)) (C := RX2) (T := TX2) (N := 12) hx hb hts (xcons inX2) hown hK hP 0 rfl rfl 1 (by decide) hw0 (fun _ h9 => h9) rfl dX2_putIntoLog_47 ?_
    refine lv_iconst (v := 1) hx hb dX2_putIntoLog_50 (by decide) ?_
    refine xr_add1 hx hb dX2_putIntoLog_51 ?_
    refine va_put (D := (dC, dI)) (ci := 2) (v := .int (nI (lc + 1))) (ty := .int) (C := RX2) (T := TX2) (N := 12) hx hb hts (xcons inX2) tyX2 tyX2_ok nX2 hown hK hP (xD hinj [9, 10, 11, 12, 13, 14] rfl (by decide) (by decide)) hS 0 rfl rfl 1 (by decide) hw0 (fun _ h9 => h9) rfl (by decide +kernel) rfl rfl (Nat.le_of_ble_eq_true rfl) dX2_putIntoLog_52 (fun H locs hP _ hS => ?_)
    have hP : va_P (dC, dI) vwCl [(ad 9, .inr (2, [.int nd, .int (nI (lc + 1)), .long bc, .int bv, .ref (ad 10), .ref (ad 11), .ref (ad 12), .ref (ad 1), .ref (ad 5), .ref (ad 13), .ref (ad 14), .int (nI wc)])), (ad 10, .inl (cI, lz, .inl (upd lh lc hv))), (ad 11, .inl (cI, lz, .inl (upd lw lc vl))), (ad 12, .inl (cL, lz, .inr (.inl (vp_updL lb lc bc)))), (ad 13, .inl (cI, 11, .inl wh)), (ad 14, .inl (cI, 11, .inl wv))] H := hP
    exact W.vret hx hb hr (fun t ht hW => ⟨⟨((lc + 1), (upd lh lc hv), (upd lw lc vl), (vp_updL lb lc bc)), rfl, hF, xBi ht hP⟩, hS.F ht⟩) hS.2.2 dX2_putIntoLog_55
end
section
theorem forget_eq {nd1 : Int32} {lc1 : Nat} {bc1 : Int64} {bv1 : Int32} {wc1 : Nat} (h : f_forget = (nd1, lc1, bc1, bv1, wc1)) : nd1 = 0 ∧ lc1 = 0 ∧ bc1 = -1 ∧ bv1 = 0 ∧ wc1 = 0 := by
  unfold f_forget at h
  simp only [Prod.mk.injEq] at h
  obtain ⟨h1, h2, h3, h4, h5⟩ := h
  exact ⟨h1.symm, h2.symm, h3.symm, h4.symm, h5.symm⟩
theorem putWaiting_ok {wh wv : Nat → Int32} {wc : Nat} {hv vl : Int32} {wh1 wv1 : Nat → Int32} {wc1 : Nat} (h : f_putWaiting wh wv wc hv vl = (wh1, wv1, wc1)) (hwc : wc ≤ 11) : wc1 ≤ 11 := by
  unfold f_putWaiting at h
  split at h
  · simp only [Prod.mk.injEq] at h
    omega
  · rename_i hc
    have hlt := xnle 11 hc (by omega) (by decide)
    simp only [Prod.mk.injEq] at h
    omega
theorem putIntoLog_ok {lz lc : Nat} {bc : Int64} {lh lw : Nat → Int32} {lb : Nat → Int64} {hv vl : Int32} {lc1 : Nat} {lh1 lw1 : Nat → Int32} {lb1 : Nat → Int64} (h : f_putIntoLog lz lc bc lh lw lb hv vl = (lc1, lh1, lw1, lb1)) (hlz : lz ≤ 512) (hlc : lc ≤ lz) : lc1 ≤ lz := by
  unfold f_putIntoLog at h
  split at h
  · simp only [Prod.mk.injEq] at h
    omega
  · rename_i hc
    have hlt := xnle lz hc (by omega) (by omega)
    simp only [Prod.mk.injEq] at h
    omega
theorem isLogged_ok {lc : Nat} {k : Int32} (h : ¬ f_isLogged lc k = 0) : ¬ k < 0 ∧ ¬ nI lc ≤ k := by
  unfold f_isLogged at h
  split at h
  · exact absurd rfl h
  · split at h
    · exact absurd rfl h
    · rename_i h1 h2
      exact ⟨h1, h2⟩
end
section
def f_visitLeaf (av : Int32) (nc : Nat) (mt mf wt : Nat → Int32) (bc : Int64) (bv : Int32) (vl : Int32) : Int64 × Int32 :=
  if (lg_cmp (f_costOf nc mt mf wt av vl) (-2)) = 0 then
    (bc, bv)
  else
    if (f_hasBest bc) = 0 then
      ((f_costOf nc mt mf wt av vl), vl)
    else
      if 0 ≤ (lg_cmp (f_costOf nc mt mf wt av vl) bc) then
        (bc, bv)
      else
        ((f_costOf nc mt mf wt av vl), vl)
def f_branch (nv nc : Nat) (mt mf wh wv : Nat → Int32) (wc : Nat) (hv vl : Int32) : (Nat → Int32) × (Nat → Int32) × Nat :=
  if (f_firstLiteral nv nc mt mf hv vl) = (-1) then
    (wh, wv, wc)
  else
    if ((f_firstLiteral nv nc mt mf hv vl) &&& 1) = 0 then
      match (f_putWaiting wh wv wc (hv ||| ((1 : Int32) <<< (((f_firstLiteral nv nc mt mf hv vl) >>> (1 &&& 31)) &&& 31))) vl) with
      | (wh1_58, wv1_58, wc1_58) =>
        match (f_putWaiting wh1_58 wv1_58 wc1_58 (hv ||| ((1 : Int32) <<< (((f_firstLiteral nv nc mt mf hv vl) >>> (1 &&& 31)) &&& 31))) (vl ||| ((1 : Int32) <<< (((f_firstLiteral nv nc mt mf hv vl) >>> (1 &&& 31)) &&& 31)))) with
        | (wh1_77, wv1_77, wc1_77) =>
          (wh1_77, wv1_77, wc1_77)
    else
      match (f_putWaiting wh wv wc (hv ||| ((1 : Int32) <<< (((f_firstLiteral nv nc mt mf hv vl) >>> (1 &&& 31)) &&& 31))) (vl ||| ((1 : Int32) <<< (((f_firstLiteral nv nc mt mf hv vl) >>> (1 &&& 31)) &&& 31)))) with
      | (wh1_58, wv1_58, wc1_58) =>
        match (f_putWaiting wh1_58 wv1_58 wc1_58 (hv ||| ((1 : Int32) <<< (((f_firstLiteral nv nc mt mf hv vl) >>> (1 &&& 31)) &&& 31))) vl) with
        | (wh1_77, wv1_77, wc1_77) =>
          (wh1_77, wv1_77, wc1_77)
set_option maxHeartbeats 4000000 in
set_option maxRecDepth 100000 in
theorem c_visitLeaf (l : Launch) (dC : Nat → ClassId) (dI : Nat → Nat → Nat) (cI cL cZ : ClassId) (ad : Nat → Nat) (hinj : xI ad 15) (nv : Nat) (av : Int32) (nc : Nat) (mt mf wt : Nat → Int32) (lz : Nat) (nd : Int32) (lc : Nat) (bc : Int64) (bv : Int32) (lh lw : Nat → Int32) (lb : Nat → Int64) (wh wv : Nat → Int32) (wc : Nat) (hnc : nc ≤ 40) (vl : Int32) : Met l yX2_visitLeaf wsX2_visitLeaf ({ frames := 2, cells := 0, slots := 0, locals := 49 }) (va_Pc [.ref (ad 9), .int vl] (fun U => va_P (dC, dI) vwCl [(ad 1, .inr (1, [.int (nI nv), .int av, .int (nI nc), .ref (ad 2), .ref (ad 3), .ref (ad 4)])), (ad 2, .inl (cI, 40, .inl mt)), (ad 3, .inl (cI, 40, .inl mf)), (ad 4, .inl (cI, 40, .inl wt)), (ad 9, .inr (2, [.int nd, .int (nI lc), .long bc, .int bv, .ref (ad 10), .ref (ad 11), .ref (ad 12), .ref (ad 1), .ref (ad 5), .ref (ad 13), .ref (ad 14), .int (nI wc)])), (ad 10, .inl (cI, lz, .inl lh)), (ad 11, .inl (cI, lz, .inl lw)), (ad 12, .inl (cL, lz, .inr (.inl lb))), (ad 13, .inl (cI, 11, .inl wh)), (ad 14, .inl (cI, 11, .inl wv))] U.heap ∧ va_K (dC, dI) vwCl [(cI, .int), (cL, .long), (cZ, .boolean)] U)) (va_Qv (fun u => f_visitLeaf av nc mt mf wt bc bv vl = u) (xB (dC, dI) vwCl (fun (u : Int64 × Int32) => match u with | (bc1, bv1) => [(ad 9, .inr (2, [.int nd, .int (nI lc), .long bc1, .int bv1, .ref (ad 10), .ref (ad 11), .ref (ad 12), .ref (ad 1), .ref (ad 5), .ref (ad 13), .ref (ad 14), .int (nI wc)])), (ad 10, .inl (cI, lz, .inl lh)), (ad 11, .inl (cI, lz, .inl lw)), (ad 12, .inl (cL, lz, .inr (.inl lb))), (ad 13, .inl (cI, 11, .inl wh)), (ad 14, .inl (cI, 11, .inl wv))])) (xA ad [9, 10, 11, 12, 13, 14])) 0 0 (xA ad [9, 10, 11, 12, 13, 14]) := by
  refine Met.ofW (cc := cX2_visitLeaf) (maxL := 4) (ret := none) (by decide) rfl ?_
  intro p e s m args below meth c s₁ B hml hvv
  obtain ⟨rfl, hP0, hK⟩ := hvv
  have hx := B.exec
  have hb := B.bytes
  have hr := B.returns
  have hts := atoms_spec (ws := wsX2_visitLeaf) B.pre
  have hown : s.vm.findClass RX2 = some m.cls := findClass_of_methodNamed B.named
  have hlocks := B.notSynchronized
  have hw0 : (.fieldLink RX2 24 "WeightedClauses$Search" "formula" "LWeightedClauses$Formula;" : Cond).before _ s = true := hts _ (List.mem_cons_of_mem _ wd_148)
  have hw1 : (.fieldLink RX2 70 "WeightedClauses$Formula" "allVariables" "I" : Cond).before _ s = true := hts _ (List.mem_cons_of_mem _ wd_70)
  have hw2 : (.constantLong RX2 96 (-2) : Cond).before _ s = true := hts _ (List.mem_cons_of_mem _ wd_239)
  have hw3 : (.fieldLink RX2 11 "WeightedClauses$Search" "bestCost" "J" : Cond).before _ s = true := hts _ (List.mem_cons_of_mem _ wd_138)
  have hw4 : (.fieldLink RX2 54 "WeightedClauses$Search" "bestValues" "I" : Cond).before _ s = true := hts _ (List.mem_cons_of_mem _ wd_140)
  have hPr : va_P (dC, dI) vwCl [(ad 1, .inr (1, [.int (nI nv), .int av, .int (nI nc), .ref (ad 2), .ref (ad 3), .ref (ad 4)])), (ad 2, .inl (cI, 40, .inl mt)), (ad 3, .inl (cI, 40, .inl mf)), (ad 4, .inl (cI, 40, .inl wt))] s.heap := hP0.sub [0, 1, 2, 3] rfl
  have hP : va_P (dC, dI) vwCl [(ad 9, .inr (2, [.int nd, .int (nI lc), .long bc, .int bv, .ref (ad 10), .ref (ad 11), .ref (ad 12), .ref (ad 1), .ref (ad 5), .ref (ad 13), .ref (ad 14), .int (nI wc)])), (ad 10, .inl (cI, lz, .inl lh)), (ad 11, .inl (cI, lz, .inl lw)), (ad 12, .inl (cL, lz, .inr (.inl lb))), (ad 13, .inl (cI, 11, .inl wh)), (ad 14, .inl (cI, 11, .inl wv))] s.heap := hP0.sub [4, 5, 6, 7, 8, 9] rfl
  have hS : va_S (xA ad [9, 10, 11, 12, 13, 14]) s.heap s.heap [] := va_S.rf
  have hl := lv_entry [.ref (ad 9), .int vl] (n := 4) (Nat.le_of_ble_eq_true rfl)
  rw [lg_entry_eq]
  generalize (lg_sl [.ref (ad 9), .int vl] ++ List.replicate (4 - (lg_sl [.ref (ad 9), .int vl]).length) Slot.unset).toArray = ls at hl ⊢
  have hl : lv_has ls 4 [(0, .ref (ad 9)), (1, .int vl)] := hl
  have hF := Eq.refl (f_visitLeaf av nc mt mf wt bc bv vl)
  conv at hF => rhs; unfold f_visitLeaf
  refine lv_aload_n hx hb dX2_visitLeaf_0 rfl (lv_at hl 0 rfl) ?_
  refine va_get (D := (dC, dI)) (ci := 2) (v := .ref (ad 1)) (C := RX2) (T := TX2) (N := 12) hx hb hts (xcons inX2) hown hK hP 0 rfl rfl 7 (by decide) hw0 (fun _ h9 => h9) rfl dX2_visitLeaf_1 ?_
  refine lv_aload_n hx hb dX2_visitLeaf_4 rfl (lv_at hl 0 rfl) ?_
  refine va_get (D := (dC, dI)) (ci := 2) (v := .ref (ad 1)) (C := RX2) (T := TX2) (N := 12) hx hb hts (xcons inX2) hown hK hP 0 rfl rfl 7 (by decide) hw0 (fun _ h9 => h9) rfl dX2_visitLeaf_5 ?_
  have hR := xP0 hPr (xnA hinj [1, 2, 3, 4] rfl (by decide)) hS
  refine va_get (D := (dC, dI)) (ci := 1) (v := .int av) (C := RX1) (T := TX1) (N := 6) hx hb hts (xcons inX1) hown hK hR 0 rfl rfl 1 (by decide) hw1 (fun _ h9 => h9) rfl dX2_visitLeaf_8 ?_
  refine lv_iload_n hx hb dX2_visitLeaf_11 rfl (lv_at hl 1 rfl) ?_
  refine xro_l (va_runV (As := [.int av, .int vl]) (rest := []) ⟨hx, hb, hml, hown, hts⟩ (c_costOf l dC dI cI cL cZ ad hinj nv av nc mt mf wt (by omega) av vl) (xcwV 2 hts wd_233 wd_35 wd_230 wd_231 wd_232 rfl rfl (by decide +kernel) ⟨Nat.le_of_ble_eq_true rfl, Nat.le_of_ble_eq_true rfl⟩) (xpreV (va_recv hK hR rfl (q0 := 0) rfl) hR hK) rfl rfl hl.1 rfl (lv_room (Nat.le_of_ble_eq_true rfl)) dX2_visitLeaf_12 ⟨Nat.le_of_ble_eq_true rfl, Nat.le_of_ble_eq_true rfl⟩) hS (fun H locs hk hS => ?_)
  have hP := xkeep hP hk
  refine lv_lstore_n (lv' := [(2, .long (f_costOf nc mt mf wt av vl)), (0, .ref (ad 9)), (1, .int vl)]) hx hb dX2_visitLeaf_15 rfl hl (by decide) rfl (fun ls hl => ?_)
  refine lv_lload_n hx hb dX2_visitLeaf_16 rfl (lv_at hl 0 rfl) ?_
  refine lv_ldc2 hx hb hown hw2 dX2_visitLeaf_17 ?_
  refine W.lcmp hx hb dX2_visitLeaf_20 ?_
  refine lv_if_eq (tgt := 50) hx hb dX2_visitLeaf_21 (by decide) (fun h1 => ?_) (fun h1 => ?_)
  · have hF := hF.trans (if_pos h1)
    exact W.vret hx hb hr (fun t ht hW => ⟨⟨(bc, bv), rfl, hF, xBi ht hP⟩, hS.F ht⟩) hS.2.2 dX2_visitLeaf_50
  · have hF := hF.trans (if_neg h1)
    refine lv_aload_n hx hb dX2_visitLeaf_24 rfl (lv_at hl 1 rfl) ?_
    have hR := xP0 hPr (xnA hinj [1, 2, 3, 4] rfl (by decide)) hS
    refine xro_i (va_runV (As := []) (rest := []) ⟨hx, hb, hml, hown, hts⟩ (c_hasBest l dC dI cI cL cZ ad hinj lz nd lc bc bv lh lw lb wh wv wc) (xcwV 0 hts wd_243 wd_38 wd_240 wd_241 wd_242 rfl rfl (by decide +kernel) ⟨Nat.le_of_ble_eq_true rfl, Nat.le_of_ble_eq_true rfl⟩) (xpreV (va_recv hK hP rfl (q0 := 0) rfl) hP hK) rfl rfl hl.1 rfl (lv_room (Nat.le_of_ble_eq_true rfl)) dX2_visitLeaf_25 ⟨Nat.le_of_ble_eq_true rfl, Nat.le_of_ble_eq_true rfl⟩) hS (fun H locs hk hS => ?_)
    have hP := xkeep hP hk
    refine lv_if_eq (tgt := 40) hx hb dX2_visitLeaf_28 (by decide) (fun h2 => ?_) (fun h2 => ?_)
    · have hF := hF.trans (if_pos h2)
      refine lv_aload_n hx hb dX2_visitLeaf_40 rfl (lv_at hl 1 rfl) ?_
      refine lv_lload_n hx hb dX2_visitLeaf_41 rfl (lv_at hl 0 rfl) ?_
      refine va_put (D := (dC, dI)) (ci := 2) (v := .long (f_costOf nc mt mf wt av vl)) (ty := .long) (C := RX2) (T := TX2) (N := 12) hx hb hts (xcons inX2) tyX2 tyX2_ok nX2 hown hK hP (xD hinj [9, 10, 11, 12, 13, 14] rfl (by decide) (by decide)) hS 0 rfl rfl 2 (by decide) hw3 (fun _ h9 => h9) rfl (by decide +kernel) rfl rfl (Nat.le_of_ble_eq_true rfl) dX2_visitLeaf_42 (fun H locs hP _ hS => ?_)
      have hP : va_P (dC, dI) vwCl [(ad 9, .inr (2, [.int nd, .int (nI lc), .long (f_costOf nc mt mf wt av vl), .int bv, .ref (ad 10), .ref (ad 11), .ref (ad 12), .ref (ad 1), .ref (ad 5), .ref (ad 13), .ref (ad 14), .int (nI wc)])), (ad 10, .inl (cI, lz, .inl lh)), (ad 11, .inl (cI, lz, .inl lw)), (ad 12, .inl (cL, lz, .inr (.inl lb))), (ad 13, .inl (cI, 11, .inl wh)), (ad 14, .inl (cI, 11, .inl wv))] H := hP
      refine lv_aload_n hx hb dX2_visitLeaf_45 rfl (lv_at hl 1 rfl) ?_
      refine lv_iload_n hx hb dX2_visitLeaf_46 rfl (lv_at hl 2 rfl) ?_
      refine va_put (D := (dC, dI)) (ci := 2) (v := .int vl) (ty := .int) (C := RX2) (T := TX2) (N := 12) hx hb hts (xcons inX2) tyX2 tyX2_ok nX2 hown hK hP (xD hinj [9, 10, 11, 12, 13, 14] rfl (by decide) (by decide)) hS 0 rfl rfl 3 (by decide) hw4 (fun _ h9 => h9) rfl (by decide +kernel) rfl rfl (Nat.le_of_ble_eq_true rfl) dX2_visitLeaf_47 (fun H locs hP _ hS => ?_)
      have hP : va_P (dC, dI) vwCl [(ad 9, .inr (2, [.int nd, .int (nI lc), .long (f_costOf nc mt mf wt av vl), .int vl, .ref (ad 10), .ref (ad 11), .ref (ad 12), .ref (ad 1), .ref (ad 5), .ref (ad 13), .ref (ad 14), .int (nI wc)])), (ad 10, .inl (cI, lz, .inl lh)), (ad 11, .inl (cI, lz, .inl lw)), (ad 12, .inl (cL, lz, .inr (.inl lb))), (ad 13, .inl (cI, 11, .inl wh)), (ad 14, .inl (cI, 11, .inl wv))] H := hP
      exact W.vret hx hb hr (fun t ht hW => ⟨⟨((f_costOf nc mt mf wt av vl), vl), rfl, hF, xBi ht hP⟩, hS.F ht⟩) hS.2.2 dX2_visitLeaf_50
    · have hF := hF.trans (if_neg h2)
      refine lv_lload_n hx hb dX2_visitLeaf_31 rfl (lv_at hl 0 rfl) ?_
      refine lv_aload_n hx hb dX2_visitLeaf_32 rfl (lv_at hl 1 rfl) ?_
      refine va_get (D := (dC, dI)) (ci := 2) (v := .long bc) (C := RX2) (T := TX2) (N := 12) hx hb hts (xcons inX2) hown hK hP 0 rfl rfl 2 (by decide) hw3 (fun _ h9 => h9) rfl dX2_visitLeaf_33 ?_
      refine W.lcmp hx hb dX2_visitLeaf_36 ?_
      refine lv_if_ge (tgt := 50) hx hb dX2_visitLeaf_37 (by decide) (fun h3 => ?_) (fun h3 => ?_)
      · have hF := hF.trans (if_pos h3)
        exact W.vret hx hb hr (fun t ht hW => ⟨⟨(bc, bv), rfl, hF, xBi ht hP⟩, hS.F ht⟩) hS.2.2 dX2_visitLeaf_50
      · have hF := hF.trans (if_neg h3)
        refine lv_aload_n hx hb dX2_visitLeaf_40 rfl (lv_at hl 1 rfl) ?_
        refine lv_lload_n hx hb dX2_visitLeaf_41 rfl (lv_at hl 0 rfl) ?_
        refine va_put (D := (dC, dI)) (ci := 2) (v := .long (f_costOf nc mt mf wt av vl)) (ty := .long) (C := RX2) (T := TX2) (N := 12) hx hb hts (xcons inX2) tyX2 tyX2_ok nX2 hown hK hP (xD hinj [9, 10, 11, 12, 13, 14] rfl (by decide) (by decide)) hS 0 rfl rfl 2 (by decide) hw3 (fun _ h9 => h9) rfl (by decide +kernel) rfl rfl (Nat.le_of_ble_eq_true rfl) dX2_visitLeaf_42 (fun H locs hP _ hS => ?_)
        have hP : va_P (dC, dI) vwCl [(ad 9, .inr (2, [.int nd, .int (nI lc), .long (f_costOf nc mt mf wt av vl), .int bv, .ref (ad 10), .ref (ad 11), .ref (ad 12), .ref (ad 1), .ref (ad 5), .ref (ad 13), .ref (ad 14), .int (nI wc)])), (ad 10, .inl (cI, lz, .inl lh)), (ad 11, .inl (cI, lz, .inl lw)), (ad 12, .inl (cL, lz, .inr (.inl lb))), (ad 13, .inl (cI, 11, .inl wh)), (ad 14, .inl (cI, 11, .inl wv))] H := hP
        refine lv_aload_n hx hb dX2_visitLeaf_45 rfl (lv_at hl 1 rfl) ?_
        refine lv_iload_n hx hb dX2_visitLeaf_46 rfl (lv_at hl 2 rfl) ?_
        refine va_put (D := (dC, dI)) (ci := 2) (v := .int vl) (ty := .int) (C := RX2) (T := TX2) (N := 12) hx hb hts (xcons inX2) tyX2 tyX2_ok nX2 hown hK hP (xD hinj [9, 10, 11, 12, 13, 14] rfl (by decide) (by decide)) hS 0 rfl rfl 3 (by decide) hw4 (fun _ h9 => h9) rfl (by decide +kernel) rfl rfl (Nat.le_of_ble_eq_true rfl) dX2_visitLeaf_47 (fun H locs hP _ hS => ?_)
        have hP : va_P (dC, dI) vwCl [(ad 9, .inr (2, [.int nd, .int (nI lc), .long (f_costOf nc mt mf wt av vl), .int vl, .ref (ad 10), .ref (ad 11), .ref (ad 12), .ref (ad 1), .ref (ad 5), .ref (ad 13), .ref (ad 14), .int (nI wc)])), (ad 10, .inl (cI, lz, .inl lh)), (ad 11, .inl (cI, lz, .inl lw)), (ad 12, .inl (cL, lz, .inr (.inl lb))), (ad 13, .inl (cI, 11, .inl wh)), (ad 14, .inl (cI, 11, .inl wv))] H := hP
        exact W.vret hx hb hr (fun t ht hW => ⟨⟨((f_costOf nc mt mf wt av vl), vl), rfl, hF, xBi ht hP⟩, hS.F ht⟩) hS.2.2 dX2_visitLeaf_50
set_option maxHeartbeats 4000000 in
set_option maxRecDepth 100000 in
theorem c_branch (l : Launch) (dC : Nat → ClassId) (dI : Nat → Nat → Nat) (cI cL cZ : ClassId) (ad : Nat → Nat) (hinj : xI ad 15) (nv : Nat) (av : Int32) (nc : Nat) (mt mf wt : Nat → Int32) (lz : Nat) (nd : Int32) (lc : Nat) (bc : Int64) (bv : Int32) (lh lw : Nat → Int32) (lb : Nat → Int64) (wh wv : Nat → Int32) (wc : Nat) (hnc : nc ≤ 40) (hnv : nv ≤ 10) (hwc : wc ≤ 11) (hv vl : Int32) : Met l yX2_branch wsX2_branch ({ frames := 3, cells := 0, slots := 0, locals := 77 }) (va_Pc [.ref (ad 9), .int hv, .int vl] (fun U => va_P (dC, dI) vwCl [(ad 1, .inr (1, [.int (nI nv), .int av, .int (nI nc), .ref (ad 2), .ref (ad 3), .ref (ad 4)])), (ad 2, .inl (cI, 40, .inl mt)), (ad 3, .inl (cI, 40, .inl mf)), (ad 4, .inl (cI, 40, .inl wt)), (ad 9, .inr (2, [.int nd, .int (nI lc), .long bc, .int bv, .ref (ad 10), .ref (ad 11), .ref (ad 12), .ref (ad 1), .ref (ad 5), .ref (ad 13), .ref (ad 14), .int (nI wc)])), (ad 10, .inl (cI, lz, .inl lh)), (ad 11, .inl (cI, lz, .inl lw)), (ad 12, .inl (cL, lz, .inr (.inl lb))), (ad 13, .inl (cI, 11, .inl wh)), (ad 14, .inl (cI, 11, .inl wv))] U.heap ∧ va_K (dC, dI) vwCl [(cI, .int), (cL, .long), (cZ, .boolean)] U)) (va_Qv (fun u => f_branch nv nc mt mf wh wv wc hv vl = u) (xB (dC, dI) vwCl (fun (u : (Nat → Int32) × (Nat → Int32) × Nat) => match u with | (wh1, wv1, wc1) => [(ad 9, .inr (2, [.int nd, .int (nI lc), .long bc, .int bv, .ref (ad 10), .ref (ad 11), .ref (ad 12), .ref (ad 1), .ref (ad 5), .ref (ad 13), .ref (ad 14), .int (nI wc1)])), (ad 10, .inl (cI, lz, .inl lh)), (ad 11, .inl (cI, lz, .inl lw)), (ad 12, .inl (cL, lz, .inr (.inl lb))), (ad 13, .inl (cI, 11, .inl wh1)), (ad 14, .inl (cI, 11, .inl wv1))])) (xA ad [9, 10, 11, 12, 13, 14])) 0 0 (xA ad [9, 10, 11, 12, 13, 14]) := by
  refine Met.ofW (cc := cX2_branch) (maxL := 7) (ret := none) (by decide) rfl ?_
  intro p e s m args below meth c s₁ B hml hvv
  obtain ⟨rfl, hP0, hK⟩ := hvv
  have hx := B.exec
  have hb := B.bytes
  have hr := B.returns
  have hts := atoms_spec (ws := wsX2_branch) B.pre
  have hown : s.vm.findClass RX2 = some m.cls := findClass_of_methodNamed B.named
  have hlocks := B.notSynchronized
  have hw0 : (.fieldLink RX2 24 "WeightedClauses$Search" "formula" "LWeightedClauses$Formula;" : Cond).before _ s = true := hts _ (List.mem_cons_of_mem _ wd_148)
  have hPr : va_P (dC, dI) vwCl [(ad 1, .inr (1, [.int (nI nv), .int av, .int (nI nc), .ref (ad 2), .ref (ad 3), .ref (ad 4)])), (ad 2, .inl (cI, 40, .inl mt)), (ad 3, .inl (cI, 40, .inl mf)), (ad 4, .inl (cI, 40, .inl wt))] s.heap := hP0.sub [0, 1, 2, 3] rfl
  have hP : va_P (dC, dI) vwCl [(ad 9, .inr (2, [.int nd, .int (nI lc), .long bc, .int bv, .ref (ad 10), .ref (ad 11), .ref (ad 12), .ref (ad 1), .ref (ad 5), .ref (ad 13), .ref (ad 14), .int (nI wc)])), (ad 10, .inl (cI, lz, .inl lh)), (ad 11, .inl (cI, lz, .inl lw)), (ad 12, .inl (cL, lz, .inr (.inl lb))), (ad 13, .inl (cI, 11, .inl wh)), (ad 14, .inl (cI, 11, .inl wv))] s.heap := hP0.sub [4, 5, 6, 7, 8, 9] rfl
  have hS : va_S (xA ad [9, 10, 11, 12, 13, 14]) s.heap s.heap [] := va_S.rf
  have hl := lv_entry [.ref (ad 9), .int hv, .int vl] (n := 7) (Nat.le_of_ble_eq_true rfl)
  rw [lg_entry_eq]
  generalize (lg_sl [.ref (ad 9), .int hv, .int vl] ++ List.replicate (7 - (lg_sl [.ref (ad 9), .int hv, .int vl]).length) Slot.unset).toArray = ls at hl ⊢
  have hl : lv_has ls 7 [(0, .ref (ad 9)), (1, .int hv), (2, .int vl)] := hl
  have hF := Eq.refl (f_branch nv nc mt mf wh wv wc hv vl)
  conv at hF => rhs; unfold f_branch
  refine lv_aload_n hx hb dX2_branch_0 rfl (lv_at hl 0 rfl) ?_
  refine va_get (D := (dC, dI)) (ci := 2) (v := .ref (ad 1)) (C := RX2) (T := TX2) (N := 12) hx hb hts (xcons inX2) hown hK hP 0 rfl rfl 7 (by decide) hw0 (fun _ h9 => h9) rfl dX2_branch_1 ?_
  refine lv_iload_n hx hb dX2_branch_4 rfl (lv_at hl 1 rfl) ?_
  refine lv_iload_n hx hb dX2_branch_5 rfl (lv_at hl 2 rfl) ?_
  have hR := xP0 hPr (xnA hinj [1, 2, 3, 4] rfl (by decide)) hS
  refine xro_i (va_runV (As := [.int hv, .int vl]) (rest := []) ⟨hx, hb, hml, hown, hts⟩ (c_firstLiteral l dC dI cI cL cZ ad hinj nv av nc mt mf wt (by omega) (by omega) hv vl) (xcwV 2 hts wd_323 wd_35 wd_320 wd_321 wd_322 rfl rfl (by decide +kernel) ⟨Nat.le_of_ble_eq_true rfl, Nat.le_of_ble_eq_true rfl⟩) (xpreV (va_recv hK hR rfl (q0 := 0) rfl) hR hK) rfl rfl hl.1 rfl (lv_room (Nat.le_of_ble_eq_true rfl)) dX2_branch_6 ⟨Nat.le_of_ble_eq_true rfl, Nat.le_of_ble_eq_true rfl⟩) hS (fun H locs hk hS => ?_)
  have hP := xkeep hP hk
  refine lv_istore_n (lv' := [(3, .int (f_firstLiteral nv nc mt mf hv vl)), (0, .ref (ad 9)), (1, .int hv), (2, .int vl)]) hx hb dX2_branch_9 rfl hl (by decide) rfl (fun ls hl => ?_)
  refine lv_iload_n hx hb dX2_branch_10 rfl (lv_at hl 0 rfl) ?_
  refine lv_iconst (v := (-1)) hx hb dX2_branch_11 (by decide) ?_
  refine lv_icmp_ne (tgt := 16) hx hb dX2_branch_12 (by decide) (fun h1 => ?_) (fun h1 => ?_)
  · have hF := hF.trans (if_neg h1)
    refine lv_iconst (v := 1) hx hb dX2_branch_16 (by decide) ?_
    refine lv_iload_n hx hb dX2_branch_17 rfl (lv_at hl 0 rfl) ?_
    refine lv_iconst (v := 1) hx hb dX2_branch_18 (by decide) ?_
    refine lv_ishr hx hb dX2_branch_19 ?_
    refine lv_ishl hx hb dX2_branch_20 ?_
    refine lv_istore (lv' := [(4, .int ((1 : Int32) <<< (((f_firstLiteral nv nc mt mf hv vl) >>> (1 &&& 31)) &&& 31))), (3, .int (f_firstLiteral nv nc mt mf hv vl)), (0, .ref (ad 9)), (1, .int hv), (2, .int vl)]) hx hb dX2_branch_21 hl (by decide) rfl (fun ls hl => ?_)
    refine lv_iload_n hx hb dX2_branch_23 rfl (lv_at hl 4 rfl) ?_
    refine lv_iload hx hb dX2_branch_24 (lv_at hl 0 rfl) ?_
    refine lv_ior hx hb dX2_branch_26 ?_
    refine lv_istore (lv' := [(5, .int (vl ||| ((1 : Int32) <<< (((f_firstLiteral nv nc mt mf hv vl) >>> (1 &&& 31)) &&& 31)))), (4, .int ((1 : Int32) <<< (((f_firstLiteral nv nc mt mf hv vl) >>> (1 &&& 31)) &&& 31))), (3, .int (f_firstLiteral nv nc mt mf hv vl)), (0, .ref (ad 9)), (1, .int hv), (2, .int vl)]) hx hb dX2_branch_27 hl (by decide) rfl (fun ls hl => ?_)
    refine lv_iload_n hx hb dX2_branch_29 rfl (lv_at hl 2 rfl) ?_
    refine lv_iconst (v := 1) hx hb dX2_branch_30 (by decide) ?_
    refine lv_iand hx hb dX2_branch_31 ?_
    refine lv_if_ne (tgt := 39) hx hb dX2_branch_32 (by decide) (fun h2 => ?_) (fun h2 => ?_)
    · have hF := hF.trans (if_neg h2)
      refine lv_iconst (v := 0) hx hb dX2_branch_39 (by decide) ?_
      refine lv_istore (lv' := [(6, .int 0), (5, .int (vl ||| ((1 : Int32) <<< (((f_firstLiteral nv nc mt mf hv vl) >>> (1 &&& 31)) &&& 31)))), (4, .int ((1 : Int32) <<< (((f_firstLiteral nv nc mt mf hv vl) >>> (1 &&& 31)) &&& 31))), (3, .int (f_firstLiteral nv nc mt mf hv vl)), (0, .ref (ad 9)), (1, .int hv), (2, .int vl)]) hx hb dX2_branch_40 hl (by decide) rfl (fun ls hl => ?_)
      refine lv_aload_n hx hb dX2_branch_42 rfl (lv_at hl 4 rfl) ?_
      refine lv_iload_n hx hb dX2_branch_43 rfl (lv_at hl 5 rfl) ?_
      refine lv_iload hx hb dX2_branch_44 (lv_at hl 2 rfl) ?_
      refine lv_ior hx hb dX2_branch_46 ?_
      refine lv_iload hx hb dX2_branch_47 (lv_at hl 0 rfl) ?_
      refine lv_if_eq (tgt := 56) hx hb dX2_branch_49 (by decide) (fun h3 => ?_) (fun h3 => absurd (by decide) h3)
      refine lv_iload hx hb dX2_branch_56 (lv_at hl 1 rfl) ?_
      have hR := xP0 hPr (xnA hinj [1, 2, 3, 4] rfl (by decide)) hS
      refine xrw_v (va_runV (As := [.int (hv ||| ((1 : Int32) <<< (((f_firstLiteral nv nc mt mf hv vl) >>> (1 &&& 31)) &&& 31))), .int (vl ||| ((1 : Int32) <<< (((f_firstLiteral nv nc mt mf hv vl) >>> (1 &&& 31)) &&& 31)))]) (rest := []) ⟨hx, hb, hml, hown, hts⟩ (c_putWaiting l dC dI cI cL cZ ad hinj lz nd lc bc bv lh lw lb wh wv wc (by omega) (hv ||| ((1 : Int32) <<< (((f_firstLiteral nv nc mt mf hv vl) >>> (1 &&& 31)) &&& 31))) (vl ||| ((1 : Int32) <<< (((f_firstLiteral nv nc mt mf hv vl) >>> (1 &&& 31)) &&& 31)))) (xcwV 2 hts wd_221 wd_38 wd_218 wd_220 wd_0 rfl rfl (by decide +kernel) ⟨Nat.le_of_ble_eq_true rfl, Nat.le_of_ble_eq_true rfl⟩) (xpreV (va_recv hK hP rfl (q0 := 0) rfl) hP hK) rfl rfl hl.1 rfl (lv_room (Nat.le_of_ble_eq_true rfl)) dX2_branch_58 ⟨Nat.le_of_ble_eq_true rfl, Nat.le_of_ble_eq_true rfl⟩) hS (xAsub (by decide)) (fun u H locs h4 hB hk hS => ?_)
      obtain ⟨wh1_58, wv1_58, wc1_58⟩ := u
      have hP : va_P (dC, dI) vwCl [(ad 9, .inr (2, [.int nd, .int (nI lc), .long bc, .int bv, .ref (ad 10), .ref (ad 11), .ref (ad 12), .ref (ad 1), .ref (ad 5), .ref (ad 13), .ref (ad 14), .int (nI wc1_58)])), (ad 10, .inl (cI, lz, .inl lh)), (ad 11, .inl (cI, lz, .inl lw)), (ad 12, .inl (cL, lz, .inr (.inl lb))), (ad 13, .inl (cI, 11, .inl wh1_58)), (ad 14, .inl (cI, 11, .inl wv1_58))] H := va_P.sub hB [0, 1, 2, 3, 4, 5] rfl
      rw [h4] at hF
      dsimp only at hF
      have hwc1 := putWaiting_ok h4 hwc
      refine lv_aload_n hx hb dX2_branch_61 rfl (lv_at hl 4 rfl) ?_
      refine lv_iload_n hx hb dX2_branch_62 rfl (lv_at hl 5 rfl) ?_
      refine lv_iload hx hb dX2_branch_63 (lv_at hl 2 rfl) ?_
      refine lv_ior hx hb dX2_branch_65 ?_
      refine lv_iload hx hb dX2_branch_66 (lv_at hl 0 rfl) ?_
      refine lv_if_eq (tgt := 76) hx hb dX2_branch_68 (by decide) (fun h5 => ?_) (fun h5 => absurd (by decide) h5)
      refine lv_iload_n hx hb dX2_branch_76 rfl (lv_at hl 6 rfl) ?_
      have hR := xP0 hPr (xnA hinj [1, 2, 3, 4] rfl (by decide)) hS
      refine xrw_v (va_runV (As := [.int (hv ||| ((1 : Int32) <<< (((f_firstLiteral nv nc mt mf hv vl) >>> (1 &&& 31)) &&& 31))), .int vl]) (rest := []) ⟨hx, hb, hml, hown, hts⟩ (c_putWaiting l dC dI cI cL cZ ad hinj lz nd lc bc bv lh lw lb wh1_58 wv1_58 wc1_58 hwc1 (hv ||| ((1 : Int32) <<< (((f_firstLiteral nv nc mt mf hv vl) >>> (1 &&& 31)) &&& 31))) vl) (xcwV 2 hts wd_221 wd_38 wd_218 wd_220 wd_0 rfl rfl (by decide +kernel) ⟨Nat.le_of_ble_eq_true rfl, Nat.le_of_ble_eq_true rfl⟩) (xpreV (va_recv hK hP rfl (q0 := 0) rfl) hP hK) rfl rfl hl.1 rfl (lv_room (Nat.le_of_ble_eq_true rfl)) dX2_branch_77 ⟨Nat.le_of_ble_eq_true rfl, Nat.le_of_ble_eq_true rfl⟩) hS (xAsub (by decide)) (fun u H locs h6 hB hk hS => ?_)
      obtain ⟨wh1_77, wv1_77, wc1_77⟩ := u
      have hP : va_P (dC, dI) vwCl [(ad 9, .inr (2, [.int nd, .int (nI lc), .long bc, .int bv, .ref (ad 10), .ref (ad 11), .ref (ad 12), .ref (ad 1), .ref (ad 5), .ref (ad 13), .ref (ad 14), .int (nI wc1_77)])), (ad 10, .inl (cI, lz, .inl lh)), (ad 11, .inl (cI, lz, .inl lw)), (ad 12, .inl (cL, lz, .inr (.inl lb))), (ad 13, .inl (cI, 11, .inl wh1_77)), (ad 14, .inl (cI, 11, .inl wv1_77))] H := va_P.sub hB [0, 1, 2, 3, 4, 5] rfl
      rw [h6] at hF
      dsimp only at hF
      exact W.vret hx hb hr (fun t ht hW => ⟨⟨(wh1_77, wv1_77, wc1_77), rfl, hF, xBi ht hP⟩, hS.F ht⟩) hS.2.2 dX2_branch_80
    · have hF := hF.trans (if_pos h2)
      refine lv_iconst (v := 1) hx hb dX2_branch_35 (by decide) ?_
      refine lv_goto (tgt := 40) hx hb dX2_branch_36 (by decide) ?_
      refine lv_istore (lv' := [(6, .int 1), (5, .int (vl ||| ((1 : Int32) <<< (((f_firstLiteral nv nc mt mf hv vl) >>> (1 &&& 31)) &&& 31)))), (4, .int ((1 : Int32) <<< (((f_firstLiteral nv nc mt mf hv vl) >>> (1 &&& 31)) &&& 31))), (3, .int (f_firstLiteral nv nc mt mf hv vl)), (0, .ref (ad 9)), (1, .int hv), (2, .int vl)]) hx hb dX2_branch_40 hl (by decide) rfl (fun ls hl => ?_)
      refine lv_aload_n hx hb dX2_branch_42 rfl (lv_at hl 4 rfl) ?_
      refine lv_iload_n hx hb dX2_branch_43 rfl (lv_at hl 5 rfl) ?_
      refine lv_iload hx hb dX2_branch_44 (lv_at hl 2 rfl) ?_
      refine lv_ior hx hb dX2_branch_46 ?_
      refine lv_iload hx hb dX2_branch_47 (lv_at hl 0 rfl) ?_
      refine lv_if_eq (tgt := 56) hx hb dX2_branch_49 (by decide) (fun h7 => absurd h7 (by decide)) (fun h7 => ?_)
      refine lv_iload_n hx hb dX2_branch_52 rfl (lv_at hl 6 rfl) ?_
      refine lv_goto (tgt := 58) hx hb dX2_branch_53 (by decide) ?_
      have hR := xP0 hPr (xnA hinj [1, 2, 3, 4] rfl (by decide)) hS
      refine xrw_v (va_runV (As := [.int (hv ||| ((1 : Int32) <<< (((f_firstLiteral nv nc mt mf hv vl) >>> (1 &&& 31)) &&& 31))), .int vl]) (rest := []) ⟨hx, hb, hml, hown, hts⟩ (c_putWaiting l dC dI cI cL cZ ad hinj lz nd lc bc bv lh lw lb wh wv wc (by omega) (hv ||| ((1 : Int32) <<< (((f_firstLiteral nv nc mt mf hv vl) >>> (1 &&& 31)) &&& 31))) vl) (xcwV 2 hts wd_221 wd_38 wd_218 wd_220 wd_0 rfl rfl (by decide +kernel) ⟨Nat.le_of_ble_eq_true rfl, Nat.le_of_ble_eq_true rfl⟩) (xpreV (va_recv hK hP rfl (q0 := 0) rfl) hP hK) rfl rfl hl.1 rfl (lv_room (Nat.le_of_ble_eq_true rfl)) dX2_branch_58 ⟨Nat.le_of_ble_eq_true rfl, Nat.le_of_ble_eq_true rfl⟩) hS (xAsub (by decide)) (fun u H locs h8 hB hk hS => ?_)
      obtain ⟨wh1_58, wv1_58, wc1_58⟩ := u
      have hP : va_P (dC, dI) vwCl [(ad 9, .inr (2, [.int nd, .int (nI lc), .long bc, .int bv, .ref (ad 10), .ref (ad 11), .ref (ad 12), .ref (ad 1), .ref (ad 5), .ref (ad 13), .ref (ad 14), .int (nI wc1_58)])), (ad 10, .inl (cI, lz, .inl lh)), (ad 11, .inl (cI, lz, .inl lw)), (ad 12, .inl (cL, lz, .inr (.inl lb))), (ad 13, .inl (cI, 11, .inl wh1_58)), (ad 14, .inl (cI, 11, .inl wv1_58))] H := va_P.sub hB [0, 1, 2, 3, 4, 5] rfl
      rw [h8] at hF
      dsimp only at hF
      have hwc1 := putWaiting_ok h8 hwc
      refine lv_aload_n hx hb dX2_branch_61 rfl (lv_at hl 4 rfl) ?_
      refine lv_iload_n hx hb dX2_branch_62 rfl (lv_at hl 5 rfl) ?_
      refine lv_iload hx hb dX2_branch_63 (lv_at hl 2 rfl) ?_
      refine lv_ior hx hb dX2_branch_65 ?_
      refine lv_iload hx hb dX2_branch_66 (lv_at hl 0 rfl) ?_
      refine lv_if_eq (tgt := 76) hx hb dX2_branch_68 (by decide) (fun h9 => absurd h9 (by decide)) (fun h9 => ?_)
      refine lv_iload hx hb dX2_branch_71 (lv_at hl 1 rfl) ?_
      refine lv_goto (tgt := 77) hx hb dX2_branch_73 (by decide) ?_
      have hR := xP0 hPr (xnA hinj [1, 2, 3, 4] rfl (by decide)) hS
      refine xrw_v (va_runV (As := [.int (hv ||| ((1 : Int32) <<< (((f_firstLiteral nv nc mt mf hv vl) >>> (1 &&& 31)) &&& 31))), .int (vl ||| ((1 : Int32) <<< (((f_firstLiteral nv nc mt mf hv vl) >>> (1 &&& 31)) &&& 31)))]) (rest := []) ⟨hx, hb, hml, hown, hts⟩ (c_putWaiting l dC dI cI cL cZ ad hinj lz nd lc bc bv lh lw lb wh1_58 wv1_58 wc1_58 hwc1 (hv ||| ((1 : Int32) <<< (((f_firstLiteral nv nc mt mf hv vl) >>> (1 &&& 31)) &&& 31))) (vl ||| ((1 : Int32) <<< (((f_firstLiteral nv nc mt mf hv vl) >>> (1 &&& 31)) &&& 31)))) (xcwV 2 hts wd_221 wd_38 wd_218 wd_220 wd_0 rfl rfl (by decide +kernel) ⟨Nat.le_of_ble_eq_true rfl, Nat.le_of_ble_eq_true rfl⟩) (xpreV (va_recv hK hP rfl (q0 := 0) rfl) hP hK) rfl rfl hl.1 rfl (lv_room (Nat.le_of_ble_eq_true rfl)) dX2_branch_77 ⟨Nat.le_of_ble_eq_true rfl, Nat.le_of_ble_eq_true rfl⟩) hS (xAsub (by decide)) (fun u H locs h10 hB hk hS => ?_)
      obtain ⟨wh1_77, wv1_77, wc1_77⟩ := u
      have hP : va_P (dC, dI) vwCl [(ad 9, .inr (2, [.int nd, .int (nI lc), .long bc, .int bv, .ref (ad 10), .ref (ad 11), .ref (ad 12), .ref (ad 1), .ref (ad 5), .ref (ad 13), .ref (ad 14), .int (nI wc1_77)])), (ad 10, .inl (cI, lz, .inl lh)), (ad 11, .inl (cI, lz, .inl lw)), (ad 12, .inl (cL, lz, .inr (.inl lb))), (ad 13, .inl (cI, 11, .inl wh1_77)), (ad 14, .inl (cI, 11, .inl wv1_77))] H := va_P.sub hB [0, 1, 2, 3, 4, 5] rfl
      rw [h10] at hF
      dsimp only at hF
      exact W.vret hx hb hr (fun t ht hW => ⟨⟨(wh1_77, wv1_77, wc1_77), rfl, hF, xBi ht hP⟩, hS.F ht⟩) hS.2.2 dX2_branch_80
  · have hF := hF.trans (if_pos h1)
    exact W.vret hx hb hr (fun t ht hW => ⟨⟨(wh, wv, wc), rfl, hF, xBi ht hP⟩, hS.F ht⟩) hS.2.2 dX2_branch_15
end
section
theorem branch_ok {nv nc : Nat} {mt mf wh wv : Nat → Int32} {wc : Nat} {hv vl : Int32} {wh1 wv1 : Nat → Int32} {wc1 : Nat} (h : f_branch nv nc mt mf wh wv wc hv vl = (wh1, wv1, wc1)) (hwc : wc ≤ 11) : wc1 ≤ 11 := by
  unfold f_branch at h
  split at h
  · simp only [Prod.mk.injEq] at h
    omega
  · split at h <;>
    · split at h
      rename_i hb
      split at h
      rename_i hb2
      have h1 := putWaiting_ok hb hwc
      have h2 := putWaiting_ok hb2 h1
      simp only [Prod.mk.injEq] at h
      omega
end
section
def f_visit (nv : Nat) (av : Int32) (nc : Nat) (mt mf wt : Nat → Int32) (lz : Nat) (ss : (Nat → Int64)) (sc : Nat) (avl : Int64) (gh : Int32) (gv : Int32) (sv : (Nat → Int32)) (sr : (Nat → Nat)) (st : Nat) (nd : Int32) (lc : Nat) (bc : Int64) (bv : Int32) (lh : (Nat → Int32)) (lw : (Nat → Int32)) (lb : (Nat → Int64)) (wh : (Nat → Int32)) (wv : (Nat → Int32)) (wc : Nat) (hv vl : Int32) : (Nat → Int64) × Nat × Int64 × Int32 × Int32 × (Nat → Int32) × (Nat → Nat) × Nat × Int32 × Nat × Int64 × Int32 × (Nat → Int32) × (Nat → Int32) × (Nat → Int64) × (Nat → Int32) × (Nat → Int32) × Nat :=
  if hv = av then
    match (f_visitLeaf av nc mt mf wt bc bv vl) with
    | (bc1_23, bv1_23) =>
      (ss, sc, avl, gh, gv, sv, sr, st, (nd + 1), lc, bc1_23, bv1_23, lh, lw, lb, wh, wv, wc)
  else
    match (f_boundOf nc mt mf wt ss sc avl gh gv sv sr st hv vl) with
    | (r_36, ss1_36, sc1_36, avl1_36, gh1_36, gv1_36, sv1_36, sr1_36, st1_36) =>
      if (f_isGivenUp bc r_36) = 0 then
        match (f_branch nv nc mt mf wh wv wc hv vl) with
        | (wh1_57, wv1_57, wc1_57) =>
          (ss1_36, sc1_36, avl1_36, gh1_36, gv1_36, sv1_36, sr1_36, st1_36, (nd + 1), lc, bc, bv, lh, lw, lb, wh1_57, wv1_57, wc1_57)
      else
        match (f_putIntoLog lz lc bc lh lw lb hv vl) with
        | (lc1_48, lh1_48, lw1_48, lb1_48) =>
          (ss1_36, sc1_36, avl1_36, gh1_36, gv1_36, sv1_36, sr1_36, st1_36, (nd + 1), lc1_48, bc, bv, lh1_48, lw1_48, lb1_48, wh, wv, wc)
set_option maxHeartbeats 4000000 in
set_option maxRecDepth 100000 in
theorem c_visit (l : Launch) (dC : Nat → ClassId) (dI : Nat → Nat → Nat) (cI cL cZ : ClassId) (ad : Nat → Nat) (hinj : xI ad 15) (nv : Nat) (av : Int32) (nc : Nat) (mt mf wt : Nat → Int32) (ss : Nat → Int64) (sc : Nat) (avl : Int64) (gh gv : Int32) (sv : Nat → Int32) (sr : Nat → Nat) (st : Nat) (lz : Nat) (nd : Int32) (lc : Nat) (bc : Int64) (bv : Int32) (lh lw : Nat → Int32) (lb : Nat → Int64) (wh wv : Nat → Int32) (wc : Nat) (hnc : nc ≤ 40) (hnv : nv ≤ 10) (hlz : lz ≤ 512) (hlc : lc ≤ lz) (hwc : wc ≤ 11) (hv vl : Int32) : Met l yX2_visit wsX2_visit ({ frames := 4, cells := 0, slots := 0, locals := 103 }) (va_Pc [.ref (ad 9), .int hv, .int vl] (fun U => va_P (dC, dI) vwCl [(ad 1, .inr (1, [.int (nI nv), .int av, .int (nI nc), .ref (ad 2), .ref (ad 3), .ref (ad 4)])), (ad 2, .inl (cI, 40, .inl mt)), (ad 3, .inl (cI, 40, .inl mf)), (ad 4, .inl (cI, 40, .inl wt)), (ad 5, .inr (0, [.ref (ad 1), .ref (ad 6), .int (nI sc), .long avl, .int gh, .int gv, .ref (ad 7), .ref (ad 8), .int (nI st)])), (ad 6, .inl (cL, 40, .inr (.inl ss))), (ad 7, .inl (cI, 10, .inl sv)), (ad 8, .inl (cI, 10, .inl (xnI sr))), (ad 9, .inr (2, [.int nd, .int (nI lc), .long bc, .int bv, .ref (ad 10), .ref (ad 11), .ref (ad 12), .ref (ad 1), .ref (ad 5), .ref (ad 13), .ref (ad 14), .int (nI wc)])), (ad 10, .inl (cI, lz, .inl lh)), (ad 11, .inl (cI, lz, .inl lw)), (ad 12, .inl (cL, lz, .inr (.inl lb))), (ad 13, .inl (cI, 11, .inl wh)), (ad 14, .inl (cI, 11, .inl wv))] U.heap ∧ va_K (dC, dI) vwCl [(cI, .int), (cL, .long), (cZ, .boolean)] U)) (va_Qv (fun u => f_visit nv av nc mt mf wt lz ss sc avl gh gv sv sr st nd lc bc bv lh lw lb wh wv wc hv vl = u) (xB (dC, dI) vwCl (fun (u : (Nat → Int64) × Nat × Int64 × Int32 × Int32 × (Nat → Int32) × (Nat → Nat) × Nat × Int32 × Nat × Int64 × Int32 × (Nat → Int32) × (Nat → Int32) × (Nat → Int64) × (Nat → Int32) × (Nat → Int32) × Nat) => match u with | (ss1, sc1, avl1, gh1, gv1, sv1, sr1, st1, nd1, lc1, bc1, bv1, lh1, lw1, lb1, wh1, wv1, wc1) => [(ad 5, .inr (0, [.ref (ad 1), .ref (ad 6), .int (nI sc1), .long avl1, .int gh1, .int gv1, .ref (ad 7), .ref (ad 8), .int (nI st1)])), (ad 6, .inl (cL, 40, .inr (.inl ss1))), (ad 7, .inl (cI, 10, .inl sv1)), (ad 8, .inl (cI, 10, .inl (xnI sr1))), (ad 9, .inr (2, [.int nd1, .int (nI lc1), .long bc1, .int bv1, .ref (ad 10), .ref (ad 11), .ref (ad 12), .ref (ad 1), .ref (ad 5), .ref (ad 13), .ref (ad 14), .int (nI wc1)])), (ad 10, .inl (cI, lz, .inl lh1)), (ad 11, .inl (cI, lz, .inl lw1)), (ad 12, .inl (cL, lz, .inr (.inl lb1))), (ad 13, .inl (cI, 11, .inl wh1)), (ad 14, .inl (cI, 11, .inl wv1))])) (xA ad [5, 6, 7, 8, 9, 10, 11, 12, 13, 14])) 0 0 (xA ad [5, 6, 7, 8, 9, 10, 11, 12, 13, 14]) := by
  refine Met.ofW (cc := cX2_visit) (maxL := 3) (ret := none) (by decide) rfl ?_
  intro p e s m args below meth c s₁ B hml hvv
  obtain ⟨rfl, hP0, hK⟩ := hvv
  have hx := B.exec
  have hb := B.bytes
  have hr := B.returns
  have hts := atoms_spec (ws := wsX2_visit) B.pre
  have hown : s.vm.findClass RX2 = some m.cls := findClass_of_methodNamed B.named
  have hlocks := B.notSynchronized
  have hw0 : (.fieldLink RX2 48 "WeightedClauses$Search" "nodeCount" "I" : Cond).before _ s = true := hts _ (List.mem_cons_of_mem _ wd_134)
  have hw1 : (.fieldLink RX2 24 "WeightedClauses$Search" "formula" "LWeightedClauses$Formula;" : Cond).before _ s = true := hts _ (List.mem_cons_of_mem _ wd_148)
  have hw2 : (.fieldLink RX2 70 "WeightedClauses$Formula" "allVariables" "I" : Cond).before _ s = true := hts _ (List.mem_cons_of_mem _ wd_70)
  have hw3 : (.fieldLink RX2 28 "WeightedClauses$Search" "bounds" "LWeightedClauses$Bounds;" : Cond).before _ s = true := hts _ (List.mem_cons_of_mem _ wd_149)
  have hPr : va_P (dC, dI) vwCl [(ad 1, .inr (1, [.int (nI nv), .int av, .int (nI nc), .ref (ad 2), .ref (ad 3), .ref (ad 4)])), (ad 2, .inl (cI, 40, .inl mt)), (ad 3, .inl (cI, 40, .inl mf)), (ad 4, .inl (cI, 40, .inl wt))] s.heap := hP0.sub [0, 1, 2, 3] rfl
  have hP : va_P (dC, dI) vwCl [(ad 5, .inr (0, [.ref (ad 1), .ref (ad 6), .int (nI sc), .long avl, .int gh, .int gv, .ref (ad 7), .ref (ad 8), .int (nI st)])), (ad 6, .inl (cL, 40, .inr (.inl ss))), (ad 7, .inl (cI, 10, .inl sv)), (ad 8, .inl (cI, 10, .inl (xnI sr))), (ad 9, .inr (2, [.int nd, .int (nI lc), .long bc, .int bv, .ref (ad 10), .ref (ad 11), .ref (ad 12), .ref (ad 1), .ref (ad 5), .ref (ad 13), .ref (ad 14), .int (nI wc)])), (ad 10, .inl (cI, lz, .inl lh)), (ad 11, .inl (cI, lz, .inl lw)), (ad 12, .inl (cL, lz, .inr (.inl lb))), (ad 13, .inl (cI, 11, .inl wh)), (ad 14, .inl (cI, 11, .inl wv))] s.heap := hP0.sub [4, 5, 6, 7, 8, 9, 10, 11, 12, 13] rfl
  have hS : va_S (xA ad [5, 6, 7, 8, 9, 10, 11, 12, 13, 14]) s.heap s.heap [] := va_S.rf
  have hl := lv_entry [.ref (ad 9), .int hv, .int vl] (n := 3) (Nat.le_of_ble_eq_true rfl)
  rw [lg_entry_eq]
  generalize (lg_sl [.ref (ad 9), .int hv, .int vl] ++ List.replicate (3 - (lg_sl [.ref (ad 9), .int hv, .int vl]).length) Slot.unset).toArray = ls at hl ⊢
  have hl : lv_has ls 3 [(0, .ref (ad 9)), (1, .int hv), (2, .int vl)] := hl
  have hF := Eq.refl (f_visit nv av nc mt mf wt lz ss sc avl gh gv sv sr st nd lc bc bv lh lw lb wh wv wc hv vl)
  conv at hF => rhs; unfold f_visit
  refine lv_aload_n hx hb dX2_visit_0 rfl (lv_at hl 0 rfl) ?_
  refine lv_dup hx hb dX2_visit_1 rfl ?_
  refine va_get (D := (dC, dI)) (ci := 2) (v := .int nd) (C := RX2) (T := TX2) (N := 12) hx hb hts (xcons inX2) hown hK hP 4 rfl rfl 0 (by decide) hw0 (fun _ h9 => h9) rfl dX2_visit_2 ?_
  refine lv_iconst (v := 1) hx hb dX2_visit_5 (by decide) ?_
  refine lv_iadd hx hb dX2_visit_6 ?_
  refine va_put (D := (dC, dI)) (ci := 2) (v := .int (nd + 1)) (ty := .int) (C := RX2) (T := TX2) (N := 12) hx hb hts (xcons inX2) tyX2 tyX2_ok nX2 hown hK hP (xD hinj [5, 6, 7, 8, 9, 10, 11, 12, 13, 14] rfl (by decide) (by decide)) hS 4 rfl rfl 0 (by decide) hw0 (fun _ h9 => h9) rfl (by decide +kernel) rfl rfl (Nat.le_of_ble_eq_true rfl) dX2_visit_7 (fun H locs hP _ hS => ?_)
  have hP : va_P (dC, dI) vwCl [(ad 5, .inr (0, [.ref (ad 1), .ref (ad 6), .int (nI sc), .long avl, .int gh, .int gv, .ref (ad 7), .ref (ad 8), .int (nI st)])), (ad 6, .inl (cL, 40, .inr (.inl ss))), (ad 7, .inl (cI, 10, .inl sv)), (ad 8, .inl (cI, 10, .inl (xnI sr))), (ad 9, .inr (2, [.int (nd + 1), .int (nI lc), .long bc, .int bv, .ref (ad 10), .ref (ad 11), .ref (ad 12), .ref (ad 1), .ref (ad 5), .ref (ad 13), .ref (ad 14), .int (nI wc)])), (ad 10, .inl (cI, lz, .inl lh)), (ad 11, .inl (cI, lz, .inl lw)), (ad 12, .inl (cL, lz, .inr (.inl lb))), (ad 13, .inl (cI, 11, .inl wh)), (ad 14, .inl (cI, 11, .inl wv))] H := hP
  refine lv_iload_n hx hb dX2_visit_10 rfl (lv_at hl 1 rfl) ?_
  refine lv_aload_n hx hb dX2_visit_11 rfl (lv_at hl 0 rfl) ?_
  refine va_get (D := (dC, dI)) (ci := 2) (v := .ref (ad 1)) (C := RX2) (T := TX2) (N := 12) hx hb hts (xcons inX2) hown hK hP 4 rfl rfl 7 (by decide) hw1 (fun _ h9 => h9) rfl dX2_visit_12 ?_
  have hR := xP0 hPr (xnA hinj [1, 2, 3, 4] rfl (by decide)) hS
  refine va_get (D := (dC, dI)) (ci := 1) (v := .int av) (C := RX1) (T := TX1) (N := 6) hx hb hts (xcons inX1) hown hK hR 0 rfl rfl 1 (by decide) hw2 (fun _ h9 => h9) rfl dX2_visit_15 ?_
  refine lv_icmp_ne (tgt := 29) hx hb dX2_visit_18 (by decide) (fun h1 => ?_) (fun h1 => ?_)
  · have hF := hF.trans (if_neg h1)
    refine lv_aload_n hx hb dX2_visit_29 rfl (lv_at hl 0 rfl) ?_
    refine lv_aload_n hx hb dX2_visit_30 rfl (lv_at hl 0 rfl) ?_
    refine va_get (D := (dC, dI)) (ci := 2) (v := .ref (ad 5)) (C := RX2) (T := TX2) (N := 12) hx hb hts (xcons inX2) hown hK hP 4 rfl rfl 8 (by decide) hw3 (fun _ h9 => h9) rfl dX2_visit_31 ?_
    refine lv_iload_n hx hb dX2_visit_34 rfl (lv_at hl 1 rfl) ?_
    refine lv_iload_n hx hb dX2_visit_35 rfl (lv_at hl 2 rfl) ?_
    refine xrw_l (va_runV (As := [.int hv, .int vl]) (rest := [.ref (ad 9)]) ⟨hx, hb, hml, hown, hts⟩ (c_boundOf l dC dI cI cL cZ ad hinj nv av nc mt mf wt ss sc avl gh gv sv sr st (by omega) hv vl) (xcwV 2 hts wd_247 wd_37 wd_244 wd_245 wd_246 rfl rfl (by decide +kernel) ⟨Nat.le_of_ble_eq_true rfl, Nat.le_of_ble_eq_true rfl⟩) (xpreV (va_recv hK hP rfl (q0 := 0) rfl) ((hR.app hP).sub [0, 1, 2, 3, 4, 5, 6, 7] rfl) hK) rfl rfl hl.1 rfl (lv_room (Nat.le_of_ble_eq_true rfl)) dX2_visit_36 ⟨Nat.le_of_ble_eq_true rfl, Nat.le_of_ble_eq_true rfl⟩) hS (xAsub (by decide)) (fun r_36 u H locs h2 hB hk hS => ?_)
    obtain ⟨ss1_36, sc1_36, avl1_36, gh1_36, gv1_36, sv1_36, sr1_36, st1_36⟩ := u
    have hP : va_P (dC, dI) vwCl [(ad 5, .inr (0, [.ref (ad 1), .ref (ad 6), .int (nI sc1_36), .long avl1_36, .int gh1_36, .int gv1_36, .ref (ad 7), .ref (ad 8), .int (nI st1_36)])), (ad 6, .inl (cL, 40, .inr (.inl ss1_36))), (ad 7, .inl (cI, 10, .inl sv1_36)), (ad 8, .inl (cI, 10, .inl (xnI sr1_36))), (ad 9, .inr (2, [.int (nd + 1), .int (nI lc), .long bc, .int bv, .ref (ad 10), .ref (ad 11), .ref (ad 12), .ref (ad 1), .ref (ad 5), .ref (ad 13), .ref (ad 14), .int (nI wc)])), (ad 10, .inl (cI, lz, .inl lh)), (ad 11, .inl (cI, lz, .inl lw)), (ad 12, .inl (cL, lz, .inr (.inl lb))), (ad 13, .inl (cI, 11, .inl wh)), (ad 14, .inl (cI, 11, .inl wv))] H := ((xkeepA hP hk [4, 5, 6, 7, 8, 9] rfl (xnA hinj [9, 10, 11, 12, 13, 14] rfl (by decide))).app hB).sub [6, 7, 8, 9, 0, 1, 2, 3, 4, 5] rfl
    rw [h2] at hF
    dsimp only at hF
    have hR := xP0 hPr (xnA hinj [1, 2, 3, 4] rfl (by decide)) hS
    refine xro_i (va_runV (As := [.long r_36]) (rest := []) ⟨hx, hb, hml, hown, hts⟩ (c_isGivenUp l dC dI cI cL cZ ad hinj lz (nd + 1) lc bc bv lh lw lb wh wv wc r_36) (xcwV 1 hts wd_311 wd_38 wd_308 wd_310 wd_9 rfl rfl (by decide +kernel) ⟨Nat.le_of_ble_eq_true rfl, Nat.le_of_ble_eq_true rfl⟩) (xpreV (va_recv hK hP rfl (q0 := 4) rfl) (hP.sub [4, 5, 6, 7, 8, 9] rfl) hK) rfl rfl hl.1 rfl (lv_room (Nat.le_of_ble_eq_true rfl)) dX2_visit_39 ⟨Nat.le_of_ble_eq_true rfl, Nat.le_of_ble_eq_true rfl⟩) hS (fun H locs hk hS => ?_)
    have hP := xkeep hP hk
    refine lv_if_eq (tgt := 54) hx hb dX2_visit_42 (by decide) (fun h3 => ?_) (fun h3 => ?_)
    · have hF := hF.trans (if_pos h3)
      refine lv_aload_n hx hb dX2_visit_54 rfl (lv_at hl 0 rfl) ?_
      refine lv_iload_n hx hb dX2_visit_55 rfl (lv_at hl 1 rfl) ?_
      refine lv_iload_n hx hb dX2_visit_56 rfl (lv_at hl 2 rfl) ?_
      have hR := xP0 hPr (xnA hinj [1, 2, 3, 4] rfl (by decide)) hS
      refine xrw_v (va_runV (As := [.int hv, .int vl]) (rest := []) ⟨hx, hb, hml, hown, hts⟩ (c_branch l dC dI cI cL cZ ad hinj nv av nc mt mf wt lz (nd + 1) lc bc bv lh lw lb wh wv wc (by omega) (by omega) (by omega) hv vl) (xcwV 2 hts wd_319 wd_38 wd_316 wd_318 wd_11 rfl rfl (by decide +kernel) ⟨Nat.le_of_ble_eq_true rfl, Nat.le_of_ble_eq_true rfl⟩) (xpreV (va_recv hK hP rfl (q0 := 4) rfl) ((hR.app hP).sub [0, 1, 2, 3, 8, 9, 10, 11, 12, 13] rfl) hK) rfl rfl hl.1 rfl (lv_room (Nat.le_of_ble_eq_true rfl)) dX2_visit_57 ⟨Nat.le_of_ble_eq_true rfl, Nat.le_of_ble_eq_true rfl⟩) hS (xAsub (by decide)) (fun u H locs h4 hB hk hS => ?_)
      obtain ⟨wh1_57, wv1_57, wc1_57⟩ := u
      have hP : va_P (dC, dI) vwCl [(ad 5, .inr (0, [.ref (ad 1), .ref (ad 6), .int (nI sc1_36), .long avl1_36, .int gh1_36, .int gv1_36, .ref (ad 7), .ref (ad 8), .int (nI st1_36)])), (ad 6, .inl (cL, 40, .inr (.inl ss1_36))), (ad 7, .inl (cI, 10, .inl sv1_36)), (ad 8, .inl (cI, 10, .inl (xnI sr1_36))), (ad 9, .inr (2, [.int (nd + 1), .int (nI lc), .long bc, .int bv, .ref (ad 10), .ref (ad 11), .ref (ad 12), .ref (ad 1), .ref (ad 5), .ref (ad 13), .ref (ad 14), .int (nI wc1_57)])), (ad 10, .inl (cI, lz, .inl lh)), (ad 11, .inl (cI, lz, .inl lw)), (ad 12, .inl (cL, lz, .inr (.inl lb))), (ad 13, .inl (cI, 11, .inl wh1_57)), (ad 14, .inl (cI, 11, .inl wv1_57))] H := ((xkeepA hP hk [0, 1, 2, 3] rfl (xnA hinj [5, 6, 7, 8] rfl (by decide))).app hB).sub [0, 1, 2, 3, 4, 5, 6, 7, 8, 9] rfl
      rw [h4] at hF
      dsimp only at hF
      exact W.vret hx hb hr (fun t ht hW => ⟨⟨(ss1_36, sc1_36, avl1_36, gh1_36, gv1_36, sv1_36, sr1_36, st1_36, (nd + 1), lc, bc, bv, lh, lw, lb, wh1_57, wv1_57, wc1_57), rfl, hF, xBi ht hP⟩, hS.F ht⟩) hS.2.2 dX2_visit_60
    · have hF := hF.trans (if_neg h3)
      refine lv_aload_n hx hb dX2_visit_45 rfl (lv_at hl 0 rfl) ?_
      refine lv_iload_n hx hb dX2_visit_46 rfl (lv_at hl 1 rfl) ?_
      refine lv_iload_n hx hb dX2_visit_47 rfl (lv_at hl 2 rfl) ?_
      have hR := xP0 hPr (xnA hinj [1, 2, 3, 4] rfl (by decide)) hS
      refine xrw_v (va_runV (As := [.int hv, .int vl]) (rest := []) ⟨hx, hb, hml, hown, hts⟩ (c_putIntoLog l dC dI cI cL cZ ad hinj lz (nd + 1) lc bc bv lh lw lb wh wv wc (by omega) (by omega) hv vl) (xcwV 2 hts wd_315 wd_38 wd_312 wd_314 wd_10 rfl rfl (by decide +kernel) ⟨Nat.le_of_ble_eq_true rfl, Nat.le_of_ble_eq_true rfl⟩) (xpreV (va_recv hK hP rfl (q0 := 4) rfl) (hP.sub [4, 5, 6, 7, 8, 9] rfl) hK) rfl rfl hl.1 rfl (lv_room (Nat.le_of_ble_eq_true rfl)) dX2_visit_48 ⟨Nat.le_of_ble_eq_true rfl, Nat.le_of_ble_eq_true rfl⟩) hS (xAsub (by decide)) (fun u H locs h5 hB hk hS => ?_)
      obtain ⟨lc1_48, lh1_48, lw1_48, lb1_48⟩ := u
      have hP : va_P (dC, dI) vwCl [(ad 5, .inr (0, [.ref (ad 1), .ref (ad 6), .int (nI sc1_36), .long avl1_36, .int gh1_36, .int gv1_36, .ref (ad 7), .ref (ad 8), .int (nI st1_36)])), (ad 6, .inl (cL, 40, .inr (.inl ss1_36))), (ad 7, .inl (cI, 10, .inl sv1_36)), (ad 8, .inl (cI, 10, .inl (xnI sr1_36))), (ad 9, .inr (2, [.int (nd + 1), .int (nI lc1_48), .long bc, .int bv, .ref (ad 10), .ref (ad 11), .ref (ad 12), .ref (ad 1), .ref (ad 5), .ref (ad 13), .ref (ad 14), .int (nI wc)])), (ad 10, .inl (cI, lz, .inl lh1_48)), (ad 11, .inl (cI, lz, .inl lw1_48)), (ad 12, .inl (cL, lz, .inr (.inl lb1_48))), (ad 13, .inl (cI, 11, .inl wh)), (ad 14, .inl (cI, 11, .inl wv))] H := ((xkeepA hP hk [0, 1, 2, 3] rfl (xnA hinj [5, 6, 7, 8] rfl (by decide))).app hB).sub [0, 1, 2, 3, 4, 5, 6, 7, 8, 9] rfl
      rw [h5] at hF
      dsimp only at hF
      refine lv_goto (tgt := 60) hx hb dX2_visit_51 (by decide) ?_
      exact W.vret hx hb hr (fun t ht hW => ⟨⟨(ss1_36, sc1_36, avl1_36, gh1_36, gv1_36, sv1_36, sr1_36, st1_36, (nd + 1), lc1_48, bc, bv, lh1_48, lw1_48, lb1_48, wh, wv, wc), rfl, hF, xBi ht hP⟩, hS.F ht⟩) hS.2.2 dX2_visit_60
  · have hF := hF.trans (if_pos h1)
    refine lv_aload_n hx hb dX2_visit_21 rfl (lv_at hl 0 rfl) ?_
    refine lv_iload_n hx hb dX2_visit_22 rfl (lv_at hl 2 rfl) ?_
    refine xrw_v (va_runV (As := [.int vl]) (rest := []) ⟨hx, hb, hml, hown, hts⟩ (c_visitLeaf l dC dI cI cL cZ ad hinj nv av nc mt mf wt lz (nd + 1) lc bc bv lh lw lb wh wv wc (by omega) vl) (xcwV 1 hts wd_229 wd_38 wd_226 wd_228 wd_2 rfl rfl (by decide +kernel) ⟨Nat.le_of_ble_eq_true rfl, Nat.le_of_ble_eq_true rfl⟩) (xpreV (va_recv hK hP rfl (q0 := 4) rfl) ((hR.app hP).sub [0, 1, 2, 3, 8, 9, 10, 11, 12, 13] rfl) hK) rfl rfl hl.1 rfl (lv_room (Nat.le_of_ble_eq_true rfl)) dX2_visit_23 ⟨Nat.le_of_ble_eq_true rfl, Nat.le_of_ble_eq_true rfl⟩) hS (xAsub (by decide)) (fun u H locs h6 hB hk hS => ?_)
    obtain ⟨bc1_23, bv1_23⟩ := u
    have hP : va_P (dC, dI) vwCl [(ad 5, .inr (0, [.ref (ad 1), .ref (ad 6), .int (nI sc), .long avl, .int gh, .int gv, .ref (ad 7), .ref (ad 8), .int (nI st)])), (ad 6, .inl (cL, 40, .inr (.inl ss))), (ad 7, .inl (cI, 10, .inl sv)), (ad 8, .inl (cI, 10, .inl (xnI sr))), (ad 9, .inr (2, [.int (nd + 1), .int (nI lc), .long bc1_23, .int bv1_23, .ref (ad 10), .ref (ad 11), .ref (ad 12), .ref (ad 1), .ref (ad 5), .ref (ad 13), .ref (ad 14), .int (nI wc)])), (ad 10, .inl (cI, lz, .inl lh)), (ad 11, .inl (cI, lz, .inl lw)), (ad 12, .inl (cL, lz, .inr (.inl lb))), (ad 13, .inl (cI, 11, .inl wh)), (ad 14, .inl (cI, 11, .inl wv))] H := ((xkeepA hP hk [0, 1, 2, 3] rfl (xnA hinj [5, 6, 7, 8] rfl (by decide))).app hB).sub [0, 1, 2, 3, 4, 5, 6, 7, 8, 9] rfl
    rw [h6] at hF
    dsimp only at hF
    refine lv_goto (tgt := 60) hx hb dX2_visit_26 (by decide) ?_
    exact W.vret hx hb hr (fun t ht hW => ⟨⟨(ss, sc, avl, gh, gv, sv, sr, st, (nd + 1), lc, bc1_23, bv1_23, lh, lw, lb, wh, wv, wc), rfl, hF, xBi ht hP⟩, hS.F ht⟩) hS.2.2 dX2_visit_60
end
section
theorem visit_ok {nv : Nat} {av : Int32} {nc : Nat} {mt mf wt : Nat → Int32} {lz : Nat} {ss : Nat → Int64} {sc : Nat} {avl : Int64} {gh gv : Int32} {sv : Nat → Int32} {sr : Nat → Nat} {st : Nat} {nd : Int32} {lc : Nat} {bc : Int64} {bv : Int32} {lh lw : Nat → Int32} {lb : Nat → Int64} {wh wv : Nat → Int32} {wc : Nat} {hv vl : Int32}
    {ss1 : Nat → Int64} {sc1 : Nat} {avl1 : Int64} {gh1 gv1 : Int32} {sv1 : Nat → Int32} {sr1 : Nat → Nat} {st1 : Nat} {nd1 : Int32} {lc1 : Nat} {bc1 : Int64} {bv1 : Int32} {lh1 lw1 : Nat → Int32} {lb1 : Nat → Int64} {wh1 wv1 : Nat → Int32} {wc1 : Nat}
    (h : f_visit nv av nc mt mf wt lz ss sc avl gh gv sv sr st nd lc bc bv lh lw lb wh wv wc hv vl = (ss1, sc1, avl1, gh1, gv1, sv1, sr1, st1, nd1, lc1, bc1, bv1, lh1, lw1, lb1, wh1, wv1, wc1)) (hlz : lz ≤ 512) (hlc : lc ≤ lz) (hwc : wc ≤ 11) : lc1 ≤ lz ∧ wc1 ≤ 11 := by
  unfold f_visit at h
  split at h
  · split at h
    simp only [Prod.mk.injEq] at h
    omega
  · split at h
    split at h
    · split at h
      rename_i hb
      simp only [Prod.mk.injEq] at h
      have := branch_ok hb hwc
      omega
    · split at h
      rename_i hb
      simp only [Prod.mk.injEq] at h
      have := putIntoLog_ok hb hlz hlc
      omega
end
section
def f_run_L (nv : Nat) (av : Int32) (nc : Nat) (mt mf wt : Nat → Int32) (lz : Nat) : Nat → Nat → (Nat → Int64) → Nat → Int64 → Int32 → Int32 → (Nat → Int32) → (Nat → Nat) → Nat → Int32 → Nat → Int64 → Int32 → (Nat → Int32) → (Nat → Int32) → (Nat → Int64) → (Nat → Int32) → (Nat → Int32) → Nat → (Nat → Int64) × Nat × Int64 × Int32 × Int32 × (Nat → Int32) × (Nat → Nat) × Nat × Int32 × Nat × Int64 × Int32 × (Nat → Int32) × (Nat → Int32) × (Nat → Int64) × (Nat → Int32) × (Nat → Int32) × Nat
  | 0, i, ss2, sc2, avl2, gh2, gv2, sv2, sr2, st2, nd2, lc2, bc2, bv2, lh2, lw2, lb2, wh2, wv2, wc2 =>
    (ss2, sc2, avl2, gh2, gv2, sv2, sr2, st2, nd2, lc2, bc2, bv2, lh2, lw2, lb2, wh2, wv2, wc2)
  | n + 1, i, ss2, sc2, avl2, gh2, gv2, sv2, sr2, st2, nd2, lc2, bc2, bv2, lh2, lw2, lb2, wh2, wv2, wc2 =>
    if (nI wc2) ≤ 0 then
      (ss2, sc2, avl2, gh2, gv2, sv2, sr2, st2, nd2, lc2, bc2, bv2, lh2, lw2, lb2, wh2, wv2, wc2)
    else
      match (f_visit nv av nc mt mf wt lz ss2 sc2 avl2 gh2 gv2 sv2 sr2 st2 nd2 lc2 bc2 bv2 lh2 lw2 lb2 wh2 wv2 (wc2 - 1) (wh2 (wc2 - 1)) (wv2 (wc2 - 1))) with
      | (ss1_55, sc1_55, avl1_55, gh1_55, gv1_55, sv1_55, sr1_55, st1_55, nd1_55, lc1_55, bc1_55, bv1_55, lh1_55, lw1_55, lb1_55, wh1_55, wv1_55, wc1_55) =>
        f_run_L nv av nc mt mf wt lz n (i + 1) ss1_55 sc1_55 avl1_55 gh1_55 gv1_55 sv1_55 sr1_55 st1_55 nd1_55 lc1_55 bc1_55 bv1_55 lh1_55 lw1_55 lb1_55 wh1_55 wv1_55 wc1_55
def f_run (nv : Nat) (av : Int32) (nc : Nat) (mt mf wt : Nat → Int32) (lz : Nat) (ss : (Nat → Int64)) (sc : Nat) (avl : Int64) (gh : Int32) (gv : Int32) (sv : (Nat → Int32)) (sr : (Nat → Nat)) (st : Nat) (nd : Int32) (lc : Nat) (bc : Int64) (bv : Int32) (lh : (Nat → Int32)) (lw : (Nat → Int32)) (lb : (Nat → Int64)) (wh : (Nat → Int32)) (wv : (Nat → Int32)) (wc : Nat) : (Nat → Int64) × Nat × Int64 × Int32 × Int32 × (Nat → Int32) × (Nat → Nat) × Nat × Int32 × Nat × Int64 × Int32 × (Nat → Int32) × (Nat → Int32) × (Nat → Int64) × (Nat → Int32) × (Nat → Int32) × Nat :=
  match f_forget with
  | (nd1_1, lc1_1, bc1_1, bv1_1, wc1_1) =>
    match (f_putWaiting wh wv wc1_1 0 0) with
    | (wh1_7, wv1_7, wc1_7) =>
      f_run_L nv av nc mt mf wt lz 2048 0 ss sc avl gh gv sv sr st nd1_1 lc1_1 bc1_1 bv1_1 lh lw lb wh1_7 wv1_7 wc1_7
set_option maxHeartbeats 4000000 in
set_option maxRecDepth 100000 in
theorem c_run (l : Launch) (dC : Nat → ClassId) (dI : Nat → Nat → Nat) (cI cL cZ : ClassId) (ad : Nat → Nat) (hinj : xI ad 15) (nv : Nat) (av : Int32) (nc : Nat) (mt mf wt : Nat → Int32) (ss : Nat → Int64) (sc : Nat) (avl : Int64) (gh gv : Int32) (sv : Nat → Int32) (sr : Nat → Nat) (st : Nat) (lz : Nat) (nd : Int32) (lc : Nat) (bc : Int64) (bv : Int32) (lh lw : Nat → Int32) (lb : Nat → Int64) (wh wv : Nat → Int32) (wc : Nat) (hnc : nc ≤ 40) (hnv : nv ≤ 10) (hlz : lz ≤ 512) (hlc : lc ≤ lz) (hwc : wc ≤ 11) : Met l yX2_run wsX2_run ({ frames := 5, cells := 0, slots := 0, locals := 125 }) (va_Pc [.ref (ad 9)] (fun U => va_P (dC, dI) vwCl [(ad 1, .inr (1, [.int (nI nv), .int av, .int (nI nc), .ref (ad 2), .ref (ad 3), .ref (ad 4)])), (ad 2, .inl (cI, 40, .inl mt)), (ad 3, .inl (cI, 40, .inl mf)), (ad 4, .inl (cI, 40, .inl wt)), (ad 5, .inr (0, [.ref (ad 1), .ref (ad 6), .int (nI sc), .long avl, .int gh, .int gv, .ref (ad 7), .ref (ad 8), .int (nI st)])), (ad 6, .inl (cL, 40, .inr (.inl ss))), (ad 7, .inl (cI, 10, .inl sv)), (ad 8, .inl (cI, 10, .inl (xnI sr))), (ad 9, .inr (2, [.int nd, .int (nI lc), .long bc, .int bv, .ref (ad 10), .ref (ad 11), .ref (ad 12), .ref (ad 1), .ref (ad 5), .ref (ad 13), .ref (ad 14), .int (nI wc)])), (ad 10, .inl (cI, lz, .inl lh)), (ad 11, .inl (cI, lz, .inl lw)), (ad 12, .inl (cL, lz, .inr (.inl lb))), (ad 13, .inl (cI, 11, .inl wh)), (ad 14, .inl (cI, 11, .inl wv))] U.heap ∧ va_K (dC, dI) vwCl [(cI, .int), (cL, .long), (cZ, .boolean)] U)) (va_Qv (fun u => f_run nv av nc mt mf wt lz ss sc avl gh gv sv sr st nd lc bc bv lh lw lb wh wv wc = u) (xB (dC, dI) vwCl (fun (u : (Nat → Int64) × Nat × Int64 × Int32 × Int32 × (Nat → Int32) × (Nat → Nat) × Nat × Int32 × Nat × Int64 × Int32 × (Nat → Int32) × (Nat → Int32) × (Nat → Int64) × (Nat → Int32) × (Nat → Int32) × Nat) => match u with | (ss1, sc1, avl1, gh1, gv1, sv1, sr1, st1, nd1, lc1, bc1, bv1, lh1, lw1, lb1, wh1, wv1, wc1) => [(ad 5, .inr (0, [.ref (ad 1), .ref (ad 6), .int (nI sc1), .long avl1, .int gh1, .int gv1, .ref (ad 7), .ref (ad 8), .int (nI st1)])), (ad 6, .inl (cL, 40, .inr (.inl ss1))), (ad 7, .inl (cI, 10, .inl sv1)), (ad 8, .inl (cI, 10, .inl (xnI sr1))), (ad 9, .inr (2, [.int nd1, .int (nI lc1), .long bc1, .int bv1, .ref (ad 10), .ref (ad 11), .ref (ad 12), .ref (ad 1), .ref (ad 5), .ref (ad 13), .ref (ad 14), .int (nI wc1)])), (ad 10, .inl (cI, lz, .inl lh1)), (ad 11, .inl (cI, lz, .inl lw1)), (ad 12, .inl (cL, lz, .inr (.inl lb1))), (ad 13, .inl (cI, 11, .inl wh1)), (ad 14, .inl (cI, 11, .inl wv1))])) (xA ad [5, 6, 7, 8, 9, 10, 11, 12, 13, 14])) 0 0 (xA ad [5, 6, 7, 8, 9, 10, 11, 12, 13, 14]) := by
  refine Met.ofW (cc := cX2_run) (maxL := 2) (ret := none) (by decide) rfl ?_
  intro p e s m args below meth c s₁ B hml hvv
  obtain ⟨rfl, hP0, hK⟩ := hvv
  have hx := B.exec
  have hb := B.bytes
  have hr := B.returns
  have hts := atoms_spec (ws := wsX2_run) B.pre
  have hown : s.vm.findClass RX2 = some m.cls := findClass_of_methodNamed B.named
  have hlocks := B.notSynchronized
  have hw0 : (.fieldLink RX2 57 "WeightedClauses$Search" "waitingCount" "I" : Cond).before _ s = true := hts _ (List.mem_cons_of_mem _ wd_152)
  have hw1 : (.fieldLink RX2 17 "WeightedClauses$Search" "waitingHave" "[I" : Cond).before _ s = true := hts _ (List.mem_cons_of_mem _ wd_150)
  have hw2 : (.fieldLink RX2 21 "WeightedClauses$Search" "waitingValues" "[I" : Cond).before _ s = true := hts _ (List.mem_cons_of_mem _ wd_151)
  have hPr : va_P (dC, dI) vwCl [(ad 1, .inr (1, [.int (nI nv), .int av, .int (nI nc), .ref (ad 2), .ref (ad 3), .ref (ad 4)])), (ad 2, .inl (cI, 40, .inl mt)), (ad 3, .inl (cI, 40, .inl mf)), (ad 4, .inl (cI, 40, .inl wt))] s.heap := hP0.sub [0, 1, 2, 3] rfl
  have hP : va_P (dC, dI) vwCl [(ad 5, .inr (0, [.ref (ad 1), .ref (ad 6), .int (nI sc), .long avl, .int gh, .int gv, .ref (ad 7), .ref (ad 8), .int (nI st)])), (ad 6, .inl (cL, 40, .inr (.inl ss))), (ad 7, .inl (cI, 10, .inl sv)), (ad 8, .inl (cI, 10, .inl (xnI sr))), (ad 9, .inr (2, [.int nd, .int (nI lc), .long bc, .int bv, .ref (ad 10), .ref (ad 11), .ref (ad 12), .ref (ad 1), .ref (ad 5), .ref (ad 13), .ref (ad 14), .int (nI wc)])), (ad 10, .inl (cI, lz, .inl lh)), (ad 11, .inl (cI, lz, .inl lw)), (ad 12, .inl (cL, lz, .inr (.inl lb))), (ad 13, .inl (cI, 11, .inl wh)), (ad 14, .inl (cI, 11, .inl wv))] s.heap := hP0.sub [4, 5, 6, 7, 8, 9, 10, 11, 12, 13] rfl
  have hS : va_S (xA ad [5, 6, 7, 8, 9, 10, 11, 12, 13, 14]) s.heap s.heap [] := va_S.rf
  have hl := lv_entry [.ref (ad 9)] (n := 2) (Nat.le_of_ble_eq_true rfl)
  rw [lg_entry_eq]
  generalize (lg_sl [.ref (ad 9)] ++ List.replicate (2 - (lg_sl [.ref (ad 9)]).length) Slot.unset).toArray = ls at hl ⊢
  have hl : lv_has ls 2 [(0, .ref (ad 9))] := hl
  have hF := Eq.refl (f_run nv av nc mt mf wt lz ss sc avl gh gv sv sr st nd lc bc bv lh lw lb wh wv wc)
  conv at hF => rhs; unfold f_run
  refine lv_aload_n hx hb dX2_run_0 rfl (lv_at hl 0 rfl) ?_
  have hR := xP0 hPr (xnA hinj [1, 2, 3, 4] rfl (by decide)) hS
  refine xrw_v (va_runV (As := []) (rest := []) ⟨hx, hb, hml, hown, hts⟩ (c_forget l dC dI cI cL cZ ad hinj lz nd lc bc bv lh lw lb wh wv wc) (xcwV 0 hts wd_199 wd_38 wd_217 wd_197 wd_198 rfl rfl (by decide +kernel) ⟨Nat.le_of_ble_eq_true rfl, Nat.le_of_ble_eq_true rfl⟩) (xpreV (va_recv hK hP rfl (q0 := 4) rfl) (hP.sub [4, 5, 6, 7, 8, 9] rfl) hK) rfl rfl hl.1 rfl (lv_room (Nat.le_of_ble_eq_true rfl)) dX2_run_1 ⟨Nat.le_of_ble_eq_true rfl, Nat.le_of_ble_eq_true rfl⟩) hS (xAsub (by decide)) (fun u H locs h1 hB hk hS => ?_)
  obtain ⟨nd1_1, lc1_1, bc1_1, bv1_1, wc1_1⟩ := u
  have hP : va_P (dC, dI) vwCl [(ad 5, .inr (0, [.ref (ad 1), .ref (ad 6), .int (nI sc), .long avl, .int gh, .int gv, .ref (ad 7), .ref (ad 8), .int (nI st)])), (ad 6, .inl (cL, 40, .inr (.inl ss))), (ad 7, .inl (cI, 10, .inl sv)), (ad 8, .inl (cI, 10, .inl (xnI sr))), (ad 9, .inr (2, [.int nd1_1, .int (nI lc1_1), .long bc1_1, .int bv1_1, .ref (ad 10), .ref (ad 11), .ref (ad 12), .ref (ad 1), .ref (ad 5), .ref (ad 13), .ref (ad 14), .int (nI wc1_1)])), (ad 10, .inl (cI, lz, .inl lh)), (ad 11, .inl (cI, lz, .inl lw)), (ad 12, .inl (cL, lz, .inr (.inl lb))), (ad 13, .inl (cI, 11, .inl wh)), (ad 14, .inl (cI, 11, .inl wv))] H := ((xkeepA hP hk [0, 1, 2, 3] rfl (xnA hinj [5, 6, 7, 8] rfl (by decide))).app hB).sub [0, 1, 2, 3, 4, 5, 6, 7, 8, 9] rfl
  rw [h1] at hF
  dsimp only at hF
  obtain ⟨hq1, hq2, hq3, hq4, hq5⟩ := forget_eq h1
  refine lv_aload_n hx hb dX2_run_4 rfl (lv_at hl 0 rfl) ?_
  refine lv_iconst (v := 0) hx hb dX2_run_5 (by decide) ?_
  refine lv_iconst (v := 0) hx hb dX2_run_6 (by decide) ?_
  have hR := xP0 hPr (xnA hinj [1, 2, 3, 4] rfl (by decide)) hS
  refine xrw_v (va_runV (As := [.int 0, .int 0]) (rest := []) ⟨hx, hb, hml, hown, hts⟩ (c_putWaiting l dC dI cI cL cZ ad hinj lz nd1_1 lc1_1 bc1_1 bv1_1 lh lw lb wh wv wc1_1 (by omega) 0 0) (xcwV 2 hts wd_221 wd_38 wd_218 wd_220 wd_0 rfl rfl (by decide +kernel) ⟨Nat.le_of_ble_eq_true rfl, Nat.le_of_ble_eq_true rfl⟩) (xpreV (va_recv hK hP rfl (q0 := 4) rfl) (hP.sub [4, 5, 6, 7, 8, 9] rfl) hK) rfl rfl hl.1 rfl (lv_room (Nat.le_of_ble_eq_true rfl)) dX2_run_7 ⟨Nat.le_of_ble_eq_true rfl, Nat.le_of_ble_eq_true rfl⟩) hS (xAsub (by decide)) (fun u H locs h2 hB hk hS => ?_)
  obtain ⟨wh1_7, wv1_7, wc1_7⟩ := u
  have hP : va_P (dC, dI) vwCl [(ad 5, .inr (0, [.ref (ad 1), .ref (ad 6), .int (nI sc), .long avl, .int gh, .int gv, .ref (ad 7), .ref (ad 8), .int (nI st)])), (ad 6, .inl (cL, 40, .inr (.inl ss))), (ad 7, .inl (cI, 10, .inl sv)), (ad 8, .inl (cI, 10, .inl (xnI sr))), (ad 9, .inr (2, [.int nd1_1, .int (nI lc1_1), .long bc1_1, .int bv1_1, .ref (ad 10), .ref (ad 11), .ref (ad 12), .ref (ad 1), .ref (ad 5), .ref (ad 13), .ref (ad 14), .int (nI wc1_7)])), (ad 10, .inl (cI, lz, .inl lh)), (ad 11, .inl (cI, lz, .inl lw)), (ad 12, .inl (cL, lz, .inr (.inl lb))), (ad 13, .inl (cI, 11, .inl wh1_7)), (ad 14, .inl (cI, 11, .inl wv1_7))] H := ((xkeepA hP hk [0, 1, 2, 3] rfl (xnA hinj [5, 6, 7, 8] rfl (by decide))).app hB).sub [0, 1, 2, 3, 4, 5, 6, 7, 8, 9] rfl
  rw [h2] at hF
  dsimp only at hF
  have hwc1 := putWaiting_ok h2 (by omega)
  refine lv_iconst (v := 0) hx hb dX2_run_10 (by decide) ?_
  refine lv_istore_n (lv' := [(1, .int 0), (0, .ref (ad 9))]) hx hb dX2_run_11 rfl hl (by decide) rfl (fun ls hl => ?_)
  have lp12 : ∀ (n : Nat) (i : Nat) (ss2 : (Nat → Int64)) (sc2 : Nat) (avl2 : Int64) (gh2 : Int32) (gv2 : Int32) (sv2 : (Nat → Int32)) (sr2 : (Nat → Nat)) (st2 : Nat) (nd2 : Int32) (lc2 : Nat) (bc2 : Int64) (bv2 : Int32) (lh2 : (Nat → Int32)) (lw2 : (Nat → Int32)) (lb2 : (Nat → Int64)) (wh2 : (Nat → Int32)) (wv2 : (Nat → Int32)) (wc2 : Nat) (H : Heap) (locs : List Loc) (ls : Array Slot), f_run nv av nc mt mf wt lz ss sc avl gh gv sv sr st nd lc bc bv lh lw lb wh wv wc = f_run_L nv av nc mt mf wt lz n i ss2 sc2 avl2 gh2 gv2 sv2 sr2 st2 nd2 lc2 bc2 bv2 lh2 lw2 lb2 wh2 wv2 wc2 → i + n = 2048 → lc2 ≤ lz → wc2 ≤ 11 → va_P (dC, dI) vwCl [(ad 5, .inr (0, [.ref (ad 1), .ref (ad 6), .int (nI sc2), .long avl2, .int gh2, .int gv2, .ref (ad 7), .ref (ad 8), .int (nI st2)])), (ad 6, .inl (cL, 40, .inr (.inl ss2))), (ad 7, .inl (cI, 10, .inl sv2)), (ad 8, .inl (cI, 10, .inl (xnI sr2))), (ad 9, .inr (2, [.int nd2, .int (nI lc2), .long bc2, .int bv2, .ref (ad 10), .ref (ad 11), .ref (ad 12), .ref (ad 1), .ref (ad 5), .ref (ad 13), .ref (ad 14), .int (nI wc2)])), (ad 10, .inl (cI, lz, .inl lh2)), (ad 11, .inl (cI, lz, .inl lw2)), (ad 12, .inl (cL, lz, .inr (.inl lb2))), (ad 13, .inl (cI, 11, .inl wh2)), (ad 14, .inl (cI, 11, .inl wv2))] H → va_S (xA ad [5, 6, 7, 8, 9, 10, 11, 12, 13, 14]) s.heap H locs → lv_has ls 2 [(0, .ref (ad 9)), (1, .int (nI i))] → W p l e (headSpec wsX2_run ({ frames := 5, cells := 0, slots := 0, locals := 125 })).room s m [.ref (ad 9)].toArray below meth c H locs 0 0 (MQ below (va_Qv (fun u => f_run nv av nc mt mf wt lz ss sc avl gh gv sv sr st nd lc bc bv lh lw lb wh wv wc = u) (xB (dC, dI) vwCl (fun (u : (Nat → Int64) × Nat × Int64 × Int32 × Int32 × (Nat → Int32) × (Nat → Nat) × Nat × Int32 × Nat × Int64 × Int32 × (Nat → Int32) × (Nat → Int32) × (Nat → Int64) × (Nat → Int32) × (Nat → Int32) × Nat) => match u with | (ss1, sc1, avl1, gh1, gv1, sv1, sr1, st1, nd1, lc1, bc1, bv1, lh1, lw1, lb1, wh1, wv1, wc1) => [(ad 5, .inr (0, [.ref (ad 1), .ref (ad 6), .int (nI sc1), .long avl1, .int gh1, .int gv1, .ref (ad 7), .ref (ad 8), .int (nI st1)])), (ad 6, .inl (cL, 40, .inr (.inl ss1))), (ad 7, .inl (cI, 10, .inl sv1)), (ad 8, .inl (cI, 10, .inl (xnI sr1))), (ad 9, .inr (2, [.int nd1, .int (nI lc1), .long bc1, .int bv1, .ref (ad 10), .ref (ad 11), .ref (ad 12), .ref (ad 1), .ref (ad 5), .ref (ad 13), .ref (ad 14), .int (nI wc1)])), (ad 10, .inl (cI, lz, .inl lh1)), (ad 11, .inl (cI, lz, .inl lw1)), (ad 12, .inl (cL, lz, .inr (.inl lb1))), (ad 13, .inl (cI, 11, .inl wh1)), (ad 14, .inl (cI, 11, .inl wv1))])) (xA ad [5, 6, 7, 8, 9, 10, 11, 12, 13, 14])) [.ref (ad 9)].toArray s 0 0 (xA ad [5, 6, 7, 8, 9, 10, 11, 12, 13, 14])) (F0 m 12 ls []) := by
    intro n
    induction n with
    | zero =>
      intro i ss2 sc2 avl2 gh2 gv2 sv2 sr2 st2 nd2 lc2 bc2 bv2 lh2 lw2 lb2 wh2 wv2 wc2 H locs ls hF hil hlc2 hwc2 hP hS hl
      rw [f_run_L] at hF
      refine lv_iload_n hx hb dX2_run_12 rfl (lv_at hl 1 rfl) ?_
      refine lv_sipush (v := 2048) hx hb dX2_run_13 (by decide) ?_
      refine lv_icmp_ge (tgt := 64) hx hb dX2_run_16 (by decide) (fun h3 => ?_) (fun h3 => absurd (nI_le (a := 2048) (by omega) (by omega)) h3)
      exact W.vret hx hb hr (fun t ht hW => ⟨⟨(ss2, sc2, avl2, gh2, gv2, sv2, sr2, st2, nd2, lc2, bc2, bv2, lh2, lw2, lb2, wh2, wv2, wc2), rfl, hF, xBi ht hP⟩, hS.F ht⟩) hS.2.2 dX2_run_64
    | succ n ih =>
      intro i ss2 sc2 avl2 gh2 gv2 sv2 sr2 st2 nd2 lc2 bc2 bv2 lh2 lw2 lb2 wh2 wv2 wc2 H locs ls hF hil hlc2 hwc2 hP hS hl
      rw [f_run_L] at hF
      refine lv_iload_n hx hb dX2_run_12 rfl (lv_at hl 1 rfl) ?_
      refine lv_sipush (v := 2048) hx hb dX2_run_13 (by decide) ?_
      refine lv_icmp_ge (tgt := 64) hx hb dX2_run_16 (by decide) (fun h4 => absurd h4 (nI_ge (a := i) (b := 2048) (by omega) (by decide))) (fun h4 => ?_)
      refine lv_aload_n hx hb dX2_run_19 rfl (lv_at hl 0 rfl) ?_
      refine va_get (D := (dC, dI)) (ci := 2) (v := .int (nI wc2)) (C := RX2) (T := TX2) (N := 12) hx hb hts (xcons inX2) hown hK hP 4 rfl rfl 11 (by decide) hw0 (fun _ h9 => h9) rfl dX2_run_20 ?_
      refine lv_if_le (tgt := 64) hx hb dX2_run_23 (by decide) (fun h5 => ?_) (fun h5 => ?_)
      · have hF := hF.trans (if_pos h5)
        exact W.vret hx hb hr (fun t ht hW => ⟨⟨(ss2, sc2, avl2, gh2, gv2, sv2, sr2, st2, nd2, lc2, bc2, bv2, lh2, lw2, lb2, wh2, wv2, wc2), rfl, hF, xBi ht hP⟩, hS.F ht⟩) hS.2.2 dX2_run_64
      · have hF := hF.trans (if_neg h5)
        have hpos := xpos h5
        refine lv_aload_n hx hb dX2_run_26 rfl (lv_at hl 0 rfl) ?_
        refine lv_dup hx hb dX2_run_27 rfl ?_
        refine va_get (D := (dC, dI)) (ci := 2) (v := .int (nI wc2)) (C := RX2) (T := TX2) (N := 12) hx hb hts (xcons inX2) hown hK hP 4 rfl rfl 11 (by decide) hw0 (fun _ h9 => h9) rfl dX2_run_28 ?_
        refine lv_iconst (v := 1) hx hb dX2_run_31 (by decide) ?_
        refine xr_subp (by omega) hx hb dX2_run_32 ?_
        refine va_put (D := (dC, dI)) (ci := 2) (v := .int (nI (wc2 - 1))) (ty := .int) (C := RX2) (T := TX2) (N := 12) hx hb hts (xcons inX2) tyX2 tyX2_ok nX2 hown hK hP (xD hinj [5, 6, 7, 8, 9, 10, 11, 12, 13, 14] rfl (by decide) (by decide)) hS 4 rfl rfl 11 (by decide) hw0 (fun _ h9 => h9) rfl (by decide +kernel) rfl rfl (Nat.le_of_ble_eq_true rfl) dX2_run_33 (fun H locs hP _ hS => ?_)
        have hP : va_P (dC, dI) vwCl [(ad 5, .inr (0, [.ref (ad 1), .ref (ad 6), .int (nI sc2), .long avl2, .int gh2, .int gv2, .ref (ad 7), .ref (ad 8), .int (nI st2)])), (ad 6, .inl (cL, 40, .inr (.inl ss2))), (ad 7, .inl (cI, 10, .inl sv2)), (ad 8, .inl (cI, 10, .inl (xnI sr2))), (ad 9, .inr (2, [.int nd2, .int (nI lc2), .long bc2, .int bv2, .ref (ad 10), .ref (ad 11), .ref (ad 12), .ref (ad 1), .ref (ad 5), .ref (ad 13), .ref (ad 14), .int (nI (wc2 - 1))])), (ad 10, .inl (cI, lz, .inl lh2)), (ad 11, .inl (cI, lz, .inl lw2)), (ad 12, .inl (cL, lz, .inr (.inl lb2))), (ad 13, .inl (cI, 11, .inl wh2)), (ad 14, .inl (cI, 11, .inl wv2))] H := hP
        refine lv_aload_n hx hb dX2_run_36 rfl (lv_at hl 0 rfl) ?_
        refine lv_aload_n hx hb dX2_run_37 rfl (lv_at hl 0 rfl) ?_
        refine va_get (D := (dC, dI)) (ci := 2) (v := .ref (ad 13)) (C := RX2) (T := TX2) (N := 12) hx hb hts (xcons inX2) hown hK hP 4 rfl rfl 9 (by decide) hw1 (fun _ h9 => h9) rfl dX2_run_38 ?_
        refine lv_aload_n hx hb dX2_run_41 rfl (lv_at hl 0 rfl) ?_
        refine va_get (D := (dC, dI)) (ci := 2) (v := .int (nI (wc2 - 1))) (C := RX2) (T := TX2) (N := 12) hx hb hts (xcons inX2) hown hK hP 4 rfl rfl 11 (by decide) hw0 (fun _ h9 => h9) rfl dX2_run_42 ?_
        refine xr_iald hx hb hK hP 8 0 rfl rfl (wc2 - 1) (by omega) (by omega) dX2_run_45 ?_
        refine lv_aload_n hx hb dX2_run_46 rfl (lv_at hl 0 rfl) ?_
        refine va_get (D := (dC, dI)) (ci := 2) (v := .ref (ad 14)) (C := RX2) (T := TX2) (N := 12) hx hb hts (xcons inX2) hown hK hP 4 rfl rfl 10 (by decide) hw2 (fun _ h9 => h9) rfl dX2_run_47 ?_
        refine lv_aload_n hx hb dX2_run_50 rfl (lv_at hl 0 rfl) ?_
        refine va_get (D := (dC, dI)) (ci := 2) (v := .int (nI (wc2 - 1))) (C := RX2) (T := TX2) (N := 12) hx hb hts (xcons inX2) hown hK hP 4 rfl rfl 11 (by decide) hw0 (fun _ h9 => h9) rfl dX2_run_51 ?_
        refine xr_iald hx hb hK hP 9 0 rfl rfl (wc2 - 1) (by omega) (by omega) dX2_run_54 ?_
        have hR := xP0 hPr (xnA hinj [1, 2, 3, 4] rfl (by decide)) hS
        refine xrw_v (va_runV (As := [.int (wh2 (wc2 - 1)), .int (wv2 (wc2 - 1))]) (rest := []) ⟨hx, hb, hml, hown, hts⟩ (c_visit l dC dI cI cL cZ ad hinj nv av nc mt mf wt ss2 sc2 avl2 gh2 gv2 sv2 sr2 st2 lz nd2 lc2 bc2 bv2 lh2 lw2 lb2 wh2 wv2 (wc2 - 1) (by omega) (by omega) (by omega) (by omega) (by omega) (wh2 (wc2 - 1)) (wv2 (wc2 - 1))) (xcwV 2 hts wd_225 wd_38 wd_222 wd_224 wd_1 rfl rfl (by decide +kernel) ⟨Nat.le_of_ble_eq_true rfl, Nat.le_of_ble_eq_true rfl⟩) (xpreV (va_recv hK hP rfl (q0 := 4) rfl) ((hR.app hP).sub [0, 1, 2, 3, 4, 5, 6, 7, 8, 9, 10, 11, 12, 13] rfl) hK) rfl rfl hl.1 rfl (lv_room (Nat.le_of_ble_eq_true rfl)) dX2_run_55 ⟨Nat.le_of_ble_eq_true rfl, Nat.le_of_ble_eq_true rfl⟩) hS (xAsub (by decide)) (fun u H locs h6 hB hk hS => ?_)
        obtain ⟨ss1_55, sc1_55, avl1_55, gh1_55, gv1_55, sv1_55, sr1_55, st1_55, nd1_55, lc1_55, bc1_55, bv1_55, lh1_55, lw1_55, lb1_55, wh1_55, wv1_55, wc1_55⟩ := u
        have hP : va_P (dC, dI) vwCl [(ad 5, .inr (0, [.ref (ad 1), .ref (ad 6), .int (nI sc1_55), .long avl1_55, .int gh1_55, .int gv1_55, .ref (ad 7), .ref (ad 8), .int (nI st1_55)])), (ad 6, .inl (cL, 40, .inr (.inl ss1_55))), (ad 7, .inl (cI, 10, .inl sv1_55)), (ad 8, .inl (cI, 10, .inl (xnI sr1_55))), (ad 9, .inr (2, [.int nd1_55, .int (nI lc1_55), .long bc1_55, .int bv1_55, .ref (ad 10), .ref (ad 11), .ref (ad 12), .ref (ad 1), .ref (ad 5), .ref (ad 13), .ref (ad 14), .int (nI wc1_55)])), (ad 10, .inl (cI, lz, .inl lh1_55)), (ad 11, .inl (cI, lz, .inl lw1_55)), (ad 12, .inl (cL, lz, .inr (.inl lb1_55))), (ad 13, .inl (cI, 11, .inl wh1_55)), (ad 14, .inl (cI, 11, .inl wv1_55))] H := va_P.sub hB [0, 1, 2, 3, 4, 5, 6, 7, 8, 9] rfl
        rw [h6] at hF
        dsimp only at hF
        have hv1 := visit_ok h6 hlz hlc2 (by omega)
        refine lv_iinc (k := 1) (v := (nI (i + 1))) (lv' := [(1, .int (nI (i + 1))), (0, .ref (ad 9))]) hx hb dX2_run_58 hl rfl (xinc _) (by decide) rfl (fun ls hl => ?_)
        refine lv_goto (tgt := 12) hx hb dX2_run_61 (by decide) ?_
        exact ih (i + 1) ss1_55 sc1_55 avl1_55 gh1_55 gv1_55 sv1_55 sr1_55 st1_55 nd1_55 lc1_55 bc1_55 bv1_55 lh1_55 lw1_55 lb1_55 wh1_55 wv1_55 wc1_55 _ _ _ hF (by omega) hv1.1 hv1.2 hP hS (lv_sub hl [1, 0] rfl)
  exact lp12 2048 0 ss sc avl gh gv sv sr st nd1_1 lc1_1 bc1_1 bv1_1 lh lw lb wh1_7 wv1_7 wc1_7 _ _ _ hF (by omega) (by omega) hwc1 hP hS (lv_sub hl [1, 0] rfl)
end
section
def f_variables (nv : Nat) : Int32 :=
  (nI nv)
def f_clauses (nc : Nat) : Int32 :=
  (nI nc)
def f_nodes (nd : Int32) : Int32 :=
  nd
def f_logged (lc : Nat) : Int32 :=
  (nI lc)
def f_value (nv : Nat) (bc : Int64) (bv v : Int32) : Int32 :=
  if v < 0 then
    (-1)
  else
    if (nI nv) ≤ v then
      (-1)
    else
      if (f_hasBest bc) = 0 then
        (-1)
      else
        ((bv >>> (v &&& 31)) &&& 1)
def f_log (lc : Nat) (lh lw : Nat → Int32) (k what : Int32) : Int32 :=
  if (f_isLogged lc k) = 0 then
    (-1)
  else
    if what = 0 then
      (lh k.toNatClampNeg)
    else
      if what = 1 then
        (lw k.toNatClampNeg)
      else
        (-1)
def f_best (lc : Nat) (lb : Nat → Int64) (k : Int32) : Int64 :=
  if (f_isLogged lc k) = 0 then
    (-1)
  else
    (lb k.toNatClampNeg)
def f_isState (av hv vl : Int32) : Int32 :=
  if (hv &&& (av ^^^ (-1))) = 0 then
    if (vl &&& (hv ^^^ (-1))) = 0 then
      1
    else
      0
  else
    0
def f_isLiteralOrAbsent (nv : Nat) (x : Int32) : Int32 :=
  if x < (-1) then
    0
  else
    if (2 * (nI nv)) ≤ x then
      0
    else
      1
set_option maxHeartbeats 4000000 in
set_option maxRecDepth 100000 in
theorem c_variables (l : Launch) (dC : Nat → ClassId) (dI : Nat → Nat → Nat) (cI cL cZ : ClassId) (ad : Nat → Nat) (hinj : xI ad 15) (nv : Nat) (av : Int32) (nc : Nat) (mt mf wt : Nat → Int32) : Met l yX3_variables wsX3_variables ({ frames := 0, cells := 0, slots := 0, locals := 0 }) (va_Pc [.ref (ad 0)] (fun U => va_P (dC, dI) vwCl [(ad 0, .inr (3, [.ref (ad 1), .ref (ad 5), .ref (ad 9)])), (ad 1, .inr (1, [.int (nI nv), .int av, .int (nI nc), .ref (ad 2), .ref (ad 3), .ref (ad 4)])), (ad 2, .inl (cI, 40, .inl mt)), (ad 3, .inl (cI, 40, .inl mf)), (ad 4, .inl (cI, 40, .inl wt))] U.heap ∧ va_K (dC, dI) vwCl [(cI, .int), (cL, .long), (cZ, .boolean)] U)) (va_Qi (fun r (_ : Unit) => f_variables nv = r) (fun _ _ => True) xN) 0 0 xN := by
  refine Met.ofW (cc := cX3_variables) (maxL := 1) (ret := (some .int)) (by decide) rfl ?_
  intro p e s m args below meth c s₁ B hml hvv
  obtain ⟨rfl, hP0, hK⟩ := hvv
  have hx := B.exec
  have hb := B.bytes
  have hr := B.returns
  have hts := atoms_spec (ws := wsX3_variables) B.pre
  have hown : s.vm.findClass RX3 = some m.cls := findClass_of_methodNamed B.named
  have hlocks := B.notSynchronized
  have hw0 : (.fieldLink RX3 23 "WeightedClauses" "formula" "LWeightedClauses$Formula;" : Cond).before _ s = true := hts _ (List.mem_cons_of_mem _ wd_178)
  have hw1 : (.fieldLink RX3 45 "WeightedClauses$Formula" "variableCount" "I" : Cond).before _ s = true := hts _ (List.mem_cons_of_mem _ wd_68)
  have hPr : va_P (dC, dI) vwCl [(ad 0, .inr (3, [.ref (ad 1), .ref (ad 5), .ref (ad 9)])), (ad 1, .inr (1, [.int (nI nv), .int av, .int (nI nc), .ref (ad 2), .ref (ad 3), .ref (ad 4)])), (ad 2, .inl (cI, 40, .inl mt)), (ad 3, .inl (cI, 40, .inl mf)), (ad 4, .inl (cI, 40, .inl wt))] s.heap := hP0.sub [0, 1, 2, 3, 4] rfl
  have hS : va_S xN s.heap s.heap [] := va_S.rf
  have hl := lv_entry [.ref (ad 0)] (n := 1) (Nat.le_of_ble_eq_true rfl)
  rw [lg_entry_eq]
  generalize (lg_sl [.ref (ad 0)] ++ List.replicate (1 - (lg_sl [.ref (ad 0)]).length) Slot.unset).toArray = ls at hl ⊢
  have hl : lv_has ls 1 [(0, .ref (ad 0))] := hl
  have hF := Eq.refl (f_variables nv)
  conv at hF => rhs; unfold f_variables
  refine lv_aload_n hx hb dX3_variables_0 rfl (lv_at hl 0 rfl) ?_
  have hR := xP0 hPr xnN hS
  refine va_get (D := (dC, dI)) (ci := 3) (v := .ref (ad 1)) (C := RX3) (T := TX3) (N := 3) hx hb hts (xcons inX3) hown hK hR 0 rfl rfl 0 (by decide) hw0 (fun _ h9 => h9) rfl dX3_variables_1 ?_
  refine va_get (D := (dC, dI)) (ci := 1) (v := .int (nI nv)) (C := RX1) (T := TX1) (N := 6) hx hb hts (xcons inX1) hown hK hR 1 rfl rfl 0 (by decide) hw1 (fun _ h9 => h9) rfl dX3_variables_4 ?_
  exact W.iret (v := (nI nv)) hx hb hr (fun t ht hW => ⟨⟨_, (), rfl, hF, trivial⟩, hS.F ht⟩) hS.2.2 dX3_variables_7
set_option maxHeartbeats 4000000 in
set_option maxRecDepth 100000 in
theorem c_clauses (l : Launch) (dC : Nat → ClassId) (dI : Nat → Nat → Nat) (cI cL cZ : ClassId) (ad : Nat → Nat) (hinj : xI ad 15) (nv : Nat) (av : Int32) (nc : Nat) (mt mf wt : Nat → Int32) : Met l yX3_clauses wsX3_clauses ({ frames := 0, cells := 0, slots := 0, locals := 0 }) (va_Pc [.ref (ad 0)] (fun U => va_P (dC, dI) vwCl [(ad 0, .inr (3, [.ref (ad 1), .ref (ad 5), .ref (ad 9)])), (ad 1, .inr (1, [.int (nI nv), .int av, .int (nI nc), .ref (ad 2), .ref (ad 3), .ref (ad 4)])), (ad 2, .inl (cI, 40, .inl mt)), (ad 3, .inl (cI, 40, .inl mf)), (ad 4, .inl (cI, 40, .inl wt))] U.heap ∧ va_K (dC, dI) vwCl [(cI, .int), (cL, .long), (cZ, .boolean)] U)) (va_Qi (fun r (_ : Unit) => f_clauses nc = r) (fun _ _ => True) xN) 0 0 xN := by
  refine Met.ofW (cc := cX3_clauses) (maxL := 1) (ret := (some .int)) (by decide) rfl ?_
  intro p e s m args below meth c s₁ B hml hvv
  obtain ⟨rfl, hP0, hK⟩ := hvv
  have hx := B.exec
  have hb := B.bytes
  have hr := B.returns
  have hts := atoms_spec (ws := wsX3_clauses) B.pre
  have hown : s.vm.findClass RX3 = some m.cls := findClass_of_methodNamed B.named
  have hlocks := B.notSynchronized
  have hw0 : (.fieldLink RX3 23 "WeightedClauses" "formula" "LWeightedClauses$Formula;" : Cond).before _ s = true := hts _ (List.mem_cons_of_mem _ wd_178)
  have hw1 : (.fieldLink RX3 60 "WeightedClauses$Formula" "clauseCount" "I" : Cond).before _ s = true := hts _ (List.mem_cons_of_mem _ wd_73)
  have hPr : va_P (dC, dI) vwCl [(ad 0, .inr (3, [.ref (ad 1), .ref (ad 5), .ref (ad 9)])), (ad 1, .inr (1, [.int (nI nv), .int av, .int (nI nc), .ref (ad 2), .ref (ad 3), .ref (ad 4)])), (ad 2, .inl (cI, 40, .inl mt)), (ad 3, .inl (cI, 40, .inl mf)), (ad 4, .inl (cI, 40, .inl wt))] s.heap := hP0.sub [0, 1, 2, 3, 4] rfl
  have hS : va_S xN s.heap s.heap [] := va_S.rf
  have hl := lv_entry [.ref (ad 0)] (n := 1) (Nat.le_of_ble_eq_true rfl)
  rw [lg_entry_eq]
  generalize (lg_sl [.ref (ad 0)] ++ List.replicate (1 - (lg_sl [.ref (ad 0)]).length) Slot.unset).toArray = ls at hl ⊢
  have hl : lv_has ls 1 [(0, .ref (ad 0))] := hl
  have hF := Eq.refl (f_clauses nc)
  conv at hF => rhs; unfold f_clauses
  refine lv_aload_n hx hb dX3_clauses_0 rfl (lv_at hl 0 rfl) ?_
  have hR := xP0 hPr xnN hS
  refine va_get (D := (dC, dI)) (ci := 3) (v := .ref (ad 1)) (C := RX3) (T := TX3) (N := 3) hx hb hts (xcons inX3) hown hK hR 0 rfl rfl 0 (by decide) hw0 (fun _ h9 => h9) rfl dX3_clauses_1 ?_
  refine va_get (D := (dC, dI)) (ci := 1) (v := .int (nI nc)) (C := RX1) (T := TX1) (N := 6) hx hb hts (xcons inX1) hown hK hR 1 rfl rfl 2 (by decide) hw1 (fun _ h9 => h9) rfl dX3_clauses_4 ?_
  exact W.iret (v := (nI nc)) hx hb hr (fun t ht hW => ⟨⟨_, (), rfl, hF, trivial⟩, hS.F ht⟩) hS.2.2 dX3_clauses_7
set_option maxHeartbeats 4000000 in
set_option maxRecDepth 100000 in
theorem c_nodes (l : Launch) (dC : Nat → ClassId) (dI : Nat → Nat → Nat) (cI cL cZ : ClassId) (ad : Nat → Nat) (hinj : xI ad 15) (lz : Nat) (nd : Int32) (lc : Nat) (bc : Int64) (bv : Int32) (lh lw : Nat → Int32) (lb : Nat → Int64) (wh wv : Nat → Int32) (wc : Nat) : Met l yX3_nodes wsX3_nodes ({ frames := 0, cells := 0, slots := 0, locals := 0 }) (va_Pc [.ref (ad 0)] (fun U => va_P (dC, dI) vwCl [(ad 0, .inr (3, [.ref (ad 1), .ref (ad 5), .ref (ad 9)])), (ad 9, .inr (2, [.int nd, .int (nI lc), .long bc, .int bv, .ref (ad 10), .ref (ad 11), .ref (ad 12), .ref (ad 1), .ref (ad 5), .ref (ad 13), .ref (ad 14), .int (nI wc)])), (ad 10, .inl (cI, lz, .inl lh)), (ad 11, .inl (cI, lz, .inl lw)), (ad 12, .inl (cL, lz, .inr (.inl lb))), (ad 13, .inl (cI, 11, .inl wh)), (ad 14, .inl (cI, 11, .inl wv))] U.heap ∧ va_K (dC, dI) vwCl [(cI, .int), (cL, .long), (cZ, .boolean)] U)) (va_Qi (fun r (_ : Unit) => f_nodes nd = r) (fun _ _ => True) xN) 0 0 xN := by
  refine Met.ofW (cc := cX3_nodes) (maxL := 1) (ret := (some .int)) (by decide) rfl ?_
  intro p e s m args below meth c s₁ B hml hvv
  obtain ⟨rfl, hP0, hK⟩ := hvv
  have hx := B.exec
  have hb := B.bytes
  have hr := B.returns
  have hts := atoms_spec (ws := wsX3_nodes) B.pre
  have hown : s.vm.findClass RX3 = some m.cls := findClass_of_methodNamed B.named
  have hlocks := B.notSynchronized
  have hw0 : (.fieldLink RX3 41 "WeightedClauses" "search" "LWeightedClauses$Search;" : Cond).before _ s = true := hts _ (List.mem_cons_of_mem _ wd_180)
  have hw1 : (.fieldLink RX3 121 "WeightedClauses$Search" "nodeCount" "I" : Cond).before _ s = true := hts _ (List.mem_cons_of_mem _ wd_135)
  have hPr : va_P (dC, dI) vwCl [(ad 0, .inr (3, [.ref (ad 1), .ref (ad 5), .ref (ad 9)])), (ad 9, .inr (2, [.int nd, .int (nI lc), .long bc, .int bv, .ref (ad 10), .ref (ad 11), .ref (ad 12), .ref (ad 1), .ref (ad 5), .ref (ad 13), .ref (ad 14), .int (nI wc)])), (ad 10, .inl (cI, lz, .inl lh)), (ad 11, .inl (cI, lz, .inl lw)), (ad 12, .inl (cL, lz, .inr (.inl lb))), (ad 13, .inl (cI, 11, .inl wh)), (ad 14, .inl (cI, 11, .inl wv))] s.heap := hP0.sub [0, 1, 2, 3, 4, 5, 6] rfl
  have hS : va_S xN s.heap s.heap [] := va_S.rf
  have hl := lv_entry [.ref (ad 0)] (n := 1) (Nat.le_of_ble_eq_true rfl)
  rw [lg_entry_eq]
  generalize (lg_sl [.ref (ad 0)] ++ List.replicate (1 - (lg_sl [.ref (ad 0)]).length) Slot.unset).toArray = ls at hl ⊢
  have hl : lv_has ls 1 [(0, .ref (ad 0))] := hl
  have hF := Eq.refl (f_nodes nd)
  conv at hF => rhs; unfold f_nodes
  refine lv_aload_n hx hb dX3_nodes_0 rfl (lv_at hl 0 rfl) ?_
  have hR := xP0 hPr xnN hS
  refine va_get (D := (dC, dI)) (ci := 3) (v := .ref (ad 9)) (C := RX3) (T := TX3) (N := 3) hx hb hts (xcons inX3) hown hK hR 0 rfl rfl 2 (by decide) hw0 (fun _ h9 => h9) rfl dX3_nodes_1 ?_
  refine va_get (D := (dC, dI)) (ci := 2) (v := .int nd) (C := RX2) (T := TX2) (N := 12) hx hb hts (xcons inX2) hown hK hR 1 rfl rfl 0 (by decide) hw1 (fun _ h9 => h9) rfl dX3_nodes_4 ?_
  exact W.iret (v := nd) hx hb hr (fun t ht hW => ⟨⟨_, (), rfl, hF, trivial⟩, hS.F ht⟩) hS.2.2 dX3_nodes_7
set_option maxHeartbeats 4000000 in
set_option maxRecDepth 100000 in
theorem c_logged (l : Launch) (dC : Nat → ClassId) (dI : Nat → Nat → Nat) (cI cL cZ : ClassId) (ad : Nat → Nat) (hinj : xI ad 15) (lz : Nat) (nd : Int32) (lc : Nat) (bc : Int64) (bv : Int32) (lh lw : Nat → Int32) (lb : Nat → Int64) (wh wv : Nat → Int32) (wc : Nat) : Met l yX3_logged wsX3_logged ({ frames := 0, cells := 0, slots := 0, locals := 0 }) (va_Pc [.ref (ad 0)] (fun U => va_P (dC, dI) vwCl [(ad 0, .inr (3, [.ref (ad 1), .ref (ad 5), .ref (ad 9)])), (ad 9, .inr (2, [.int nd, .int (nI lc), .long bc, .int bv, .ref (ad 10), .ref (ad 11), .ref (ad 12), .ref (ad 1), .ref (ad 5), .ref (ad 13), .ref (ad 14), .int (nI wc)])), (ad 10, .inl (cI, lz, .inl lh)), (ad 11, .inl (cI, lz, .inl lw)), (ad 12, .inl (cL, lz, .inr (.inl lb))), (ad 13, .inl (cI, 11, .inl wh)), (ad 14, .inl (cI, 11, .inl wv))] U.heap ∧ va_K (dC, dI) vwCl [(cI, .int), (cL, .long), (cZ, .boolean)] U)) (va_Qi (fun r (_ : Unit) => f_logged lc = r) (fun _ _ => True) xN) 0 0 xN := by
  refine Met.ofW (cc := cX3_logged) (maxL := 1) (ret := (some .int)) (by decide) rfl ?_
  intro p e s m args below meth c s₁ B hml hvv
  obtain ⟨rfl, hP0, hK⟩ := hvv
  have hx := B.exec
  have hb := B.bytes
  have hr := B.returns
  have hts := atoms_spec (ws := wsX3_logged) B.pre
  have hown : s.vm.findClass RX3 = some m.cls := findClass_of_methodNamed B.named
  have hlocks := B.notSynchronized
  have hw0 : (.fieldLink RX3 41 "WeightedClauses" "search" "LWeightedClauses$Search;" : Cond).before _ s = true := hts _ (List.mem_cons_of_mem _ wd_180)
  have hw1 : (.fieldLink RX3 124 "WeightedClauses$Search" "logCount" "I" : Cond).before _ s = true := hts _ (List.mem_cons_of_mem _ wd_137)
  have hPr : va_P (dC, dI) vwCl [(ad 0, .inr (3, [.ref (ad 1), .ref (ad 5), .ref (ad 9)])), (ad 9, .inr (2, [.int nd, .int (nI lc), .long bc, .int bv, .ref (ad 10), .ref (ad 11), .ref (ad 12), .ref (ad 1), .ref (ad 5), .ref (ad 13), .ref (ad 14), .int (nI wc)])), (ad 10, .inl (cI, lz, .inl lh)), (ad 11, .inl (cI, lz, .inl lw)), (ad 12, .inl (cL, lz, .inr (.inl lb))), (ad 13, .inl (cI, 11, .inl wh)), (ad 14, .inl (cI, 11, .inl wv))] s.heap := hP0.sub [0, 1, 2, 3, 4, 5, 6] rfl
  have hS : va_S xN s.heap s.heap [] := va_S.rf
  have hl := lv_entry [.ref (ad 0)] (n := 1) (Nat.le_of_ble_eq_true rfl)
  rw [lg_entry_eq]
  generalize (lg_sl [.ref (ad 0)] ++ List.replicate (1 - (lg_sl [.ref (ad 0)]).length) Slot.unset).toArray = ls at hl ⊢
  have hl : lv_has ls 1 [(0, .ref (ad 0))] := hl
  have hF := Eq.refl (f_logged lc)
  conv at hF => rhs; unfold f_logged
  refine lv_aload_n hx hb dX3_logged_0 rfl (lv_at hl 0 rfl) ?_
  have hR := xP0 hPr xnN hS
  refine va_get (D := (dC, dI)) (ci := 3) (v := .ref (ad 9)) (C := RX3) (T := TX3) (N := 3) hx hb hts (xcons inX3) hown hK hR 0 rfl rfl 2 (by decide) hw0 (fun _ h9 => h9) rfl dX3_logged_1 ?_
  refine va_get (D := (dC, dI)) (ci := 2) (v := .int (nI lc)) (C := RX2) (T := TX2) (N := 12) hx hb hts (xcons inX2) hown hK hR 1 rfl rfl 1 (by decide) hw1 (fun _ h9 => h9) rfl dX3_logged_4 ?_
  exact W.iret (v := (nI lc)) hx hb hr (fun t ht hW => ⟨⟨_, (), rfl, hF, trivial⟩, hS.F ht⟩) hS.2.2 dX3_logged_7
set_option maxHeartbeats 4000000 in
set_option maxRecDepth 100000 in
theorem c_value (l : Launch) (dC : Nat → ClassId) (dI : Nat → Nat → Nat) (cI cL cZ : ClassId) (ad : Nat → Nat) (hinj : xI ad 15) (nv : Nat) (av : Int32) (nc : Nat) (mt mf wt : Nat → Int32) (lz : Nat) (nd : Int32) (lc : Nat) (bc : Int64) (bv : Int32) (lh lw : Nat → Int32) (lb : Nat → Int64) (wh wv : Nat → Int32) (wc : Nat) (v : Int32) : Met l yX3_value wsX3_value ({ frames := 1, cells := 0, slots := 0, locals := 20 }) (va_Pc [.ref (ad 0), .int v] (fun U => va_P (dC, dI) vwCl [(ad 0, .inr (3, [.ref (ad 1), .ref (ad 5), .ref (ad 9)])), (ad 1, .inr (1, [.int (nI nv), .int av, .int (nI nc), .ref (ad 2), .ref (ad 3), .ref (ad 4)])), (ad 2, .inl (cI, 40, .inl mt)), (ad 3, .inl (cI, 40, .inl mf)), (ad 4, .inl (cI, 40, .inl wt)), (ad 9, .inr (2, [.int nd, .int (nI lc), .long bc, .int bv, .ref (ad 10), .ref (ad 11), .ref (ad 12), .ref (ad 1), .ref (ad 5), .ref (ad 13), .ref (ad 14), .int (nI wc)])), (ad 10, .inl (cI, lz, .inl lh)), (ad 11, .inl (cI, lz, .inl lw)), (ad 12, .inl (cL, lz, .inr (.inl lb))), (ad 13, .inl (cI, 11, .inl wh)), (ad 14, .inl (cI, 11, .inl wv))] U.heap ∧ va_K (dC, dI) vwCl [(cI, .int), (cL, .long), (cZ, .boolean)] U)) (va_Qi (fun r (_ : Unit) => f_value nv bc bv v = r) (fun _ _ => True) xN) 0 0 xN := by
  refine Met.ofW (cc := cX3_value) (maxL := 2) (ret := (some .int)) (by decide) rfl ?_
  intro p e s m args below meth c s₁ B hml hvv
  obtain ⟨rfl, hP0, hK⟩ := hvv
  have hx := B.exec
  have hb := B.bytes
  have hr := B.returns
  have hts := atoms_spec (ws := wsX3_value) B.pre
  have hown : s.vm.findClass RX3 = some m.cls := findClass_of_methodNamed B.named
  have hlocks := B.notSynchronized
  have hw0 : (.fieldLink RX3 23 "WeightedClauses" "formula" "LWeightedClauses$Formula;" : Cond).before _ s = true := hts _ (List.mem_cons_of_mem _ wd_178)
  have hw1 : (.fieldLink RX3 45 "WeightedClauses$Formula" "variableCount" "I" : Cond).before _ s = true := hts _ (List.mem_cons_of_mem _ wd_68)
  have hw2 : (.fieldLink RX3 41 "WeightedClauses" "search" "LWeightedClauses$Search;" : Cond).before _ s = true := hts _ (List.mem_cons_of_mem _ wd_180)
  have hw3 : (.fieldLink RX3 118 "WeightedClauses$Search" "bestValues" "I" : Cond).before _ s = true := hts _ (List.mem_cons_of_mem _ wd_141)
  have hPr : va_P (dC, dI) vwCl [(ad 0, .inr (3, [.ref (ad 1), .ref (ad 5), .ref (ad 9)])), (ad 1, .inr (1, [.int (nI nv), .int av, .int (nI nc), .ref (ad 2), .ref (ad 3), .ref (ad 4)])), (ad 2, .inl (cI, 40, .inl mt)), (ad 3, .inl (cI, 40, .inl mf)), (ad 4, .inl (cI, 40, .inl wt)), (ad 9, .inr (2, [.int nd, .int (nI lc), .long bc, .int bv, .ref (ad 10), .ref (ad 11), .ref (ad 12), .ref (ad 1), .ref (ad 5), .ref (ad 13), .ref (ad 14), .int (nI wc)])), (ad 10, .inl (cI, lz, .inl lh)), (ad 11, .inl (cI, lz, .inl lw)), (ad 12, .inl (cL, lz, .inr (.inl lb))), (ad 13, .inl (cI, 11, .inl wh)), (ad 14, .inl (cI, 11, .inl wv))] s.heap := hP0.sub [0, 1, 2, 3, 4, 5, 6, 7, 8, 9, 10] rfl
  have hS : va_S xN s.heap s.heap [] := va_S.rf
  have hl := lv_entry [.ref (ad 0), .int v] (n := 2) (Nat.le_of_ble_eq_true rfl)
  rw [lg_entry_eq]
  generalize (lg_sl [.ref (ad 0), .int v] ++ List.replicate (2 - (lg_sl [.ref (ad 0), .int v]).length) Slot.unset).toArray = ls at hl ⊢
  have hl : lv_has ls 2 [(0, .ref (ad 0)), (1, .int v)] := hl
  have hF := Eq.refl (f_value nv bc bv v)
  conv at hF => rhs; unfold f_value
  refine lv_iload_n hx hb dX3_value_0 rfl (lv_at hl 1 rfl) ?_
  refine lv_if_lt (tgt := 25) hx hb dX3_value_1 (by decide) (fun h1 => ?_) (fun h1 => ?_)
  · have hF := hF.trans (if_pos h1)
    refine lv_iconst (v := (-1)) hx hb dX3_value_25 (by decide) ?_
    exact W.iret (v := (-1)) hx hb hr (fun t ht hW => ⟨⟨_, (), rfl, hF, trivial⟩, hS.F ht⟩) hS.2.2 dX3_value_26
  · have hF := hF.trans (if_neg h1)
    refine lv_iload_n hx hb dX3_value_4 rfl (lv_at hl 1 rfl) ?_
    refine lv_aload_n hx hb dX3_value_5 rfl (lv_at hl 0 rfl) ?_
    have hR := xP0 hPr xnN hS
    refine va_get (D := (dC, dI)) (ci := 3) (v := .ref (ad 1)) (C := RX3) (T := TX3) (N := 3) hx hb hts (xcons inX3) hown hK hR 0 rfl rfl 0 (by decide) hw0 (fun _ h9 => h9) rfl dX3_value_6 ?_
    refine va_get (D := (dC, dI)) (ci := 1) (v := .int (nI nv)) (C := RX1) (T := TX1) (N := 6) hx hb hts (xcons inX1) hown hK hR 1 rfl rfl 0 (by decide) hw1 (fun _ h9 => h9) rfl dX3_value_9 ?_
    refine lv_icmp_ge (tgt := 25) hx hb dX3_value_12 (by decide) (fun h2 => ?_) (fun h2 => ?_)
    · have hF := hF.trans (if_pos h2)
      refine lv_iconst (v := (-1)) hx hb dX3_value_25 (by decide) ?_
      exact W.iret (v := (-1)) hx hb hr (fun t ht hW => ⟨⟨_, (), rfl, hF, trivial⟩, hS.F ht⟩) hS.2.2 dX3_value_26
    · have hF := hF.trans (if_neg h2)
      refine lv_aload_n hx hb dX3_value_15 rfl (lv_at hl 0 rfl) ?_
      refine va_get (D := (dC, dI)) (ci := 3) (v := .ref (ad 9)) (C := RX3) (T := TX3) (N := 3) hx hb hts (xcons inX3) hown hK hR 0 rfl rfl 2 (by decide) hw2 (fun _ h9 => h9) rfl dX3_value_16 ?_
      refine xro_i (va_runV (As := []) (rest := []) ⟨hx, hb, hml, hown, hts⟩ (c_hasBest l dC dI cI cL cZ ad hinj lz nd lc bc bv lh lw lb wh wv wc) (xcwV 0 hts wd_243 wd_38 wd_329 wd_241 wd_242 rfl rfl (by decide +kernel) ⟨Nat.le_of_ble_eq_true rfl, Nat.le_of_ble_eq_true rfl⟩) (xpreV (va_recv hK hR rfl (q0 := 5) rfl) (hR.sub [5, 6, 7, 8, 9, 10] rfl) hK) rfl rfl hl.1 rfl (lv_room (Nat.le_of_ble_eq_true rfl)) dX3_value_19 ⟨Nat.le_of_ble_eq_true rfl, Nat.le_of_ble_eq_true rfl⟩) hS (fun H locs hk hS => ?_)
      refine lv_if_ne (tgt := 27) hx hb dX3_value_22 (by decide) (fun h3 => ?_) (fun h3 => ?_)
      · have hF := hF.trans (if_neg h3)
        refine lv_aload_n hx hb dX3_value_27 rfl (lv_at hl 0 rfl) ?_
        have hR := xP0 hPr xnN hS
        refine va_get (D := (dC, dI)) (ci := 3) (v := .ref (ad 9)) (C := RX3) (T := TX3) (N := 3) hx hb hts (xcons inX3) hown hK hR 0 rfl rfl 2 (by decide) hw2 (fun _ h9 => h9) rfl dX3_value_28 ?_
        refine va_get (D := (dC, dI)) (ci := 2) (v := .int bv) (C := RX2) (T := TX2) (N := 12) hx hb hts (xcons inX2) hown hK hR 5 rfl rfl 3 (by decide) hw3 (fun _ h9 => h9) rfl dX3_value_31 ?_
        refine lv_iload_n hx hb dX3_value_34 rfl (lv_at hl 1 rfl) ?_
        refine lv_ishr hx hb dX3_value_35 ?_
        refine lv_iconst (v := 1) hx hb dX3_value_36 (by decide) ?_
        refine lv_iand hx hb dX3_value_37 ?_
        exact W.iret (v := ((bv >>> (v &&& 31)) &&& 1)) hx hb hr (fun t ht hW => ⟨⟨_, (), rfl, hF, trivial⟩, hS.F ht⟩) hS.2.2 dX3_value_38
      · have hF := hF.trans (if_pos h3)
        refine lv_iconst (v := (-1)) hx hb dX3_value_25 (by decide) ?_
        exact W.iret (v := (-1)) hx hb hr (fun t ht hW => ⟨⟨_, (), rfl, hF, trivial⟩, hS.F ht⟩) hS.2.2 dX3_value_26
set_option maxHeartbeats 4000000 in
set_option maxRecDepth 100000 in
theorem c_log (l : Launch) (dC : Nat → ClassId) (dI : Nat → Nat → Nat) (cI cL cZ : ClassId) (ad : Nat → Nat) (hinj : xI ad 15) (lz : Nat) (nd : Int32) (lc : Nat) (bc : Int64) (bv : Int32) (lh lw : Nat → Int32) (lb : Nat → Int64) (wh wv : Nat → Int32) (wc : Nat) (hlz : lz ≤ 512) (hlc : lc ≤ lz) (k what : Int32) : Met l yX3_log wsX3_log ({ frames := 1, cells := 0, slots := 0, locals := 21 }) (va_Pc [.ref (ad 0), .int k, .int what] (fun U => va_P (dC, dI) vwCl [(ad 0, .inr (3, [.ref (ad 1), .ref (ad 5), .ref (ad 9)])), (ad 9, .inr (2, [.int nd, .int (nI lc), .long bc, .int bv, .ref (ad 10), .ref (ad 11), .ref (ad 12), .ref (ad 1), .ref (ad 5), .ref (ad 13), .ref (ad 14), .int (nI wc)])), (ad 10, .inl (cI, lz, .inl lh)), (ad 11, .inl (cI, lz, .inl lw)), (ad 12, .inl (cL, lz, .inr (.inl lb))), (ad 13, .inl (cI, 11, .inl wh)), (ad 14, .inl (cI, 11, .inl wv))] U.heap ∧ va_K (dC, dI) vwCl [(cI, .int), (cL, .long), (cZ, .boolean)] U)) (va_Qi (fun r (_ : Unit) => f_log lc lh lw k what = r) (fun _ _ => True) xN) 0 0 xN := by
  refine Met.ofW (cc := cX3_log) (maxL := 3) (ret := (some .int)) (by decide) rfl ?_
  intro p e s m args below meth c s₁ B hml hvv
  obtain ⟨rfl, hP0, hK⟩ := hvv
  have hx := B.exec
  have hb := B.bytes
  have hr := B.returns
  have hts := atoms_spec (ws := wsX3_log) B.pre
  have hown : s.vm.findClass RX3 = some m.cls := findClass_of_methodNamed B.named
  have hlocks := B.notSynchronized
  have hw0 : (.fieldLink RX3 41 "WeightedClauses" "search" "LWeightedClauses$Search;" : Cond).before _ s = true := hts _ (List.mem_cons_of_mem _ wd_180)
  have hw1 : (.fieldLink RX3 130 "WeightedClauses$Search" "logHave" "[I" : Cond).before _ s = true := hts _ (List.mem_cons_of_mem _ wd_143)
  have hw2 : (.fieldLink RX3 134 "WeightedClauses$Search" "logValues" "[I" : Cond).before _ s = true := hts _ (List.mem_cons_of_mem _ wd_145)
  have hPr : va_P (dC, dI) vwCl [(ad 0, .inr (3, [.ref (ad 1), .ref (ad 5), .ref (ad 9)])), (ad 9, .inr (2, [.int nd, .int (nI lc), .long bc, .int bv, .ref (ad 10), .ref (ad 11), .ref (ad 12), .ref (ad 1), .ref (ad 5), .ref (ad 13), .ref (ad 14), .int (nI wc)])), (ad 10, .inl (cI, lz, .inl lh)), (ad 11, .inl (cI, lz, .inl lw)), (ad 12, .inl (cL, lz, .inr (.inl lb))), (ad 13, .inl (cI, 11, .inl wh)), (ad 14, .inl (cI, 11, .inl wv))] s.heap := hP0.sub [0, 1, 2, 3, 4, 5, 6] rfl
  have hS : va_S xN s.heap s.heap [] := va_S.rf
  have hl := lv_entry [.ref (ad 0), .int k, .int what] (n := 3) (Nat.le_of_ble_eq_true rfl)
  rw [lg_entry_eq]
  generalize (lg_sl [.ref (ad 0), .int k, .int what] ++ List.replicate (3 - (lg_sl [.ref (ad 0), .int k, .int what]).length) Slot.unset).toArray = ls at hl ⊢
  have hl : lv_has ls 3 [(0, .ref (ad 0)), (1, .int k), (2, .int what)] := hl
  have hF := Eq.refl (f_log lc lh lw k what)
  conv at hF => rhs; unfold f_log
  refine lv_aload_n hx hb dX3_log_0 rfl (lv_at hl 0 rfl) ?_
  have hR := xP0 hPr xnN hS
  refine va_get (D := (dC, dI)) (ci := 3) (v := .ref (ad 9)) (C := RX3) (T := TX3) (N := 3) hx hb hts (xcons inX3) hown hK hR 0 rfl rfl 2 (by decide) hw0 (fun _ h9 => h9) rfl dX3_log_1 ?_
  refine lv_iload_n hx hb dX3_log_4 rfl (lv_at hl 1 rfl) ?_
  refine xro_i (va_runV (As := [.int k]) (rest := []) ⟨hx, hb, hml, hown, hts⟩ (c_isLogged l dC dI cI cL cZ ad hinj lz nd lc bc bv lh lw lb wh wv wc k) (xcwV 1 hts wd_350 wd_38 wd_347 wd_348 wd_349 rfl rfl (by decide +kernel) ⟨Nat.le_of_ble_eq_true rfl, Nat.le_of_ble_eq_true rfl⟩) (xpreV (va_recv hK hR rfl (q0 := 1) rfl) (hR.sub [1, 2, 3, 4, 5, 6] rfl) hK) rfl rfl hl.1 rfl (lv_room (Nat.le_of_ble_eq_true rfl)) dX3_log_5 ⟨Nat.le_of_ble_eq_true rfl, Nat.le_of_ble_eq_true rfl⟩) hS (fun H locs hk hS => ?_)
  refine lv_if_ne (tgt := 13) hx hb dX3_log_8 (by decide) (fun h1 => ?_) (fun h1 => ?_)
  · have hF := hF.trans (if_neg h1)
    have hil := isLogged_ok h1
    refine lv_iload_n hx hb dX3_log_13 rfl (lv_at hl 2 rfl) ?_
    by_cases h2 : what = 0
    · have hF := hF.trans (if_pos h2)
      refine lv_lookup (off := 26) (tgt := 40) hx hb dX3_log_14 (by decide) (by subst h2; rfl) (by decide) ?_
      refine lv_aload_n hx hb dX3_log_40 rfl (lv_at hl 0 rfl) ?_
      have hR := xP0 hPr xnN hS
      refine va_get (D := (dC, dI)) (ci := 3) (v := .ref (ad 9)) (C := RX3) (T := TX3) (N := 3) hx hb hts (xcons inX3) hown hK hR 0 rfl rfl 2 (by decide) hw0 (fun _ h9 => h9) rfl dX3_log_41 ?_
      refine va_get (D := (dC, dI)) (ci := 2) (v := .ref (ad 10)) (C := RX2) (T := TX2) (N := 12) hx hb hts (xcons inX2) hown hK hR 1 rfl rfl 4 (by decide) hw1 (fun _ h9 => h9) rfl dX3_log_44 ?_
      refine lv_iload_n hx hb dX3_log_47 rfl (lv_at hl 1 rfl) ?_
      refine va_iald hx hb hK hR 2 0 rfl rfl (xin hil.1 hil.2 hlc (by omega)) dX3_log_48 ?_
      exact W.iret (v := (lh k.toNatClampNeg)) hx hb hr (fun t ht hW => ⟨⟨_, (), rfl, hF, trivial⟩, hS.F ht⟩) hS.2.2 dX3_log_49
    · have hF := hF.trans (if_neg h2)
      by_cases h3 : what = 1
      · have hF := hF.trans (if_pos h3)
        refine lv_lookup (off := 36) (tgt := 50) hx hb dX3_log_14 (by decide) (by subst h3; rfl) (by decide) ?_
        refine lv_aload_n hx hb dX3_log_50 rfl (lv_at hl 0 rfl) ?_
        have hR := xP0 hPr xnN hS
        refine va_get (D := (dC, dI)) (ci := 3) (v := .ref (ad 9)) (C := RX3) (T := TX3) (N := 3) hx hb hts (xcons inX3) hown hK hR 0 rfl rfl 2 (by decide) hw0 (fun _ h9 => h9) rfl dX3_log_51 ?_
        refine va_get (D := (dC, dI)) (ci := 2) (v := .ref (ad 11)) (C := RX2) (T := TX2) (N := 12) hx hb hts (xcons inX2) hown hK hR 1 rfl rfl 5 (by decide) hw2 (fun _ h9 => h9) rfl dX3_log_54 ?_
        refine lv_iload_n hx hb dX3_log_57 rfl (lv_at hl 1 rfl) ?_
        refine va_iald hx hb hK hR 3 0 rfl rfl (xin hil.1 hil.2 hlc (by omega)) dX3_log_58 ?_
        exact W.iret (v := (lw k.toNatClampNeg)) hx hb hr (fun t ht hW => ⟨⟨_, (), rfl, hF, trivial⟩, hS.F ht⟩) hS.2.2 dX3_log_59
      · have hF := hF.trans (if_neg h3)
        refine lv_lookup (off := 46) (tgt := 60) hx hb dX3_log_14 (by decide) (((lv_osw h2 (by decide)).trans ((lv_osw h3 (by decide)).trans rfl))) (by decide) ?_
        refine lv_iconst (v := (-1)) hx hb dX3_log_60 (by decide) ?_
        exact W.iret (v := (-1)) hx hb hr (fun t ht hW => ⟨⟨_, (), rfl, hF, trivial⟩, hS.F ht⟩) hS.2.2 dX3_log_61
  · have hF := hF.trans (if_pos h1)
    refine lv_iconst (v := (-1)) hx hb dX3_log_11 (by decide) ?_
    exact W.iret (v := (-1)) hx hb hr (fun t ht hW => ⟨⟨_, (), rfl, hF, trivial⟩, hS.F ht⟩) hS.2.2 dX3_log_12
set_option maxHeartbeats 4000000 in
set_option maxRecDepth 100000 in
theorem c_best (l : Launch) (dC : Nat → ClassId) (dI : Nat → Nat → Nat) (cI cL cZ : ClassId) (ad : Nat → Nat) (hinj : xI ad 15) (lz : Nat) (nd : Int32) (lc : Nat) (bc : Int64) (bv : Int32) (lh lw : Nat → Int32) (lb : Nat → Int64) (wh wv : Nat → Int32) (wc : Nat) (hlz : lz ≤ 512) (hlc : lc ≤ lz) (k : Int32) : Met l yX3_best wsX3_best ({ frames := 1, cells := 0, slots := 0, locals := 21 }) (va_Pc [.ref (ad 0), .int k] (fun U => va_P (dC, dI) vwCl [(ad 0, .inr (3, [.ref (ad 1), .ref (ad 5), .ref (ad 9)])), (ad 9, .inr (2, [.int nd, .int (nI lc), .long bc, .int bv, .ref (ad 10), .ref (ad 11), .ref (ad 12), .ref (ad 1), .ref (ad 5), .ref (ad 13), .ref (ad 14), .int (nI wc)])), (ad 10, .inl (cI, lz, .inl lh)), (ad 11, .inl (cI, lz, .inl lw)), (ad 12, .inl (cL, lz, .inr (.inl lb))), (ad 13, .inl (cI, 11, .inl wh)), (ad 14, .inl (cI, 11, .inl wv))] U.heap ∧ va_K (dC, dI) vwCl [(cI, .int), (cL, .long), (cZ, .boolean)] U)) (va_Ql (fun r (_ : Unit) => f_best lc lb k = r) (fun _ _ => True) xN) 0 0 xN := by
  refine Met.ofW (cc := cX3_best) (maxL := 2) (ret := (some .long)) (by decide) rfl ?_
  intro p e s m args below meth c s₁ B hml hvv
  obtain ⟨rfl, hP0, hK⟩ := hvv
  have hx := B.exec
  have hb := B.bytes
  have hr := B.returns
  have hts := atoms_spec (ws := wsX3_best) B.pre
  have hown : s.vm.findClass RX3 = some m.cls := findClass_of_methodNamed B.named
  have hlocks := B.notSynchronized
  have hw0 : (.fieldLink RX3 41 "WeightedClauses" "search" "LWeightedClauses$Search;" : Cond).before _ s = true := hts _ (List.mem_cons_of_mem _ wd_180)
  have hw1 : (.constantLong RX3 141 (-1) : Cond).before _ s = true := hts _ (List.mem_cons_of_mem _ wd_355)
  have hw2 : (.fieldLink RX3 137 "WeightedClauses$Search" "logBest" "[J" : Cond).before _ s = true := hts _ (List.mem_cons_of_mem _ wd_147)
  have hPr : va_P (dC, dI) vwCl [(ad 0, .inr (3, [.ref (ad 1), .ref (ad 5), .ref (ad 9)])), (ad 9, .inr (2, [.int nd, .int (nI lc), .long bc, .int bv, .ref (ad 10), .ref (ad 11), .ref (ad 12), .ref (ad 1), .ref (ad 5), .ref (ad 13), .ref (ad 14), .int (nI wc)])), (ad 10, .inl (cI, lz, .inl lh)), (ad 11, .inl (cI, lz, .inl lw)), (ad 12, .inl (cL, lz, .inr (.inl lb))), (ad 13, .inl (cI, 11, .inl wh)), (ad 14, .inl (cI, 11, .inl wv))] s.heap := hP0.sub [0, 1, 2, 3, 4, 5, 6] rfl
  have hS : va_S xN s.heap s.heap [] := va_S.rf
  have hl := lv_entry [.ref (ad 0), .int k] (n := 2) (Nat.le_of_ble_eq_true rfl)
  rw [lg_entry_eq]
  generalize (lg_sl [.ref (ad 0), .int k] ++ List.replicate (2 - (lg_sl [.ref (ad 0), .int k]).length) Slot.unset).toArray = ls at hl ⊢
  have hl : lv_has ls 2 [(0, .ref (ad 0)), (1, .int k)] := hl
  have hF := Eq.refl (f_best lc lb k)
  conv at hF => rhs; unfold f_best
  refine lv_aload_n hx hb dX3_best_0 rfl (lv_at hl 0 rfl) ?_
  have hR := xP0 hPr xnN hS
  refine va_get (D := (dC, dI)) (ci := 3) (v := .ref (ad 9)) (C := RX3) (T := TX3) (N := 3) hx hb hts (xcons inX3) hown hK hR 0 rfl rfl 2 (by decide) hw0 (fun _ h9 => h9) rfl dX3_best_1 ?_
  refine lv_iload_n hx hb dX3_best_4 rfl (lv_at hl 1 rfl) ?_
  refine xro_i (va_runV (As := [.int k]) (rest := []) ⟨hx, hb, hml, hown, hts⟩ (c_isLogged l dC dI cI cL cZ ad hinj lz nd lc bc bv lh lw lb wh wv wc k) (xcwV 1 hts wd_350 wd_38 wd_347 wd_348 wd_349 rfl rfl (by decide +kernel) ⟨Nat.le_of_ble_eq_true rfl, Nat.le_of_ble_eq_true rfl⟩) (xpreV (va_recv hK hR rfl (q0 := 1) rfl) (hR.sub [1, 2, 3, 4, 5, 6] rfl) hK) rfl rfl hl.1 rfl (lv_room (Nat.le_of_ble_eq_true rfl)) dX3_best_5 ⟨Nat.le_of_ble_eq_true rfl, Nat.le_of_ble_eq_true rfl⟩) hS (fun H locs hk hS => ?_)
  refine lv_if_eq (tgt := 23) hx hb dX3_best_8 (by decide) (fun h1 => ?_) (fun h1 => ?_)
  · have hF := hF.trans (if_pos h1)
    refine lv_ldc2 hx hb hown hw1 dX3_best_23 ?_
    exact W.lret (v := (-1)) hx hb hr (fun t ht hW => ⟨⟨_, (), rfl, hF, trivial⟩, hS.F ht⟩) hS.2.2 dX3_best_26
  · have hF := hF.trans (if_neg h1)
    have hil := isLogged_ok h1
    refine lv_aload_n hx hb dX3_best_11 rfl (lv_at hl 0 rfl) ?_
    have hR := xP0 hPr xnN hS
    refine va_get (D := (dC, dI)) (ci := 3) (v := .ref (ad 9)) (C := RX3) (T := TX3) (N := 3) hx hb hts (xcons inX3) hown hK hR 0 rfl rfl 2 (by decide) hw0 (fun _ h9 => h9) rfl dX3_best_12 ?_
    refine va_get (D := (dC, dI)) (ci := 2) (v := .ref (ad 12)) (C := RX2) (T := TX2) (N := 12) hx hb hts (xcons inX2) hown hK hR 1 rfl rfl 6 (by decide) hw2 (fun _ h9 => h9) rfl dX3_best_15 ?_
    refine lv_iload_n hx hb dX3_best_18 rfl (lv_at hl 1 rfl) ?_
    refine va_lald hx hb hK hR 4 1 rfl rfl (xin hil.1 hil.2 hlc (by omega)) dX3_best_19 ?_
    refine lv_goto (tgt := 26) hx hb dX3_best_20 (by decide) ?_
    exact W.lret (v := (lb k.toNatClampNeg)) hx hb hr (fun t ht hW => ⟨⟨_, (), rfl, hF, trivial⟩, hS.F ht⟩) hS.2.2 dX3_best_26
set_option maxHeartbeats 4000000 in
set_option maxRecDepth 100000 in
theorem c_isState (l : Launch) (dC : Nat → ClassId) (dI : Nat → Nat → Nat) (cI cL cZ : ClassId) (ad : Nat → Nat) (hinj : xI ad 15) (nv : Nat) (av : Int32) (nc : Nat) (mt mf wt : Nat → Int32) (hv vl : Int32) : Met l yX3_isState wsX3_isState ({ frames := 0, cells := 0, slots := 0, locals := 0 }) (va_Pc [.ref (ad 0), .int hv, .int vl] (fun U => va_P (dC, dI) vwCl [(ad 0, .inr (3, [.ref (ad 1), .ref (ad 5), .ref (ad 9)])), (ad 1, .inr (1, [.int (nI nv), .int av, .int (nI nc), .ref (ad 2), .ref (ad 3), .ref (ad 4)])), (ad 2, .inl (cI, 40, .inl mt)), (ad 3, .inl (cI, 40, .inl mf)), (ad 4, .inl (cI, 40, .inl wt))] U.heap ∧ va_K (dC, dI) vwCl [(cI, .int), (cL, .long), (cZ, .boolean)] U)) (va_Qi (fun r (_ : Unit) => f_isState av hv vl = r) (fun _ _ => True) xN) 0 0 xN := by
  refine Met.ofW (cc := cX3_isState) (maxL := 3) (ret := (some .boolean)) (by decide) rfl ?_
  intro p e s m args below meth c s₁ B hml hvv
  obtain ⟨rfl, hP0, hK⟩ := hvv
  have hx := B.exec
  have hb := B.bytes
  have hr := B.returns
  have hts := atoms_spec (ws := wsX3_isState) B.pre
  have hown : s.vm.findClass RX3 = some m.cls := findClass_of_methodNamed B.named
  have hlocks := B.notSynchronized
  have hw0 : (.fieldLink RX3 23 "WeightedClauses" "formula" "LWeightedClauses$Formula;" : Cond).before _ s = true := hts _ (List.mem_cons_of_mem _ wd_178)
  have hw1 : (.fieldLink RX3 144 "WeightedClauses$Formula" "allVariables" "I" : Cond).before _ s = true := hts _ (List.mem_cons_of_mem _ wd_71)
  have hPr : va_P (dC, dI) vwCl [(ad 0, .inr (3, [.ref (ad 1), .ref (ad 5), .ref (ad 9)])), (ad 1, .inr (1, [.int (nI nv), .int av, .int (nI nc), .ref (ad 2), .ref (ad 3), .ref (ad 4)])), (ad 2, .inl (cI, 40, .inl mt)), (ad 3, .inl (cI, 40, .inl mf)), (ad 4, .inl (cI, 40, .inl wt))] s.heap := hP0.sub [0, 1, 2, 3, 4] rfl
  have hS : va_S xN s.heap s.heap [] := va_S.rf
  have hl := lv_entry [.ref (ad 0), .int hv, .int vl] (n := 3) (Nat.le_of_ble_eq_true rfl)
  rw [lg_entry_eq]
  generalize (lg_sl [.ref (ad 0), .int hv, .int vl] ++ List.replicate (3 - (lg_sl [.ref (ad 0), .int hv, .int vl]).length) Slot.unset).toArray = ls at hl ⊢
  have hl : lv_has ls 3 [(0, .ref (ad 0)), (1, .int hv), (2, .int vl)] := hl
  have hF := Eq.refl (f_isState av hv vl)
  conv at hF => rhs; unfold f_isState
  refine lv_iload_n hx hb dX3_isState_0 rfl (lv_at hl 1 rfl) ?_
  refine lv_aload_n hx hb dX3_isState_1 rfl (lv_at hl 0 rfl) ?_
  have hR := xP0 hPr xnN hS
  refine va_get (D := (dC, dI)) (ci := 3) (v := .ref (ad 1)) (C := RX3) (T := TX3) (N := 3) hx hb hts (xcons inX3) hown hK hR 0 rfl rfl 0 (by decide) hw0 (fun _ h9 => h9) rfl dX3_isState_2 ?_
  refine va_get (D := (dC, dI)) (ci := 1) (v := .int av) (C := RX1) (T := TX1) (N := 6) hx hb hts (xcons inX1) hown hK hR 1 rfl rfl 1 (by decide) hw1 (fun _ h9 => h9) rfl dX3_isState_5 ?_
  refine lv_iconst (v := (-1)) hx hb dX3_isState_8 (by decide) ?_
  refine lv_ixor hx hb dX3_isState_9 ?_
  refine lv_iand hx hb dX3_isState_10 ?_
  refine lv_if_ne (tgt := 26) hx hb dX3_isState_11 (by decide) (fun h1 => ?_) (fun h1 => ?_)
  · have hF := hF.trans (if_neg h1)
    refine lv_iconst (v := 0) hx hb dX3_isState_26 (by decide) ?_
    exact W.zret (v := 0) hx hb hr rfl (fun t ht hW => ⟨⟨_, (), rfl, hF, trivial⟩, hS.F ht⟩) hS.2.2 dX3_isState_27
  · have hF := hF.trans (if_pos h1)
    refine lv_iload_n hx hb dX3_isState_14 rfl (lv_at hl 2 rfl) ?_
    refine lv_iload_n hx hb dX3_isState_15 rfl (lv_at hl 1 rfl) ?_
    refine lv_iconst (v := (-1)) hx hb dX3_isState_16 (by decide) ?_
    refine lv_ixor hx hb dX3_isState_17 ?_
    refine lv_iand hx hb dX3_isState_18 ?_
    refine lv_if_ne (tgt := 26) hx hb dX3_isState_19 (by decide) (fun h2 => ?_) (fun h2 => ?_)
    · have hF := hF.trans (if_neg h2)
      refine lv_iconst (v := 0) hx hb dX3_isState_26 (by decide) ?_
      exact W.zret (v := 0) hx hb hr rfl (fun t ht hW => ⟨⟨_, (), rfl, hF, trivial⟩, hS.F ht⟩) hS.2.2 dX3_isState_27
    · have hF := hF.trans (if_pos h2)
      refine lv_iconst (v := 1) hx hb dX3_isState_22 (by decide) ?_
      refine lv_goto (tgt := 27) hx hb dX3_isState_23 (by decide) ?_
      exact W.zret (v := 1) hx hb hr rfl (fun t ht hW => ⟨⟨_, (), rfl, hF, trivial⟩, hS.F ht⟩) hS.2.2 dX3_isState_27
set_option maxHeartbeats 4000000 in
set_option maxRecDepth 100000 in
theorem c_isLiteralOrAbsent (l : Launch) (dC : Nat → ClassId) (dI : Nat → Nat → Nat) (cI cL cZ : ClassId) (ad : Nat → Nat) (hinj : xI ad 15) (nv : Nat) (av : Int32) (nc : Nat) (mt mf wt : Nat → Int32) (x : Int32) : Met l yX3_isLiteralOrAbsent wsX3_isLiteralOrAbsent ({ frames := 0, cells := 0, slots := 0, locals := 0 }) (va_Pc [.ref (ad 0), .int x] (fun U => va_P (dC, dI) vwCl [(ad 0, .inr (3, [.ref (ad 1), .ref (ad 5), .ref (ad 9)])), (ad 1, .inr (1, [.int (nI nv), .int av, .int (nI nc), .ref (ad 2), .ref (ad 3), .ref (ad 4)])), (ad 2, .inl (cI, 40, .inl mt)), (ad 3, .inl (cI, 40, .inl mf)), (ad 4, .inl (cI, 40, .inl wt))] U.heap ∧ va_K (dC, dI) vwCl [(cI, .int), (cL, .long), (cZ, .boolean)] U)) (va_Qi (fun r (_ : Unit) => f_isLiteralOrAbsent nv x = r) (fun _ _ => True) xN) 0 0 xN := by
  refine Met.ofW (cc := cX3_isLiteralOrAbsent) (maxL := 2) (ret := (some .boolean)) (by decide) rfl ?_
  intro p e s m args below meth c s₁ B hml hvv
  obtain ⟨rfl, hP0, hK⟩ := hvv
  have hx := B.exec
  have hb := B.bytes
  have hr := B.returns
  have hts := atoms_spec (ws := wsX3_isLiteralOrAbsent) B.pre
  have hown : s.vm.findClass RX3 = some m.cls := findClass_of_methodNamed B.named
  have hlocks := B.notSynchronized
  have hw0 : (.fieldLink RX3 23 "WeightedClauses" "formula" "LWeightedClauses$Formula;" : Cond).before _ s = true := hts _ (List.mem_cons_of_mem _ wd_178)
  have hw1 : (.fieldLink RX3 45 "WeightedClauses$Formula" "variableCount" "I" : Cond).before _ s = true := hts _ (List.mem_cons_of_mem _ wd_68)
  have hPr : va_P (dC, dI) vwCl [(ad 0, .inr (3, [.ref (ad 1), .ref (ad 5), .ref (ad 9)])), (ad 1, .inr (1, [.int (nI nv), .int av, .int (nI nc), .ref (ad 2), .ref (ad 3), .ref (ad 4)])), (ad 2, .inl (cI, 40, .inl mt)), (ad 3, .inl (cI, 40, .inl mf)), (ad 4, .inl (cI, 40, .inl wt))] s.heap := hP0.sub [0, 1, 2, 3, 4] rfl
  have hS : va_S xN s.heap s.heap [] := va_S.rf
  have hl := lv_entry [.ref (ad 0), .int x] (n := 2) (Nat.le_of_ble_eq_true rfl)
  rw [lg_entry_eq]
  generalize (lg_sl [.ref (ad 0), .int x] ++ List.replicate (2 - (lg_sl [.ref (ad 0), .int x]).length) Slot.unset).toArray = ls at hl ⊢
  have hl : lv_has ls 2 [(0, .ref (ad 0)), (1, .int x)] := hl
  have hF := Eq.refl (f_isLiteralOrAbsent nv x)
  conv at hF => rhs; unfold f_isLiteralOrAbsent
  refine lv_iload_n hx hb dX3_isLiteralOrAbsent_0 rfl (lv_at hl 1 rfl) ?_
  refine lv_iconst (v := (-1)) hx hb dX3_isLiteralOrAbsent_1 (by decide) ?_
  refine lv_icmp_lt (tgt := 22) hx hb dX3_isLiteralOrAbsent_2 (by decide) (fun h1 => ?_) (fun h1 => ?_)
  · have hF := hF.trans (if_pos h1)
    refine lv_iconst (v := 0) hx hb dX3_isLiteralOrAbsent_22 (by decide) ?_
    exact W.zret (v := 0) hx hb hr rfl (fun t ht hW => ⟨⟨_, (), rfl, hF, trivial⟩, hS.F ht⟩) hS.2.2 dX3_isLiteralOrAbsent_23
  · have hF := hF.trans (if_neg h1)
    refine lv_iload_n hx hb dX3_isLiteralOrAbsent_5 rfl (lv_at hl 1 rfl) ?_
    refine lv_iconst (v := 2) hx hb dX3_isLiteralOrAbsent_6 (by decide) ?_
    refine lv_aload_n hx hb dX3_isLiteralOrAbsent_7 rfl (lv_at hl 0 rfl) ?_
    have hR := xP0 hPr xnN hS
    refine va_get (D := (dC, dI)) (ci := 3) (v := .ref (ad 1)) (C := RX3) (T := TX3) (N := 3) hx hb hts (xcons inX3) hown hK hR 0 rfl rfl 0 (by decide) hw0 (fun _ h9 => h9) rfl dX3_isLiteralOrAbsent_8 ?_
    refine va_get (D := (dC, dI)) (ci := 1) (v := .int (nI nv)) (C := RX1) (T := TX1) (N := 6) hx hb hts (xcons inX1) hown hK hR 1 rfl rfl 0 (by decide) hw1 (fun _ h9 => h9) rfl dX3_isLiteralOrAbsent_11 ?_
    refine lv_imul hx hb dX3_isLiteralOrAbsent_14 ?_
    refine lv_icmp_ge (tgt := 22) hx hb dX3_isLiteralOrAbsent_15 (by decide) (fun h2 => ?_) (fun h2 => ?_)
    · have hF := hF.trans (if_pos h2)
      refine lv_iconst (v := 0) hx hb dX3_isLiteralOrAbsent_22 (by decide) ?_
      exact W.zret (v := 0) hx hb hr rfl (fun t ht hW => ⟨⟨_, (), rfl, hF, trivial⟩, hS.F ht⟩) hS.2.2 dX3_isLiteralOrAbsent_23
    · have hF := hF.trans (if_neg h2)
      refine lv_iconst (v := 1) hx hb dX3_isLiteralOrAbsent_18 (by decide) ?_
      refine lv_goto (tgt := 23) hx hb dX3_isLiteralOrAbsent_19 (by decide) ?_
      exact W.zret (v := 1) hx hb hr rfl (fun t ht hW => ⟨⟨_, (), rfl, hF, trivial⟩, hS.F ht⟩) hS.2.2 dX3_isLiteralOrAbsent_23
end
section
def f_areLiterals (nv : Nat) (a1 a2 a3 a4 : Int32) : Int32 :=
  if (f_isLiteralOrAbsent nv a1) = 0 then
    0
  else
    if (f_isLiteralOrAbsent nv a2) = 0 then
      0
    else
      if (f_isLiteralOrAbsent nv a3) = 0 then
        0
      else
        if (f_isLiteralOrAbsent nv a4) = 0 then
          0
        else
          if ((((f_countIfPresent a1) + (f_countIfPresent a2)) + (f_countIfPresent a3)) + (f_countIfPresent a4)) ≤ 0 then
            0
          else
            if (f_bitCount ((((f_variableBit a1) ||| (f_variableBit a2)) ||| (f_variableBit a3)) ||| (f_variableBit a4))) = ((((f_countIfPresent a1) + (f_countIfPresent a2)) + (f_countIfPresent a3)) + (f_countIfPresent a4)) then
              1
            else
              0
set_option maxHeartbeats 4000000 in
set_option maxRecDepth 100000 in
theorem c_areLiterals (l : Launch) (dC : Nat → ClassId) (dI : Nat → Nat → Nat) (cI cL cZ : ClassId) (ad : Nat → Nat) (hinj : xI ad 15) (nv : Nat) (av : Int32) (nc : Nat) (mt mf wt : Nat → Int32) (a1 a2 a3 a4 : Int32) : Met l yX3_areLiterals wsX3_areLiterals ({ frames := 2, cells := 0, slots := 0, locals := 40 }) (va_Pc [.ref (ad 0), .int a1, .int a2, .int a3, .int a4] (fun U => va_P (dC, dI) vwCl [(ad 0, .inr (3, [.ref (ad 1), .ref (ad 5), .ref (ad 9)])), (ad 1, .inr (1, [.int (nI nv), .int av, .int (nI nc), .ref (ad 2), .ref (ad 3), .ref (ad 4)])), (ad 2, .inl (cI, 40, .inl mt)), (ad 3, .inl (cI, 40, .inl mf)), (ad 4, .inl (cI, 40, .inl wt))] U.heap ∧ va_K (dC, dI) vwCl [(cI, .int), (cL, .long), (cZ, .boolean)] U)) (va_Qi (fun r (_ : Unit) => f_areLiterals nv a1 a2 a3 a4 = r) (fun _ _ => True) xN) 0 0 xN := by
  refine Met.ofW (cc := cX3_areLiterals) (maxL := 7) (ret := (some .boolean)) (by decide) rfl ?_
  intro p e s m args below meth c s₁ B hml hvv
  obtain ⟨rfl, hP0, hK⟩ := hvv
  have hx := B.exec
  have hb := B.bytes
  have hr := B.returns
  have hts := atoms_spec (ws := wsX3_areLiterals) B.pre
  have hown : s.vm.findClass RX3 = some m.cls := findClass_of_methodNamed B.named
  have hlocks := B.notSynchronized
  have hPr : va_P (dC, dI) vwCl [(ad 0, .inr (3, [.ref (ad 1), .ref (ad 5), .ref (ad 9)])), (ad 1, .inr (1, [.int (nI nv), .int av, .int (nI nc), .ref (ad 2), .ref (ad 3), .ref (ad 4)])), (ad 2, .inl (cI, 40, .inl mt)), (ad 3, .inl (cI, 40, .inl mf)), (ad 4, .inl (cI, 40, .inl wt))] s.heap := hP0.sub [0, 1, 2, 3, 4] rfl
  have hS : va_S xN s.heap s.heap [] := va_S.rf
  have hl := lv_entry [.ref (ad 0), .int a1, .int a2, .int a3, .int a4] (n := 7) (Nat.le_of_ble_eq_true rfl)
  rw [lg_entry_eq]
  generalize (lg_sl [.ref (ad 0), .int a1, .int a2, .int a3, .int a4] ++ List.replicate (7 - (lg_sl [.ref (ad 0), .int a1, .int a2, .int a3, .int a4]).length) Slot.unset).toArray = ls at hl ⊢
  have hl : lv_has ls 7 [(0, .ref (ad 0)), (1, .int a1), (2, .int a2), (3, .int a3), (4, .int a4)] := hl
  have hF := Eq.refl (f_areLiterals nv a1 a2 a3 a4)
  conv at hF => rhs; unfold f_areLiterals
  refine lv_aload_n hx hb dX3_areLiterals_0 rfl (lv_at hl 0 rfl) ?_
  refine lv_iload_n hx hb dX3_areLiterals_1 rfl (lv_at hl 1 rfl) ?_
  have hR := xP0 hPr xnN hS
  refine xro_i (va_runV (As := [.int a1]) (rest := []) ⟨hx, hb, hml, hown, hts⟩ (c_isLiteralOrAbsent l dC dI cI cL cZ ad hinj nv av nc mt mf wt a1) (xcwV 1 hts wd_379 wd_34 wd_376 wd_378 wd_14 rfl rfl (by decide +kernel) ⟨Nat.le_of_ble_eq_true rfl, Nat.le_of_ble_eq_true rfl⟩) (xpreV (va_recv hK hR rfl (q0 := 0) rfl) hR hK) rfl rfl hl.1 rfl (lv_room (Nat.le_of_ble_eq_true rfl)) dX3_areLiterals_2 ⟨Nat.le_of_ble_eq_true rfl, Nat.le_of_ble_eq_true rfl⟩) hS (fun H locs hk hS => ?_)
  refine lv_if_eq (tgt := 33) hx hb dX3_areLiterals_5 (by decide) (fun h1 => ?_) (fun h1 => ?_)
  · have hF := hF.trans (if_pos h1)
    refine lv_iconst (v := 0) hx hb dX3_areLiterals_33 (by decide) ?_
    exact W.zret (v := 0) hx hb hr rfl (fun t ht hW => ⟨⟨_, (), rfl, hF, trivial⟩, hS.F ht⟩) hS.2.2 dX3_areLiterals_34
  · have hF := hF.trans (if_neg h1)
    refine lv_aload_n hx hb dX3_areLiterals_8 rfl (lv_at hl 0 rfl) ?_
    refine lv_iload_n hx hb dX3_areLiterals_9 rfl (lv_at hl 2 rfl) ?_
    have hR := xP0 hPr xnN hS
    refine xro_i (va_runV (As := [.int a2]) (rest := []) ⟨hx, hb, hml, hown, hts⟩ (c_isLiteralOrAbsent l dC dI cI cL cZ ad hinj nv av nc mt mf wt a2) (xcwV 1 hts wd_379 wd_34 wd_376 wd_378 wd_14 rfl rfl (by decide +kernel) ⟨Nat.le_of_ble_eq_true rfl, Nat.le_of_ble_eq_true rfl⟩) (xpreV (va_recv hK hR rfl (q0 := 0) rfl) hR hK) rfl rfl hl.1 rfl (lv_room (Nat.le_of_ble_eq_true rfl)) dX3_areLiterals_10 ⟨Nat.le_of_ble_eq_true rfl, Nat.le_of_ble_eq_true rfl⟩) hS (fun H locs hk hS => ?_)
    refine lv_if_eq (tgt := 33) hx hb dX3_areLiterals_13 (by decide) (fun h2 => ?_) (fun h2 => ?_)
    · have hF := hF.trans (if_pos h2)
      refine lv_iconst (v := 0) hx hb dX3_areLiterals_33 (by decide) ?_
      exact W.zret (v := 0) hx hb hr rfl (fun t ht hW => ⟨⟨_, (), rfl, hF, trivial⟩, hS.F ht⟩) hS.2.2 dX3_areLiterals_34
    · have hF := hF.trans (if_neg h2)
      refine lv_aload_n hx hb dX3_areLiterals_16 rfl (lv_at hl 0 rfl) ?_
      refine lv_iload_n hx hb dX3_areLiterals_17 rfl (lv_at hl 3 rfl) ?_
      have hR := xP0 hPr xnN hS
      refine xro_i (va_runV (As := [.int a3]) (rest := []) ⟨hx, hb, hml, hown, hts⟩ (c_isLiteralOrAbsent l dC dI cI cL cZ ad hinj nv av nc mt mf wt a3) (xcwV 1 hts wd_379 wd_34 wd_376 wd_378 wd_14 rfl rfl (by decide +kernel) ⟨Nat.le_of_ble_eq_true rfl, Nat.le_of_ble_eq_true rfl⟩) (xpreV (va_recv hK hR rfl (q0 := 0) rfl) hR hK) rfl rfl hl.1 rfl (lv_room (Nat.le_of_ble_eq_true rfl)) dX3_areLiterals_18 ⟨Nat.le_of_ble_eq_true rfl, Nat.le_of_ble_eq_true rfl⟩) hS (fun H locs hk hS => ?_)
      refine lv_if_eq (tgt := 33) hx hb dX3_areLiterals_21 (by decide) (fun h3 => ?_) (fun h3 => ?_)
      · have hF := hF.trans (if_pos h3)
        refine lv_iconst (v := 0) hx hb dX3_areLiterals_33 (by decide) ?_
        exact W.zret (v := 0) hx hb hr rfl (fun t ht hW => ⟨⟨_, (), rfl, hF, trivial⟩, hS.F ht⟩) hS.2.2 dX3_areLiterals_34
      · have hF := hF.trans (if_neg h3)
        refine lv_aload_n hx hb dX3_areLiterals_24 rfl (lv_at hl 0 rfl) ?_
        refine lv_iload hx hb dX3_areLiterals_25 (lv_at hl 4 rfl) ?_
        have hR := xP0 hPr xnN hS
        refine xro_i (va_runV (As := [.int a4]) (rest := []) ⟨hx, hb, hml, hown, hts⟩ (c_isLiteralOrAbsent l dC dI cI cL cZ ad hinj nv av nc mt mf wt a4) (xcwV 1 hts wd_379 wd_34 wd_376 wd_378 wd_14 rfl rfl (by decide +kernel) ⟨Nat.le_of_ble_eq_true rfl, Nat.le_of_ble_eq_true rfl⟩) (xpreV (va_recv hK hR rfl (q0 := 0) rfl) hR hK) rfl rfl hl.1 rfl (lv_room (Nat.le_of_ble_eq_true rfl)) dX3_areLiterals_27 ⟨Nat.le_of_ble_eq_true rfl, Nat.le_of_ble_eq_true rfl⟩) hS (fun H locs hk hS => ?_)
        refine lv_if_ne (tgt := 35) hx hb dX3_areLiterals_30 (by decide) (fun h4 => ?_) (fun h4 => ?_)
        · have hF := hF.trans (if_neg h4)
          refine lv_iload_n hx hb dX3_areLiterals_35 rfl (lv_at hl 1 rfl) ?_
          have hR := xP0 hPr xnN hS
          refine xro_i (va_runS (As := [.int a1]) (rest := []) ⟨hx, hb, hml, hown, hts⟩ (c_countIfPresent l dC dI cI cL cZ ad hinj a1) (xcwS 1 hts wd_382 wd_34 wd_380 wd_381 rfl rfl (by decide +kernel) ⟨Nat.le_of_ble_eq_true rfl, Nat.le_of_ble_eq_true rfl⟩) (xpreS xPn hK) rfl rfl hl.1 rfl (lv_room (Nat.le_of_ble_eq_true rfl)) dX3_areLiterals_36 ⟨Nat.le_of_ble_eq_true rfl, Nat.le_of_ble_eq_true rfl⟩) hS (fun H locs hk hS => ?_)
          refine lv_iload_n hx hb dX3_areLiterals_39 rfl (lv_at hl 2 rfl) ?_
          have hR := xP0 hPr xnN hS
          refine xro_i (va_runS (As := [.int a2]) (rest := [.int (f_countIfPresent a1)]) ⟨hx, hb, hml, hown, hts⟩ (c_countIfPresent l dC dI cI cL cZ ad hinj a2) (xcwS 1 hts wd_382 wd_34 wd_380 wd_381 rfl rfl (by decide +kernel) ⟨Nat.le_of_ble_eq_true rfl, Nat.le_of_ble_eq_true rfl⟩) (xpreS xPn hK) rfl rfl hl.1 rfl (lv_room (Nat.le_of_ble_eq_true rfl)) dX3_areLiterals_40 ⟨Nat.le_of_ble_eq_true rfl, Nat.le_of_ble_eq_true rfl⟩) hS (fun H locs hk hS => ?_)
          refine lv_iadd hx hb dX3_areLiterals_43 ?_
          refine lv_iload_n hx hb dX3_areLiterals_44 rfl (lv_at hl 3 rfl) ?_
          have hR := xP0 hPr xnN hS
          refine xro_i (va_runS (As := [.int a3]) (rest := [.int ((f_countIfPresent a1) + (f_countIfPresent a2))]) ⟨hx, hb, hml, hown, hts⟩ (c_countIfPresent l dC dI cI cL cZ ad hinj a3) (xcwS 1 hts wd_382 wd_34 wd_380 wd_381 rfl rfl (by decide +kernel) ⟨Nat.le_of_ble_eq_true rfl, Nat.le_of_ble_eq_true rfl⟩) (xpreS xPn hK) rfl rfl hl.1 rfl (lv_room (Nat.le_of_ble_eq_true rfl)) dX3_areLiterals_45 ⟨Nat.le_of_ble_eq_true rfl, Nat.le_of_ble_eq_true rfl⟩) hS (fun H locs hk hS => ?_)
          refine lv_iadd hx hb dX3_areLiterals_48 ?_
          refine lv_iload hx hb dX3_areLiterals_49 (lv_at hl 4 rfl) ?_
          have hR := xP0 hPr xnN hS
          refine xro_i (va_runS (As := [.int a4]) (rest := [.int (((f_countIfPresent a1) + (f_countIfPresent a2)) + (f_countIfPresent a3))]) ⟨hx, hb, hml, hown, hts⟩ (c_countIfPresent l dC dI cI cL cZ ad hinj a4) (xcwS 1 hts wd_382 wd_34 wd_380 wd_381 rfl rfl (by decide +kernel) ⟨Nat.le_of_ble_eq_true rfl, Nat.le_of_ble_eq_true rfl⟩) (xpreS xPn hK) rfl rfl hl.1 rfl (lv_room (Nat.le_of_ble_eq_true rfl)) dX3_areLiterals_51 ⟨Nat.le_of_ble_eq_true rfl, Nat.le_of_ble_eq_true rfl⟩) hS (fun H locs hk hS => ?_)
          refine lv_iadd hx hb dX3_areLiterals_54 ?_
          refine lv_istore (lv' := [(5, .int ((((f_countIfPresent a1) + (f_countIfPresent a2)) + (f_countIfPresent a3)) + (f_countIfPresent a4))), (0, .ref (ad 0)), (1, .int a1), (2, .int a2), (3, .int a3), (4, .int a4)]) hx hb dX3_areLiterals_55 hl (by decide) rfl (fun ls hl => ?_)
          refine lv_iload_n hx hb dX3_areLiterals_57 rfl (lv_at hl 2 rfl) ?_
          have hR := xP0 hPr xnN hS
          refine xro_i (va_runS (As := [.int a1]) (rest := []) ⟨hx, hb, hml, hown, hts⟩ (c_variableBit l dC dI cI cL cZ ad hinj a1) (xcwS 1 hts wd_385 wd_34 wd_383 wd_384 rfl rfl (by decide +kernel) ⟨Nat.le_of_ble_eq_true rfl, Nat.le_of_ble_eq_true rfl⟩) (xpreS xPn hK) rfl rfl hl.1 rfl (lv_room (Nat.le_of_ble_eq_true rfl)) dX3_areLiterals_58 ⟨Nat.le_of_ble_eq_true rfl, Nat.le_of_ble_eq_true rfl⟩) hS (fun H locs hk hS => ?_)
          refine lv_iload_n hx hb dX3_areLiterals_61 rfl (lv_at hl 3 rfl) ?_
          have hR := xP0 hPr xnN hS
          refine xro_i (va_runS (As := [.int a2]) (rest := [.int (f_variableBit a1)]) ⟨hx, hb, hml, hown, hts⟩ (c_variableBit l dC dI cI cL cZ ad hinj a2) (xcwS 1 hts wd_385 wd_34 wd_383 wd_384 rfl rfl (by decide +kernel) ⟨Nat.le_of_ble_eq_true rfl, Nat.le_of_ble_eq_true rfl⟩) (xpreS xPn hK) rfl rfl hl.1 rfl (lv_room (Nat.le_of_ble_eq_true rfl)) dX3_areLiterals_62 ⟨Nat.le_of_ble_eq_true rfl, Nat.le_of_ble_eq_true rfl⟩) hS (fun H locs hk hS => ?_)
          refine lv_ior hx hb dX3_areLiterals_65 ?_
          refine lv_iload_n hx hb dX3_areLiterals_66 rfl (lv_at hl 4 rfl) ?_
          have hR := xP0 hPr xnN hS
          refine xro_i (va_runS (As := [.int a3]) (rest := [.int ((f_variableBit a1) ||| (f_variableBit a2))]) ⟨hx, hb, hml, hown, hts⟩ (c_variableBit l dC dI cI cL cZ ad hinj a3) (xcwS 1 hts wd_385 wd_34 wd_383 wd_384 rfl rfl (by decide +kernel) ⟨Nat.le_of_ble_eq_true rfl, Nat.le_of_ble_eq_true rfl⟩) (xpreS xPn hK) rfl rfl hl.1 rfl (lv_room (Nat.le_of_ble_eq_true rfl)) dX3_areLiterals_67 ⟨Nat.le_of_ble_eq_true rfl, Nat.le_of_ble_eq_true rfl⟩) hS (fun H locs hk hS => ?_)
          refine lv_ior hx hb dX3_areLiterals_70 ?_
          refine lv_iload hx hb dX3_areLiterals_71 (lv_at hl 5 rfl) ?_
          have hR := xP0 hPr xnN hS
          refine xro_i (va_runS (As := [.int a4]) (rest := [.int (((f_variableBit a1) ||| (f_variableBit a2)) ||| (f_variableBit a3))]) ⟨hx, hb, hml, hown, hts⟩ (c_variableBit l dC dI cI cL cZ ad hinj a4) (xcwS 1 hts wd_385 wd_34 wd_383 wd_384 rfl rfl (by decide +kernel) ⟨Nat.le_of_ble_eq_true rfl, Nat.le_of_ble_eq_true rfl⟩) (xpreS xPn hK) rfl rfl hl.1 rfl (lv_room (Nat.le_of_ble_eq_true rfl)) dX3_areLiterals_73 ⟨Nat.le_of_ble_eq_true rfl, Nat.le_of_ble_eq_true rfl⟩) hS (fun H locs hk hS => ?_)
          refine lv_ior hx hb dX3_areLiterals_76 ?_
          refine lv_istore (lv' := [(6, .int ((((f_variableBit a1) ||| (f_variableBit a2)) ||| (f_variableBit a3)) ||| (f_variableBit a4))), (5, .int ((((f_countIfPresent a1) + (f_countIfPresent a2)) + (f_countIfPresent a3)) + (f_countIfPresent a4))), (0, .ref (ad 0)), (1, .int a1), (2, .int a2), (3, .int a3), (4, .int a4)]) hx hb dX3_areLiterals_77 hl (by decide) rfl (fun ls hl => ?_)
          refine lv_iload hx hb dX3_areLiterals_79 (lv_at hl 1 rfl) ?_
          refine lv_if_le (tgt := 98) hx hb dX3_areLiterals_81 (by decide) (fun h5 => ?_) (fun h5 => ?_)
          · have hF := hF.trans (if_pos h5)
            refine lv_iconst (v := 0) hx hb dX3_areLiterals_98 (by decide) ?_
            exact W.zret (v := 0) hx hb hr rfl (fun t ht hW => ⟨⟨_, (), rfl, hF, trivial⟩, hS.F ht⟩) hS.2.2 dX3_areLiterals_99
          · have hF := hF.trans (if_neg h5)
            refine lv_iload hx hb dX3_areLiterals_84 (lv_at hl 0 rfl) ?_
            have hR := xP0 hPr xnN hS
            refine xro_i (va_runS (As := [.int ((((f_variableBit a1) ||| (f_variableBit a2)) ||| (f_variableBit a3)) ||| (f_variableBit a4))]) (rest := []) ⟨hx, hb, hml, hown, hts⟩ (c_bitCount l dC dI cI cL cZ ad hinj ((((f_variableBit a1) ||| (f_variableBit a2)) ||| (f_variableBit a3)) ||| (f_variableBit a4))) (xcwS 1 hts wd_290 wd_40 wd_392 wd_289 rfl rfl (by decide +kernel) ⟨Nat.le_of_ble_eq_true rfl, Nat.le_of_ble_eq_true rfl⟩) (xpreS xPn hK) rfl rfl hl.1 rfl (lv_room (Nat.le_of_ble_eq_true rfl)) dX3_areLiterals_86 ⟨Nat.le_of_ble_eq_true rfl, Nat.le_of_ble_eq_true rfl⟩) hS (fun H locs hk hS => ?_)
            refine lv_iload hx hb dX3_areLiterals_89 (lv_at hl 1 rfl) ?_
            refine lv_icmp_ne (tgt := 98) hx hb dX3_areLiterals_91 (by decide) (fun h6 => ?_) (fun h6 => ?_)
            · have hF := hF.trans (if_neg h6)
              refine lv_iconst (v := 0) hx hb dX3_areLiterals_98 (by decide) ?_
              exact W.zret (v := 0) hx hb hr rfl (fun t ht hW => ⟨⟨_, (), rfl, hF, trivial⟩, hS.F ht⟩) hS.2.2 dX3_areLiterals_99
            · have hF := hF.trans (if_pos h6)
              refine lv_iconst (v := 1) hx hb dX3_areLiterals_94 (by decide) ?_
              refine lv_goto (tgt := 99) hx hb dX3_areLiterals_95 (by decide) ?_
              exact W.zret (v := 1) hx hb hr rfl (fun t ht hW => ⟨⟨_, (), rfl, hF, trivial⟩, hS.F ht⟩) hS.2.2 dX3_areLiterals_99
        · have hF := hF.trans (if_pos h4)
          refine lv_iconst (v := 0) hx hb dX3_areLiterals_33 (by decide) ?_
          exact W.zret (v := 0) hx hb hr rfl (fun t ht hW => ⟨⟨_, (), rfl, hF, trivial⟩, hS.F ht⟩) hS.2.2 dX3_areLiterals_34
end
section
def f_solve (nv : Nat) (av : Int32) (nc : Nat) (mt mf wt : Nat → Int32) (lz : Nat) (ss : (Nat → Int64)) (sc : Nat) (avl : Int64) (gh : Int32) (gv : Int32) (sv : (Nat → Int32)) (sr : (Nat → Nat)) (st : Nat) (nd : Int32) (lc : Nat) (bc : Int64) (bv : Int32) (lh : (Nat → Int32)) (lw : (Nat → Int32)) (lb : (Nat → Int64)) (wh : (Nat → Int32)) (wv : (Nat → Int32)) (wc : Nat) : Int64 × (Nat → Int64) × Nat × Int64 × Int32 × Int32 × (Nat → Int32) × (Nat → Nat) × Nat × Int32 × Nat × Int64 × Int32 × (Nat → Int32) × (Nat → Int32) × (Nat → Int64) × (Nat → Int32) × (Nat → Int32) × Nat :=
  match (f_run nv av nc mt mf wt lz ss sc avl gh gv sv sr st nd lc bc bv lh lw lb wh wv wc) with
  | (ss1_4, sc1_4, avl1_4, gh1_4, gv1_4, sv1_4, sr1_4, st1_4, nd1_4, lc1_4, bc1_4, bv1_4, lh1_4, lw1_4, lb1_4, wh1_4, wv1_4, wc1_4) =>
    if (f_hasBest bc1_4) = 0 then
      ((-2), (ss1_4, sc1_4, avl1_4, gh1_4, gv1_4, sv1_4, sr1_4, st1_4, nd1_4, lc1_4, bc1_4, bv1_4, lh1_4, lw1_4, lb1_4, wh1_4, wv1_4, wc1_4))
    else
      (bc1_4, (ss1_4, sc1_4, avl1_4, gh1_4, gv1_4, sv1_4, sr1_4, st1_4, nd1_4, lc1_4, bc1_4, bv1_4, lh1_4, lw1_4, lb1_4, wh1_4, wv1_4, wc1_4))
set_option maxHeartbeats 4000000 in
set_option maxRecDepth 100000 in
theorem c_solve (l : Launch) (dC : Nat → ClassId) (dI : Nat → Nat → Nat) (cI cL cZ : ClassId) (ad : Nat → Nat) (hinj : xI ad 15) (nv : Nat) (av : Int32) (nc : Nat) (mt mf wt : Nat → Int32) (ss : Nat → Int64) (sc : Nat) (avl : Int64) (gh gv : Int32) (sv : Nat → Int32) (sr : Nat → Nat) (st : Nat) (lz : Nat) (nd : Int32) (lc : Nat) (bc : Int64) (bv : Int32) (lh lw : Nat → Int32) (lb : Nat → Int64) (wh wv : Nat → Int32) (wc : Nat) (hnc : nc ≤ 40) (hnv : nv ≤ 10) (hlz : lz ≤ 512) (hlc : lc ≤ lz) (hwc : wc ≤ 11) : Met l yX3_solve wsX3_solve ({ frames := 6, cells := 0, slots := 0, locals := 146 }) (va_Pc [.ref (ad 0)] (fun U => va_P (dC, dI) vwCl [(ad 0, .inr (3, [.ref (ad 1), .ref (ad 5), .ref (ad 9)])), (ad 1, .inr (1, [.int (nI nv), .int av, .int (nI nc), .ref (ad 2), .ref (ad 3), .ref (ad 4)])), (ad 2, .inl (cI, 40, .inl mt)), (ad 3, .inl (cI, 40, .inl mf)), (ad 4, .inl (cI, 40, .inl wt)), (ad 5, .inr (0, [.ref (ad 1), .ref (ad 6), .int (nI sc), .long avl, .int gh, .int gv, .ref (ad 7), .ref (ad 8), .int (nI st)])), (ad 6, .inl (cL, 40, .inr (.inl ss))), (ad 7, .inl (cI, 10, .inl sv)), (ad 8, .inl (cI, 10, .inl (xnI sr))), (ad 9, .inr (2, [.int nd, .int (nI lc), .long bc, .int bv, .ref (ad 10), .ref (ad 11), .ref (ad 12), .ref (ad 1), .ref (ad 5), .ref (ad 13), .ref (ad 14), .int (nI wc)])), (ad 10, .inl (cI, lz, .inl lh)), (ad 11, .inl (cI, lz, .inl lw)), (ad 12, .inl (cL, lz, .inr (.inl lb))), (ad 13, .inl (cI, 11, .inl wh)), (ad 14, .inl (cI, 11, .inl wv))] U.heap ∧ va_K (dC, dI) vwCl [(cI, .int), (cL, .long), (cZ, .boolean)] U)) (va_Ql (fun r u => f_solve nv av nc mt mf wt lz ss sc avl gh gv sv sr st nd lc bc bv lh lw lb wh wv wc = (r, u)) (xB (dC, dI) vwCl (fun (u : (Nat → Int64) × Nat × Int64 × Int32 × Int32 × (Nat → Int32) × (Nat → Nat) × Nat × Int32 × Nat × Int64 × Int32 × (Nat → Int32) × (Nat → Int32) × (Nat → Int64) × (Nat → Int32) × (Nat → Int32) × Nat) => match u with | (ss1, sc1, avl1, gh1, gv1, sv1, sr1, st1, nd1, lc1, bc1, bv1, lh1, lw1, lb1, wh1, wv1, wc1) => [(ad 5, .inr (0, [.ref (ad 1), .ref (ad 6), .int (nI sc1), .long avl1, .int gh1, .int gv1, .ref (ad 7), .ref (ad 8), .int (nI st1)])), (ad 6, .inl (cL, 40, .inr (.inl ss1))), (ad 7, .inl (cI, 10, .inl sv1)), (ad 8, .inl (cI, 10, .inl (xnI sr1))), (ad 9, .inr (2, [.int nd1, .int (nI lc1), .long bc1, .int bv1, .ref (ad 10), .ref (ad 11), .ref (ad 12), .ref (ad 1), .ref (ad 5), .ref (ad 13), .ref (ad 14), .int (nI wc1)])), (ad 10, .inl (cI, lz, .inl lh1)), (ad 11, .inl (cI, lz, .inl lw1)), (ad 12, .inl (cL, lz, .inr (.inl lb1))), (ad 13, .inl (cI, 11, .inl wh1)), (ad 14, .inl (cI, 11, .inl wv1))])) (xA ad [5, 6, 7, 8, 9, 10, 11, 12, 13, 14])) 0 0 (xA ad [5, 6, 7, 8, 9, 10, 11, 12, 13, 14]) := by
  refine Met.ofW (cc := cX3_solve) (maxL := 1) (ret := (some .long)) (by decide) rfl ?_
  intro p e s m args below meth c s₁ B hml hvv
  obtain ⟨rfl, hP0, hK⟩ := hvv
  have hx := B.exec
  have hb := B.bytes
  have hr := B.returns
  have hts := atoms_spec (ws := wsX3_solve) B.pre
  have hown : s.vm.findClass RX3 = some m.cls := findClass_of_methodNamed B.named
  have hlocks := B.notSynchronized
  have hw0 : (.fieldLink RX3 41 "WeightedClauses" "search" "LWeightedClauses$Search;" : Cond).before _ s = true := hts _ (List.mem_cons_of_mem _ wd_180)
  have hw1 : (.constantLong RX3 116 (-2) : Cond).before _ s = true := hts _ (List.mem_cons_of_mem _ wd_330)
  have hw2 : (.fieldLink RX3 112 "WeightedClauses$Search" "bestCost" "J" : Cond).before _ s = true := hts _ (List.mem_cons_of_mem _ wd_139)
  have hPr : va_P (dC, dI) vwCl [(ad 0, .inr (3, [.ref (ad 1), .ref (ad 5), .ref (ad 9)])), (ad 1, .inr (1, [.int (nI nv), .int av, .int (nI nc), .ref (ad 2), .ref (ad 3), .ref (ad 4)])), (ad 2, .inl (cI, 40, .inl mt)), (ad 3, .inl (cI, 40, .inl mf)), (ad 4, .inl (cI, 40, .inl wt))] s.heap := hP0.sub [0, 1, 2, 3, 4] rfl
  have hP : va_P (dC, dI) vwCl [(ad 5, .inr (0, [.ref (ad 1), .ref (ad 6), .int (nI sc), .long avl, .int gh, .int gv, .ref (ad 7), .ref (ad 8), .int (nI st)])), (ad 6, .inl (cL, 40, .inr (.inl ss))), (ad 7, .inl (cI, 10, .inl sv)), (ad 8, .inl (cI, 10, .inl (xnI sr))), (ad 9, .inr (2, [.int nd, .int (nI lc), .long bc, .int bv, .ref (ad 10), .ref (ad 11), .ref (ad 12), .ref (ad 1), .ref (ad 5), .ref (ad 13), .ref (ad 14), .int (nI wc)])), (ad 10, .inl (cI, lz, .inl lh)), (ad 11, .inl (cI, lz, .inl lw)), (ad 12, .inl (cL, lz, .inr (.inl lb))), (ad 13, .inl (cI, 11, .inl wh)), (ad 14, .inl (cI, 11, .inl wv))] s.heap := hP0.sub [5, 6, 7, 8, 9, 10, 11, 12, 13, 14] rfl
  have hS : va_S (xA ad [5, 6, 7, 8, 9, 10, 11, 12, 13, 14]) s.heap s.heap [] := va_S.rf
  have hl := lv_entry [.ref (ad 0)] (n := 1) (Nat.le_of_ble_eq_true rfl)
  rw [lg_entry_eq]
  generalize (lg_sl [.ref (ad 0)] ++ List.replicate (1 - (lg_sl [.ref (ad 0)]).length) Slot.unset).toArray = ls at hl ⊢
  have hl : lv_has ls 1 [(0, .ref (ad 0))] := hl
  have hF := Eq.refl (f_solve nv av nc mt mf wt lz ss sc avl gh gv sv sr st nd lc bc bv lh lw lb wh wv wc)
  conv at hF => rhs; unfold f_solve
  refine lv_aload_n hx hb dX3_solve_0 rfl (lv_at hl 0 rfl) ?_
  have hR := xP0 hPr (xnA hinj [0, 1, 2, 3, 4] rfl (by decide)) hS
  refine va_get (D := (dC, dI)) (ci := 3) (v := .ref (ad 9)) (C := RX3) (T := TX3) (N := 3) hx hb hts (xcons inX3) hown hK hR 0 rfl rfl 2 (by decide) hw0 (fun _ h9 => h9) rfl dX3_solve_1 ?_
  refine xrw_v (va_runV (As := []) (rest := []) ⟨hx, hb, hml, hown, hts⟩ (c_run l dC dI cI cL cZ ad hinj nv av nc mt mf wt ss sc avl gh gv sv sr st lz nd lc bc bv lh lw lb wh wv wc (by omega) (by omega) (by omega) (by omega) (by omega)) (xcwV 0 hts wd_216 wd_38 wd_213 wd_214 wd_215 rfl rfl (by decide +kernel) ⟨Nat.le_of_ble_eq_true rfl, Nat.le_of_ble_eq_true rfl⟩) (xpreV (va_recv hK hP rfl (q0 := 4) rfl) ((hR.app hP).sub [1, 2, 3, 4, 5, 6, 7, 8, 9, 10, 11, 12, 13, 14] rfl) hK) rfl rfl hl.1 rfl (lv_room (Nat.le_of_ble_eq_true rfl)) dX3_solve_4 ⟨Nat.le_of_ble_eq_true rfl, Nat.le_of_ble_eq_true rfl⟩) hS (xAsub (by decide)) (fun u H locs h1 hB hk hS => ?_)
  obtain ⟨ss1_4, sc1_4, avl1_4, gh1_4, gv1_4, sv1_4, sr1_4, st1_4, nd1_4, lc1_4, bc1_4, bv1_4, lh1_4, lw1_4, lb1_4, wh1_4, wv1_4, wc1_4⟩ := u
  have hP : va_P (dC, dI) vwCl [(ad 5, .inr (0, [.ref (ad 1), .ref (ad 6), .int (nI sc1_4), .long avl1_4, .int gh1_4, .int gv1_4, .ref (ad 7), .ref (ad 8), .int (nI st1_4)])), (ad 6, .inl (cL, 40, .inr (.inl ss1_4))), (ad 7, .inl (cI, 10, .inl sv1_4)), (ad 8, .inl (cI, 10, .inl (xnI sr1_4))), (ad 9, .inr (2, [.int nd1_4, .int (nI lc1_4), .long bc1_4, .int bv1_4, .ref (ad 10), .ref (ad 11), .ref (ad 12), .ref (ad 1), .ref (ad 5), .ref (ad 13), .ref (ad 14), .int (nI wc1_4)])), (ad 10, .inl (cI, lz, .inl lh1_4)), (ad 11, .inl (cI, lz, .inl lw1_4)), (ad 12, .inl (cL, lz, .inr (.inl lb1_4))), (ad 13, .inl (cI, 11, .inl wh1_4)), (ad 14, .inl (cI, 11, .inl wv1_4))] H := va_P.sub hB [0, 1, 2, 3, 4, 5, 6, 7, 8, 9] rfl
  rw [h1] at hF
  dsimp only at hF
  refine lv_aload_n hx hb dX3_solve_7 rfl (lv_at hl 0 rfl) ?_
  have hR := xP0 hPr (xnA hinj [0, 1, 2, 3, 4] rfl (by decide)) hS
  refine va_get (D := (dC, dI)) (ci := 3) (v := .ref (ad 9)) (C := RX3) (T := TX3) (N := 3) hx hb hts (xcons inX3) hown hK hR 0 rfl rfl 2 (by decide) hw0 (fun _ h9 => h9) rfl dX3_solve_8 ?_
  refine xro_i (va_runV (As := []) (rest := []) ⟨hx, hb, hml, hown, hts⟩ (c_hasBest l dC dI cI cL cZ ad hinj lz nd1_4 lc1_4 bc1_4 bv1_4 lh1_4 lw1_4 lb1_4 wh1_4 wv1_4 wc1_4) (xcwV 0 hts wd_243 wd_38 wd_329 wd_241 wd_242 rfl rfl (by decide +kernel) ⟨Nat.le_of_ble_eq_true rfl, Nat.le_of_ble_eq_true rfl⟩) (xpreV (va_recv hK hP rfl (q0 := 4) rfl) (hP.sub [4, 5, 6, 7, 8, 9] rfl) hK) rfl rfl hl.1 rfl (lv_room (Nat.le_of_ble_eq_true rfl)) dX3_solve_11 ⟨Nat.le_of_ble_eq_true rfl, Nat.le_of_ble_eq_true rfl⟩) hS (fun H locs hk hS => ?_)
  have hP := xkeep hP hk
  refine lv_if_eq (tgt := 27) hx hb dX3_solve_14 (by decide) (fun h2 => ?_) (fun h2 => ?_)
  · have hF := hF.trans (if_pos h2)
    refine lv_ldc2 hx hb hown hw1 dX3_solve_27 ?_
    exact W.lret (v := (-2)) hx hb hr (fun t ht hW => ⟨⟨_, (ss1_4, sc1_4, avl1_4, gh1_4, gv1_4, sv1_4, sr1_4, st1_4, nd1_4, lc1_4, bc1_4, bv1_4, lh1_4, lw1_4, lb1_4, wh1_4, wv1_4, wc1_4), rfl, hF, xBi ht hP⟩, hS.F ht⟩) hS.2.2 dX3_solve_30
  · have hF := hF.trans (if_neg h2)
    refine lv_aload_n hx hb dX3_solve_17 rfl (lv_at hl 0 rfl) ?_
    have hR := xP0 hPr (xnA hinj [0, 1, 2, 3, 4] rfl (by decide)) hS
    refine va_get (D := (dC, dI)) (ci := 3) (v := .ref (ad 9)) (C := RX3) (T := TX3) (N := 3) hx hb hts (xcons inX3) hown hK hR 0 rfl rfl 2 (by decide) hw0 (fun _ h9 => h9) rfl dX3_solve_18 ?_
    refine va_get (D := (dC, dI)) (ci := 2) (v := .long bc1_4) (C := RX2) (T := TX2) (N := 12) hx hb hts (xcons inX2) hown hK hP 4 rfl rfl 2 (by decide) hw2 (fun _ h9 => h9) rfl dX3_solve_21 ?_
    refine lv_goto (tgt := 30) hx hb dX3_solve_24 (by decide) ?_
    exact W.lret (v := bc1_4) hx hb hr (fun t ht hW => ⟨⟨_, (ss1_4, sc1_4, avl1_4, gh1_4, gv1_4, sv1_4, sr1_4, st1_4, nd1_4, lc1_4, bc1_4, bv1_4, lh1_4, lw1_4, lb1_4, wh1_4, wv1_4, wc1_4), rfl, hF, xBi ht hP⟩, hS.F ht⟩) hS.2.2 dX3_solve_30
end
section
def f_removeLast (nc : Nat) (mt mf wt : Nat → Int32) : Int32 × Nat × (Nat → Int32) × (Nat → Int32) × (Nat → Int32) :=
  ((nI (nc - 1)), ((nc - 1), mt, mf, wt))
def f_drop (nc : Nat) (mt mf wt : Nat → Int32) (nd : Int32) (lc : Nat) (bc : Int64) (bv : Int32) (wc : Nat) : Int32 × Nat × (Nat → Int32) × (Nat → Int32) × (Nat → Int32) × Int32 × Nat × Int64 × Int32 × Nat :=
  if (nI nc) = 0 then
    ((-1), (nc, mt, mf, wt, nd, lc, bc, bv, wc))
  else
    match f_forget with
    | (nd1_16, lc1_16, bc1_16, bv1_16, wc1_16) =>
      match (f_removeLast nc mt mf wt) with
      | (r_23, nc1_23, mt1_23, mf1_23, wt1_23) =>
        (r_23, (nc1_23, mt1_23, mf1_23, wt1_23, nd1_16, lc1_16, bc1_16, bv1_16, wc1_16))
set_option maxHeartbeats 4000000 in
set_option maxRecDepth 100000 in
theorem c_removeLast (l : Launch) (dC : Nat → ClassId) (dI : Nat → Nat → Nat) (cI cL cZ : ClassId) (ad : Nat → Nat) (hinj : xI ad 15) (nv : Nat) (av : Int32) (nc : Nat) (mt mf wt : Nat → Int32) (hnc : nc ≤ 40) : Met l yX1_removeLast wsX1_removeLast ({ frames := 1, cells := 0, slots := 0, locals := 14 }) (va_Pc [.ref (ad 1)] (fun U => va_P (dC, dI) vwCl [(ad 1, .inr (1, [.int (nI nv), .int av, .int (nI nc), .ref (ad 2), .ref (ad 3), .ref (ad 4)])), (ad 2, .inl (cI, 40, .inl mt)), (ad 3, .inl (cI, 40, .inl mf)), (ad 4, .inl (cI, 40, .inl wt))] U.heap ∧ va_K (dC, dI) vwCl [(cI, .int), (cL, .long), (cZ, .boolean)] U)) (va_Qi (fun r u => f_removeLast nc mt mf wt = (r, u)) (xB (dC, dI) vwCl (fun (u : Nat × (Nat → Int32) × (Nat → Int32) × (Nat → Int32)) => match u with | (nc1, mt1, mf1, wt1) => [(ad 1, .inr (1, [.int (nI nv), .int av, .int (nI nc1), .ref (ad 2), .ref (ad 3), .ref (ad 4)])), (ad 2, .inl (cI, 40, .inl mt1)), (ad 3, .inl (cI, 40, .inl mf1)), (ad 4, .inl (cI, 40, .inl wt1))])) (xA ad [1, 2, 3, 4])) 0 0 (xA ad [1, 2, 3, 4]) := by
  refine Met.ofW (cc := cX1_removeLast) (maxL := 1) (ret := (some .int)) (by decide) rfl ?_
  intro p e s m args below meth c s₁ B hml hvv
  obtain ⟨rfl, hP0, hK⟩ := hvv
  have hx := B.exec
  have hb := B.bytes
  have hr := B.returns
  have hts := atoms_spec (ws := wsX1_removeLast) B.pre
  have hown : s.vm.findClass RX1 = some m.cls := findClass_of_methodNamed B.named
  have hlocks := B.notSynchronized
  have hw0 : (.fieldLink RX1 28 "WeightedClauses$Formula" "clauseCount" "I" : Cond).before _ s = true := hts _ (List.mem_cons_of_mem _ wd_72)
  have hw1 : (.methodLink RX1 31 Lib.Math.max.name : Cond).before _ s = true := hts _ (List.mem_cons_of_mem _ wd_204)
  have hw2 : (.static Lib.Math.max.name : Cond).before _ s = true := hts _ (List.mem_cons_of_mem _ wd_60)
  have hw3 : (.initialized "java/lang/Math" : Cond).before _ s = true := hts _ (List.mem_cons_of_mem _ wd_36)
  have hcw4 := hts (.code Lib.Math.max.name Lib.Math.max.code 2 (some .int)) (by decide +kernel)
  have hP : va_P (dC, dI) vwCl [(ad 1, .inr (1, [.int (nI nv), .int av, .int (nI nc), .ref (ad 2), .ref (ad 3), .ref (ad 4)])), (ad 2, .inl (cI, 40, .inl mt)), (ad 3, .inl (cI, 40, .inl mf)), (ad 4, .inl (cI, 40, .inl wt))] s.heap := hP0.sub [0, 1, 2, 3] rfl
  have hS : va_S (xA ad [1, 2, 3, 4]) s.heap s.heap [] := va_S.rf
  have hl := lv_entry [.ref (ad 1)] (n := 1) (Nat.le_of_ble_eq_true rfl)
  rw [lg_entry_eq]
  generalize (lg_sl [.ref (ad 1)] ++ List.replicate (1 - (lg_sl [.ref (ad 1)]).length) Slot.unset).toArray = ls at hl ⊢
  have hl : lv_has ls 1 [(0, .ref (ad 1))] := hl
  have hF := Eq.refl (f_removeLast nc mt mf wt)
  conv at hF => rhs; unfold f_removeLast
  refine lv_aload_n hx hb dX1_removeLast_0 rfl (lv_at hl 0 rfl) ?_
  refine lv_iconst (v := 0) hx hb dX1_removeLast_1 (by decide) ?_
  refine lv_aload_n hx hb dX1_removeLast_2 rfl (lv_at hl 0 rfl) ?_
  refine va_get (D := (dC, dI)) (ci := 1) (v := .int (nI nc)) (C := RX1) (T := TX1) (N := 6) hx hb hts (xcons inX1) hown hK hP 0 rfl rfl 2 (by decide) hw0 (fun _ h9 => h9) rfl dX1_removeLast_3 ?_
  refine lv_iconst (v := 1) hx hb dX1_removeLast_6 (by decide) ?_
  refine lv_isub hx hb dX1_removeLast_7 ?_
  refine va_mmax hx hb (hml.trans hl.1.symm) hown hw1 hw2 hw3 hcw4 (Nat.le_of_ble_eq_true rfl) (Nat.le_of_ble_eq_true rfl) (Nat.zero_le _) (Nat.zero_le _) dX1_removeLast_8 ?_
  rw [xmaxpred hnc]
  refine va_put (D := (dC, dI)) (ci := 1) (v := .int (nI (nc - 1))) (ty := .int) (C := RX1) (T := TX1) (N := 6) hx hb hts (xcons inX1) tyX1 tyX1_ok nX1 hown hK hP (xD hinj [1, 2, 3, 4] rfl (by decide) (by decide)) hS 0 rfl rfl 2 (by decide) hw0 (fun _ h9 => h9) rfl (by decide +kernel) rfl rfl (Nat.le_of_ble_eq_true rfl) dX1_removeLast_11 (fun H locs hP _ hS => ?_)
  have hP : va_P (dC, dI) vwCl [(ad 1, .inr (1, [.int (nI nv), .int av, .int (nI (nc - 1)), .ref (ad 2), .ref (ad 3), .ref (ad 4)])), (ad 2, .inl (cI, 40, .inl mt)), (ad 3, .inl (cI, 40, .inl mf)), (ad 4, .inl (cI, 40, .inl wt))] H := hP
  refine lv_aload_n hx hb dX1_removeLast_14 rfl (lv_at hl 0 rfl) ?_
  refine va_get (D := (dC, dI)) (ci := 1) (v := .int (nI (nc - 1))) (C := RX1) (T := TX1) (N := 6) hx hb hts (xcons inX1) hown hK hP 0 rfl rfl 2 (by decide) hw0 (fun _ h9 => h9) rfl dX1_removeLast_15 ?_
  exact W.iret (v := (nI (nc - 1))) hx hb hr (fun t ht hW => ⟨⟨_, ((nc - 1), mt, mf, wt), rfl, hF, xBi ht hP⟩, hS.F ht⟩) hS.2.2 dX1_removeLast_18
set_option maxHeartbeats 4000000 in
set_option maxRecDepth 100000 in
theorem c_drop (l : Launch) (dC : Nat → ClassId) (dI : Nat → Nat → Nat) (cI cL cZ : ClassId) (ad : Nat → Nat) (hinj : xI ad 15) (nv : Nat) (av : Int32) (nc : Nat) (mt mf wt : Nat → Int32) (lz : Nat) (nd : Int32) (lc : Nat) (bc : Int64) (bv : Int32) (lh lw : Nat → Int32) (lb : Nat → Int64) (wh wv : Nat → Int32) (wc : Nat) (hnc : nc ≤ 40) : Met l yX3_drop wsX3_drop ({ frames := 2, cells := 0, slots := 0, locals := 34 }) (va_Pc [.ref (ad 0)] (fun U => va_P (dC, dI) vwCl [(ad 0, .inr (3, [.ref (ad 1), .ref (ad 5), .ref (ad 9)])), (ad 1, .inr (1, [.int (nI nv), .int av, .int (nI nc), .ref (ad 2), .ref (ad 3), .ref (ad 4)])), (ad 2, .inl (cI, 40, .inl mt)), (ad 3, .inl (cI, 40, .inl mf)), (ad 4, .inl (cI, 40, .inl wt)), (ad 9, .inr (2, [.int nd, .int (nI lc), .long bc, .int bv, .ref (ad 10), .ref (ad 11), .ref (ad 12), .ref (ad 1), .ref (ad 5), .ref (ad 13), .ref (ad 14), .int (nI wc)])), (ad 10, .inl (cI, lz, .inl lh)), (ad 11, .inl (cI, lz, .inl lw)), (ad 12, .inl (cL, lz, .inr (.inl lb))), (ad 13, .inl (cI, 11, .inl wh)), (ad 14, .inl (cI, 11, .inl wv))] U.heap ∧ va_K (dC, dI) vwCl [(cI, .int), (cL, .long), (cZ, .boolean)] U)) (va_Qi (fun r u => f_drop nc mt mf wt nd lc bc bv wc = (r, u)) (xB (dC, dI) vwCl (fun (u : Nat × (Nat → Int32) × (Nat → Int32) × (Nat → Int32) × Int32 × Nat × Int64 × Int32 × Nat) => match u with | (nc1, mt1, mf1, wt1, nd1, lc1, bc1, bv1, wc1) => [(ad 1, .inr (1, [.int (nI nv), .int av, .int (nI nc1), .ref (ad 2), .ref (ad 3), .ref (ad 4)])), (ad 2, .inl (cI, 40, .inl mt1)), (ad 3, .inl (cI, 40, .inl mf1)), (ad 4, .inl (cI, 40, .inl wt1)), (ad 9, .inr (2, [.int nd1, .int (nI lc1), .long bc1, .int bv1, .ref (ad 10), .ref (ad 11), .ref (ad 12), .ref (ad 1), .ref (ad 5), .ref (ad 13), .ref (ad 14), .int (nI wc1)])), (ad 10, .inl (cI, lz, .inl lh)), (ad 11, .inl (cI, lz, .inl lw)), (ad 12, .inl (cL, lz, .inr (.inl lb))), (ad 13, .inl (cI, 11, .inl wh)), (ad 14, .inl (cI, 11, .inl wv))])) (xA ad [1, 2, 3, 4, 9, 10, 11, 12, 13, 14])) 0 0 (xA ad [1, 2, 3, 4, 9, 10, 11, 12, 13, 14]) := by
  refine Met.ofW (cc := cX3_drop) (maxL := 1) (ret := (some .int)) (by decide) rfl ?_
  intro p e s m args below meth c s₁ B hml hvv
  obtain ⟨rfl, hP0, hK⟩ := hvv
  have hx := B.exec
  have hb := B.bytes
  have hr := B.returns
  have hts := atoms_spec (ws := wsX3_drop) B.pre
  have hown : s.vm.findClass RX3 = some m.cls := findClass_of_methodNamed B.named
  have hlocks := B.notSynchronized
  have hw0 : (.fieldLink RX3 23 "WeightedClauses" "formula" "LWeightedClauses$Formula;" : Cond).before _ s = true := hts _ (List.mem_cons_of_mem _ wd_178)
  have hw1 : (.fieldLink RX3 60 "WeightedClauses$Formula" "clauseCount" "I" : Cond).before _ s = true := hts _ (List.mem_cons_of_mem _ wd_73)
  have hw2 : (.fieldLink RX3 41 "WeightedClauses" "search" "LWeightedClauses$Search;" : Cond).before _ s = true := hts _ (List.mem_cons_of_mem _ wd_180)
  have hPr : va_P (dC, dI) vwCl [(ad 0, .inr (3, [.ref (ad 1), .ref (ad 5), .ref (ad 9)]))] s.heap := hP0.sub [0] rfl
  have hP : va_P (dC, dI) vwCl [(ad 1, .inr (1, [.int (nI nv), .int av, .int (nI nc), .ref (ad 2), .ref (ad 3), .ref (ad 4)])), (ad 2, .inl (cI, 40, .inl mt)), (ad 3, .inl (cI, 40, .inl mf)), (ad 4, .inl (cI, 40, .inl wt)), (ad 9, .inr (2, [.int nd, .int (nI lc), .long bc, .int bv, .ref (ad 10), .ref (ad 11), .ref (ad 12), .ref (ad 1), .ref (ad 5), .ref (ad 13), .ref (ad 14), .int (nI wc)])), (ad 10, .inl (cI, lz, .inl lh)), (ad 11, .inl (cI, lz, .inl lw)), (ad 12, .inl (cL, lz, .inr (.inl lb))), (ad 13, .inl (cI, 11, .inl wh)), (ad 14, .inl (cI, 11, .inl wv))] s.heap := hP0.sub [1, 2, 3, 4, 5, 6, 7, 8, 9, 10] rfl
  have hS : va_S (xA ad [1, 2, 3, 4, 9, 10, 11, 12, 13, 14]) s.heap s.heap [] := va_S.rf
  have hl := lv_entry [.ref (ad 0)] (n := 1) (Nat.le_of_ble_eq_true rfl)
  rw [lg_entry_eq]
  generalize (lg_sl [.ref (ad 0)] ++ List.replicate (1 - (lg_sl [.ref (ad 0)]).length) Slot.unset).toArray = ls at hl ⊢
  have hl : lv_has ls 1 [(0, .ref (ad 0))] := hl
  have hF := Eq.refl (f_drop nc mt mf wt nd lc bc bv wc)
  conv at hF => rhs; unfold f_drop
  refine lv_aload_n hx hb dX3_drop_0 rfl (lv_at hl 0 rfl) ?_
  have hR := xP0 hPr (xnA hinj [0] rfl (by decide)) hS
  refine va_get (D := (dC, dI)) (ci := 3) (v := .ref (ad 1)) (C := RX3) (T := TX3) (N := 3) hx hb hts (xcons inX3) hown hK hR 0 rfl rfl 0 (by decide) hw0 (fun _ h9 => h9) rfl dX3_drop_1 ?_
  refine va_get (D := (dC, dI)) (ci := 1) (v := .int (nI nc)) (C := RX1) (T := TX1) (N := 6) hx hb hts (xcons inX1) hown hK hP 0 rfl rfl 2 (by decide) hw1 (fun _ h9 => h9) rfl dX3_drop_4 ?_
  refine lv_if_ne (tgt := 12) hx hb dX3_drop_7 (by decide) (fun h1 => ?_) (fun h1 => ?_)
  · have hF := hF.trans (if_neg h1)
    refine lv_aload_n hx hb dX3_drop_12 rfl (lv_at hl 0 rfl) ?_
    refine va_get (D := (dC, dI)) (ci := 3) (v := .ref (ad 9)) (C := RX3) (T := TX3) (N := 3) hx hb hts (xcons inX3) hown hK hR 0 rfl rfl 2 (by decide) hw2 (fun _ h9 => h9) rfl dX3_drop_13 ?_
    refine xrw_v (va_runV (As := []) (rest := []) ⟨hx, hb, hml, hown, hts⟩ (c_forget l dC dI cI cL cZ ad hinj lz nd lc bc bv lh lw lb wh wv wc) (xcwV 0 hts wd_199 wd_38 wd_196 wd_197 wd_198 rfl rfl (by decide +kernel) ⟨Nat.le_of_ble_eq_true rfl, Nat.le_of_ble_eq_true rfl⟩) (xpreV (va_recv hK hP rfl (q0 := 4) rfl) (hP.sub [4, 5, 6, 7, 8, 9] rfl) hK) rfl rfl hl.1 rfl (lv_room (Nat.le_of_ble_eq_true rfl)) dX3_drop_16 ⟨Nat.le_of_ble_eq_true rfl, Nat.le_of_ble_eq_true rfl⟩) hS (xAsub (by decide)) (fun u H locs h2 hB hk hS => ?_)
    obtain ⟨nd1_16, lc1_16, bc1_16, bv1_16, wc1_16⟩ := u
    have hP : va_P (dC, dI) vwCl [(ad 1, .inr (1, [.int (nI nv), .int av, .int (nI nc), .ref (ad 2), .ref (ad 3), .ref (ad 4)])), (ad 2, .inl (cI, 40, .inl mt)), (ad 3, .inl (cI, 40, .inl mf)), (ad 4, .inl (cI, 40, .inl wt)), (ad 9, .inr (2, [.int nd1_16, .int (nI lc1_16), .long bc1_16, .int bv1_16, .ref (ad 10), .ref (ad 11), .ref (ad 12), .ref (ad 1), .ref (ad 5), .ref (ad 13), .ref (ad 14), .int (nI wc1_16)])), (ad 10, .inl (cI, lz, .inl lh)), (ad 11, .inl (cI, lz, .inl lw)), (ad 12, .inl (cL, lz, .inr (.inl lb))), (ad 13, .inl (cI, 11, .inl wh)), (ad 14, .inl (cI, 11, .inl wv))] H := ((xkeepA hP hk [0, 1, 2, 3] rfl (xnA hinj [1, 2, 3, 4] rfl (by decide))).app hB).sub [0, 1, 2, 3, 4, 5, 6, 7, 8, 9] rfl
    rw [h2] at hF
    dsimp only at hF
    refine lv_aload_n hx hb dX3_drop_19 rfl (lv_at hl 0 rfl) ?_
    have hR := xP0 hPr (xnA hinj [0] rfl (by decide)) hS
    refine va_get (D := (dC, dI)) (ci := 3) (v := .ref (ad 1)) (C := RX3) (T := TX3) (N := 3) hx hb hts (xcons inX3) hown hK hR 0 rfl rfl 0 (by decide) hw0 (fun _ h9 => h9) rfl dX3_drop_20 ?_
    refine xrw_i (va_runV (As := []) (rest := []) ⟨hx, hb, hml, hown, hts⟩ (c_removeLast l dC dI cI cL cZ ad hinj nv av nc mt mf wt (by omega)) (xcwV 0 hts wd_203 wd_35 wd_200 wd_201 wd_202 rfl rfl (by decide +kernel) ⟨Nat.le_of_ble_eq_true rfl, Nat.le_of_ble_eq_true rfl⟩) (xpreV (va_recv hK hP rfl (q0 := 0) rfl) (hP.sub [0, 1, 2, 3] rfl) hK) rfl rfl hl.1 rfl (lv_room (Nat.le_of_ble_eq_true rfl)) dX3_drop_23 ⟨Nat.le_of_ble_eq_true rfl, Nat.le_of_ble_eq_true rfl⟩) hS (xAsub (by decide)) (fun r_23 u H locs h3 hB hk hS => ?_)
    obtain ⟨nc1_23, mt1_23, mf1_23, wt1_23⟩ := u
    have hP : va_P (dC, dI) vwCl [(ad 1, .inr (1, [.int (nI nv), .int av, .int (nI nc1_23), .ref (ad 2), .ref (ad 3), .ref (ad 4)])), (ad 2, .inl (cI, 40, .inl mt1_23)), (ad 3, .inl (cI, 40, .inl mf1_23)), (ad 4, .inl (cI, 40, .inl wt1_23)), (ad 9, .inr (2, [.int nd1_16, .int (nI lc1_16), .long bc1_16, .int bv1_16, .ref (ad 10), .ref (ad 11), .ref (ad 12), .ref (ad 1), .ref (ad 5), .ref (ad 13), .ref (ad 14), .int (nI wc1_16)])), (ad 10, .inl (cI, lz, .inl lh)), (ad 11, .inl (cI, lz, .inl lw)), (ad 12, .inl (cL, lz, .inr (.inl lb))), (ad 13, .inl (cI, 11, .inl wh)), (ad 14, .inl (cI, 11, .inl wv))] H := ((xkeepA hP hk [4, 5, 6, 7, 8, 9] rfl (xnA hinj [9, 10, 11, 12, 13, 14] rfl (by decide))).app hB).sub [6, 7, 8, 9, 0, 1, 2, 3, 4, 5] rfl
    rw [h3] at hF
    dsimp only at hF
    exact W.iret (v := r_23) hx hb hr (fun t ht hW => ⟨⟨_, (nc1_23, mt1_23, mf1_23, wt1_23, nd1_16, lc1_16, bc1_16, bv1_16, wc1_16), rfl, hF, xBi ht hP⟩, hS.F ht⟩) hS.2.2 dX3_drop_26
  · have hF := hF.trans (if_pos h1)
    refine lv_iconst (v := (-1)) hx hb dX3_drop_10 (by decide) ?_
    exact W.iret (v := (-1)) hx hb hr (fun t ht hW => ⟨⟨_, (nc, mt, mf, wt, nd, lc, bc, bv, wc), rfl, hF, xBi ht hP⟩, hS.F ht⟩) hS.2.2 dX3_drop_11
end
section
/-! my own rows: a method that throws a new exception (no stack traces), a call that is caught -/
/-- y throws an exception of the class E, having changed nothing that was there -/
def xThr (l : Launch) (y : MethodName) (ws : List Cond) (rm : Room) (Pc : Array Value → State → Prop) (E : String) (mc ms : Nat) : Prop :=
  MetFree l y (headSpec ws rm) Pc (fun _ _ _ _ _ => True) (fun _ st o t => ∃ (x : Addr) (ce : Cell), o = .threw x ∧ t.heap[x]? = some ce ∧ ce.vm.isStatics = false ∧ st.vm.findClass E = some ce.cls ∧ st.WarmedH t.vm ∧ st.sameButNew ({ t with vm := st.vm } : State) [] mc ms)
def xTQ (below : List Frame) (E : String) (s : State) (mc ms : Nat) : State → Prop := fun t =>
  t.status = .running ∧ ∃ (x : Addr) (ce : Cell), Ended t below (.threw x) ∧ t.heap[x]? = some ce ∧ ce.vm.isStatics = false ∧ s.vm.findClass E = some ce.cls ∧ s.WarmedH t.vm ∧ s.sameButNew ({ t with vm := s.vm } : State) [] mc ms
theorem xThr.ofW {l : Launch} {y : MethodName} {ws ws' : List Cond} {rm : Room} {Pc : Array Value → State → Prop} {E : String} {mc ms : Nat} {cc : ByteArray} {maxL : Nat} {ret : Option FieldType}
    (hy : plainName y.cls = true) (hw : ws = Cond.code y cc maxL ret :: ws')
    (body : ∀ p e s m args below meth c s₁, BodyLoose p l y (headSpec ws rm) cc maxL ret e s m args below meth c s₁ → c.maxLocals = maxL → Pc args s →
      W p l e (headSpec ws rm).room s m args below meth c s.heap [] 0 0 (xTQ below E s mc ms) (entryFrame m args maxL)) : xThr l y ws rm Pc E mc ms := by
  refine MetFree.of_bodyS (code := cc) (maxLocals := maxL) (ret := ret) hy ?_ ?_
  · intro args s m h hn
    obtain ⟨meth, c, h1, h2, h3, h4, h5, h6, -, -⟩ := Cond.code_spec hn (atoms_spec (ws := ws) h _ (by rw [hw]; exact List.mem_cons_self))
    exact ⟨meth, c, h1, h2, h3, h4, h5, h6⟩
  · intro p e s m args below meth c s₁ B hml hP _
    have hh0 : s₁.heap = s.heap := by rw [B.state]; rfl
    obtain ⟨t, a1, b1, x, ce, b2, b3⟩ := body p e s m args below meth c s₁ B hml hP s₁ hh0 (Stand.of_body B)
    exact ⟨t, .threw x, a1, b1, b2, x, ce, rfl, b3⟩
section XT
variable {p : Program} {l : Launch} {e : Env} {R : Room} {s : State} {m : MethodId} {args : Array Value} {below : List Frame} {meth : Method} {c : Code} {H : Heap} {locs : List Loc} {cells slots : Nat} {Q : State → Prop}
/-- throw new E(): new; dup; invokespecial; athrow -/
theorem xthrow {cc : ByteArray} (hexec : p.tables.exec = Jvm.exec) (hb : c.code = cc) (hlt : ∀ e : Env, l.admits e → e.platform.stackTraces = false) (hlocks : meth.locks = false)
    {own cls : String} {names : List String} {ik ic : Nat} (hown : s.vm.findClass own = some m.cls) (hcls : Bundle.fit cls = true) (hnames : ∀ n ∈ names, Bundle.fit n = true)
    (hk : (Cond.classLink own ik cls).before args s = true) (hini : (Cond.initialized cls).before args s = true) (h : ∀ a ∈ Bundle.ownAtoms0 own ic cls names, a.before args s = true)
    (hS : va_S xN s.heap H locs) {pc : Nat} {ls : Array Slot} {rest : List Value} (hsize : ls.size = c.maxLocals)
    (d0 : decode cc pc = .ok (.new ik, 3)) (d3 : decode cc (pc + 3) = .ok (.dup, 1)) (d4 : decode cc (pc + 4) = .ok (.invokespecial ic, 3)) (d7 : decode cc (pc + 7) = .ok (.athrow, 1))
    (htab : c.exceptionTable.toList = []) (hRf : names.length + 3 < R.frames) (hRl : (rest.map fun v => v.category).sum + (13 * (names.length + 1) + 42) ≤ R.locals) {mc ms : Nat} (hmc : cells + 1 ≤ mc) (hms : slots + 6 ≤ ms) (hRc : cells + 1 ≤ R.cells) (hRs : slots + 6 ≤ R.slots) :
    W p l e R s m args below meth c H locs cells slots (xTQ below cls s mc ms) (F0 m pc ls rest) := by
  intro T hT X
  have hl0 : locs = [] := by
    cases locs with
    | nil => rfl
    | cons a t => exact (hS.2.2 a List.mem_cons_self).elim
  subst hl0
  subst hb
  have hins : (Cond.instantiable cls 6).before args s = true := h _ (by simp [Bundle.ownAtoms0])
  obtain ⟨vm₁, cX, kX, hfX, hkX, -, -, X₁, st1⟩ := X.newCold hexec (own := own) (C := cls) (index := ik) (n := 6) hown hk hins hini (g := F0 m pc ls rest) rfl d0 hRc hRs
  generalize hT1 : (T.setVm vm₁).pushCell { cls := cX, slots := kX.instanceTypes.map defaultValue, vm := .none } = T1 at X₁ st1
  have hcell : T1.heap[T.heap.size]? = some (freshCell cX kX) := by rw [← hT1]; exact State.heap_pushCell_size _ _
  have hgrow : s.heap.size ≤ T.heap.size := by rw [hT]; exact hS.1
  have hcat : (Value.ref T.heap.size).category = 1 := rfl
  have hmon : (F0 m (pc + 4) ls (.ref T.heap.size :: .ref T.heap.size :: rest)).monitorRoom = 0 := rfl
  obtain ⟨U, hsteps, hrun, hend, hW, hsame, ce, hce, hoc⟩ := X₁.ctorThrow0 hexec (hlt e X.admits) (own := own) (cls := cls) (names := names) (ic := ic) hown hcls hnames h (fun x hx => by cases hx) hfX hkX hcell hgrow
    (g := F0 m (pc + 4) ls (.ref T.heap.size :: .ref T.heap.size :: rest)) rfl hsize rfl rfl (rest := rest) rfl d4 d7 (fun x hx => by rw [htab] at hx; cases hx) hRf (by rw [hmon]; simp only [List.map_cons, List.sum_cons, hcat]; omega)
  refine ⟨U, st1 _ ?_, hrun, T.heap.size, ce, hend, hce, by rw [hoc.vm]; rfl, hoc.cls, hW, ?_⟩
  · show Steps p.tables e below (T1.setTop { method := m, pc := pc + 3, locals := ls, stack := .ref T.heap.size :: rest, locked := none }) _
    jvm_step X₁.here [X₁.here.top, hexec, d3, Value.category]
    exact hsteps
  · exact hsame.mono hmc hms
end XT
/-- the search through a table: which handler takes an object of the class 'thrown' at pc -/
def xTab (pl : Platform) (s₀ : State) (d : ClassId) (pc : Nat) (thrown : ClassId) (hp : Nat) : List ExceptionTableEntry → Prop
  | [] => False
  | x :: t => (covers x pc = false ∧ xTab pl s₀ d pc thrown hp t) ∨ (covers x pc = true ∧ x.catchType ≠ 0 ∧ ∃ c : ClassId, s₀.vm.ClassLinks pl d x.catchType c ∧ ((s₀.vm.assignable thrown c = true ∧ x.handlerPc = hp) ∨ (s₀.vm.assignable thrown c = false ∧ xTab pl s₀ d pc thrown hp t)))
theorem xgo {e : Env} {s₀ : State} {f : JFrame} {a : Addr} {cell : Cell} {hp : Nat} (hobj : ∀ k, cell.vm ≠ .statics k) {k0 : Class} (hk0 : s₀.vm.classes[cell.cls]? = some k0) :
    ∀ (tb : List ExceptionTableEntry) (S : State), s₀.WarmedH S.vm → S.heap[a]? = some cell → xTab e.platform s₀ f.method.cls f.pc cell.cls hp tb →
      ∃ vm', s₀.WarmedH vm' ∧ ∀ (Q : Handler → Pre) (E : CtlPost) (d : Bool) (acts : List Action), wp (findHandler.go f a tb) Q E e d acts S ↔ Q (.found hp) d acts (S.setVm vm') := by
  intro tb
  induction tb with
  | nil => intro S _ _ h; exact h.elim
  | cons x t ih =>
    intro S hW hcell h
    rcases h with ⟨hx, h⟩ | ⟨hx, h0, cc, hl, h⟩
    · obtain ⟨vm', hW', hq⟩ := ih S hW hcell h
      exact ⟨vm', hW', fun Q E d acts => by rw [Jvm.W.findHandler_go_skip hx]; exact hq Q E d acts⟩
    · obtain ⟨dk, _, _, kt, hd, _, _, _, _, hkt, _, hopen⟩ := hl.here
      have hlS := hW.classLinks hl
      obtain ⟨ha, htt⟩ := (resolveClass_links e.toSetting hlS).op (op := VmOp.resolveClass f.method.cls x.catchType) rfl
      have hWn := hW.noted hd hopen (State.rightAt_cls hl)
      obtain ⟨k1, hk1, -⟩ := hWn.alike.2.2 _ _ hk0
      obtain ⟨k2, hk2, -⟩ := hWn.alike.2.2 _ _ hkt
      have hcov : (decide (x.startPc ≤ f.pc) && decide (f.pc < x.endPc)) = true := hx
      rcases h with ⟨hfit, hpc⟩ | ⟨hno, h⟩
      · have hfit' : (S.vm.noted f.method.cls x.catchType (.cls cc)).assignable cell.cls cc = true := by rw [hWn.alike.assignable]; exact hfit
        subst hpc
        refine ⟨_, hWn, fun Q E d acts => ?_⟩
        simp [findHandler.go, hcov, h0, ha, htt, hcell, hobj, hk1, hk2, hfit', VmOp.dirties, VmOp.acts]
      · have hno' : (S.vm.noted f.method.cls x.catchType (.cls cc)).assignable cell.cls cc = false := by rw [hWn.alike.assignable]; exact hno
        obtain ⟨vm', hW', hq⟩ := ih (S.setVm (S.vm.noted f.method.cls x.catchType (.cls cc))) hWn hcell h
        refine ⟨vm', hW', fun Q E d acts => ?_⟩
        refine Iff.trans ?_ (hq Q E d acts)
        simp [findHandler.go, hcov, h0, ha, htt, hcell, hobj, hk1, hk2, hno', VmOp.dirties, VmOp.acts]
theorem xcaught {tb : Tables} {e : Env} {s target : State} {g : JFrame} {c : Code} {below : List Frame} {a : Addr} (h : At s g.method c below) {pc : Nat} {vm' : Vm}
    (hfind : ∀ (Q : Handler → Pre) (E : CtlPost) (d : Bool) (acts : List Action), wp (findHandler g a) Q E e d acts ((s.setTop g).pushFrame (.throwing a)) ↔ Q (.found pc) d acts (((s.setTop g).pushFrame (.throwing a)).setVm vm'))
    (hrest : Steps tb e below ((s.setVm vm').setTop { g with pc := pc, stack := [.ref a] }) target) : Steps tb e below ((s.setTop g).pushFrame (.throwing a)) target := by
  obtain ⟨hgo, hw⟩ := h.throwing a
  refine Steps.head hgo hw ?_
  have hstep : (stepThrowing e ((s.setTop g).pushFrame (.throwing a)) a (.java g :: s.frames.tail)).Is ((((s.setTop g).pushFrame (.throwing a)).setVm vm').setFrames (.java { g with pc := pc, stack := [.ref a] } :: s.frames.tail)) [] := by
    simp only [stepThrowing, searchFrame, vmDo]
    generalize hr : Sem.go _ e false [] ((s.setTop g).pushFrame (.throwing a)) = res
    obtain ⟨as, rfl, ha⟩ := Sem.eq_ok_of hr (a := Handler.found pc) (s' := ((s.setTop g).pushFrame (.throwing a)).setVm vm') (acts' := []) (by simp [hfind _ _ _ _])
    exact ⟨rfl, ha⟩
  rw [stepThread_throwing (frames_entered h.top _), hstep.1]
  obtain ⟨g₀, hg⟩ := Option.isSome_iff_exists.mp h.top
  obtain ⟨r, hr⟩ := State.topJava?_eq_some.mp hg
  have hr' : (s.setVm vm').frames = .java g₀ :: r := hr
  rw [State.setTop_of_frames _ hr'] at hrest
  have hv : ∀ (u : State) (F G : List Frame), ((u.setFrames F).setVm vm').setFrames G = (u.setVm vm').setFrames G := fun u F G => by
    have h1 : (u.setFrames F).setVm vm' = (u.setVm vm').setFrames F := rfl
    rw [h1, State.setFrames_setFrames]
  rw [hr, List.tail_cons, State.pushFrame, hv, State.setTop_of_frames _ hr, hv]
  exact hrest
/-- what a frame condition without slots says: every old cell is as it was -/
theorem xsame {s t : State} {k n : Nat} (h : s.sameButNew t [] k n) : ∀ q : Nat, q < s.heap.size → t.heap[q]? = s.heap[q]? := by
  intro q hq
  obtain ⟨-, -, -, -, -, h6⟩ := h
  obtain ⟨c', h1, h2, h3, h4⟩ := h6 q _ (Array.getElem?_eq_getElem hq)
  rw [h1, Array.getElem?_eq_getElem hq]
  have h5 : c'.slots = s.heap[q].slots := by
    apply Array.ext_getElem?
    intro i
    exact h4 i (fun hh => by cases hh)
  rw [h2, h5]
section XC
variable {p : Program} {l : Launch} {e : Env} {R : Room} {s : State} {m : MethodId} {args : Array Value} {below : List Frame} {meth : Method} {c : Code} {H : Heap} {locs : List Loc} {cells slots : Nat} {Q : State → Prop}
/-- a call by invokevirtual of a method that throws; the frame's own table takes it -/
theorem xcatch {cc bytes : ByteArray} {nL maxL mc ms n index : Nat} {ret : Option FieldType} {ws ws' Ts : List Cond} {rm : Room} {Pc : Array Value → State → Prop} {own C E : String} {y : MethodName} {b : Addr} {As rest : List Value} {pc : Nat} {ls : Array Slot} {st0 : List Value} {hp : Nat}
    (hM : xThr l y ws rm Pc E mc ms) (S : CallFix p m c cc nL s args Ts own) (cw : CallW R s args own C index y bytes maxL ret ws rm mc ms n) (hpre : PreV s H C b Pc As)
    (hn : As.length = n) (hsize : ls.size = nL) (hstack : st0 = As.reverse ++ .ref b :: rest) (hW : (rest.map fun v => v.category).sum ≤ 8) (hdg : decode cc pc = .ok (.invokevirtual index, 3)) (hf : cells + mc ≤ R.cells ∧ slots + ms ≤ R.slots)
    (htab : ∀ thrown : ClassId, s.vm.findClass E = some thrown → (∃ k, s.vm.classes[thrown]? = some k) ∧ xTab e.platform s m.cls pc thrown hp c.exceptionTable.toList)
    (kk : ∀ (x : Nat) (H1 : Heap), (∀ q : Nat, q < H.size → H1[q]? = H[q]?) → H.size ≤ H1.size → W p l e R s m args below meth c H1 locs (cells + mc) (slots + ms) Q (F0 m hp ls [.ref x])) : W p l e R s m args below meth c H locs cells slots Q (F0 m pc ls st0) := by
  obtain ⟨⟨hrc, hrs, hfr, hlo, hws, hcw, hcode, hini, hy, hlen, hl⟩, hin, hse⟩ := cw
  obtain ⟨hx, hb, hml, ho, -⟩ := S
  obtain ⟨hblind, ⟨cellB, hcB, hoB, hclB⟩, hPc⟩ := hpre
  intro T hT X
  subst hb
  obtain ⟨mk, methM, hnamed, hmethM, hstM, habM⟩ := Cond.instanceMethod_spec hin
  obtain ⟨methM', cM, hmethM', hcM, -, hlM, -, -, -, hsigM⟩ := Cond.code_spec hnamed hcode
  cases hmethM.symm.trans hmethM'
  obtain ⟨c2, r2, m2, q1, q2, q3, q4, kP, hkP, hkPi⟩ := Cond.selects_spec hse
  cases hclB.symm.trans q1
  cases (State.methodFound?_of_named hnamed hy).symm.trans q2
  cases hnamed.symm.trans q3
  have hselP : selectMethod e.platform s.vm cellB.cls mk = .method mk := by rw [Launch.admits_selectMethod X.admits]; exact q4
  obtain ⟨vm₁, X₁, hstep₁⟩ := X.invokevirtual hx ho hl hnamed hmethM hstM hkP hkPi hy (a := b) (cell := cellB) (by rw [hT]; exact hcB)
    (fun z h => by rw [h] at hoB; cases hoB) hselP hmethM habM hkP hkPi (g := F0 m pc ls st0) rfl (argsL := As) (rest := rest) (hn.trans (hlen _ hsigM)) hstack hdg
  generalize hU : T.setVm vm₁ = U at X₁ hstep₁
  have hUh : U.heap = H := by rw [← hU]; exact hT
  have h : At U m c below := X₁.here
  have hnU : U.methodNamed? y = some mk := X₁.named hnamed
  obtain ⟨kY, hkY, -⟩ := className_of_methodNamed hnU
  have hiniU : (Cond.initialized y.cls).before (Value.ref b :: As).toArray U = true := word_at X₁.warmed (Or.inl (by first | rfl | simp [Cond.onTables, Cond.keeps, Cond.steady])) hini
  have hinitY : kY.init = .initialized := Cond.initialized_spec (findClass_of_methodNamed hnU) hkY hiniU
  obtain ⟨methY, cY, hmY, hcY, -, hlY, -, -, -, -⟩ := Cond.code_spec hnU (hws _ hcw (Value.ref b :: As).toArray U X₁.warmed)
  have happ : (headSpec ws rm).appliesLoose y e.platform (U.calling (F0 m pc ls rest) mk (Value.ref b :: As).toArray) = true :=
    Spec.appliesLoose_calling (g := F0 m pc ls rest) h hdg hnU hkY hinitY
      (X₁.room_calling (g := F0 m pc ls rest) (R' := (headSpec ws rm).room) (hsize.trans hml.symm) hmY hcY hfr (by rw [hlY]; show 2 * 0 + (rest.map fun v => v.category).sum + (maxL + 11) + rm.locals ≤ R.locals; omega) (by show cells + rm.cells ≤ _; rw [hrc]; exact hf.1) (by show slots + rm.slots ≤ _; rw [hrs]; exact hf.2))
      (atoms_intro fun w hw => hws w hw _ _ X₁.warmed)
  obtain ⟨mid, hmid⟩ := h.above
  have hfrm : (U.setTop (F0 m pc ls rest)).frames = (.java (F0 m pc ls rest) :: mid) ++ below := by rw [State.frames_setTop' _ h.top, hmid]; rfl
  obtain ⟨o, s₂, hsteps, hrun, hend, hq⟩ := Steps.callFree hM p X.admits X.cas X.clock (acts := []) hfrm happ (hblind _ _ _ _ (hPc U hUh X₁.warmed)) trivial
  obtain ⟨x, ce, rfl, hce, hcv, hcl, hW₂, hsm⟩ := hq
  have hsm' : (U.calling (F0 m pc ls rest) mk (Value.ref b :: As).toArray).sameButNew ({ s₂ with vm := (U.calling (F0 m pc ls rest) mk (Value.ref b :: As).toArray).vm } : State) [] mc ms := hsm
  have hkeep9 := xsame hsm'
  have hkeep : ∀ q : Nat, q < U.heap.size → s₂.heap[q]? = U.heap[q]? := hkeep9
  obtain ⟨e2, q2, q3, q4, q5, q6⟩ := hsm'
  have hW' : U.WarmedH s₂.vm := hW₂
  have e3 : s₂ = ({ (U.calling (F0 m pc ls rest) mk (Value.ref b :: As).toArray).setFrames s₂.frames with heap := s₂.heap, slotsUsed := s₂.slotsUsed } : State).setVm s₂.vm := by
    have : s₂ = ({ s₂ with vm := (U.calling (F0 m pc ls rest) mk (Value.ref b :: As).toArray).vm } : State).setVm s₂.vm := rfl
    rw [e2] at this
    exact this
  obtain ⟨g₀, hg0⟩ := Option.isSome_iff_exists.mp h.top
  obtain ⟨r, hr⟩ := State.topJava?_eq_some.mp hg0
  have hsame : U.sameButNew ({ U with heap := s₂.heap, slotsUsed := s₂.slotsUsed } : State) [] mc ms := by
    refine ⟨?_, q2, q3, q4, q5, q6⟩
    obtain ⟨t, ht, -⟩ := State.frames_cons hr
    show ({ U with heap := s₂.heap, slotsUsed := s₂.slotsUsed } : State) = { U.setFrames U.frames with heap := s₂.heap, slotsUsed := s₂.slotsUsed }
    rw [State.setFrames_self ht]
  have X₂ : Stand p l e R s m args below meth c (({ U with heap := s₂.heap, slotsUsed := s₂.slotsUsed } : State).setVm s₂.vm) (locs ++ []) (cells + mc) (slots + ms) :=
    ⟨X₁.admits, X₁.cas, X₁.clock, X₁.frames, X₁.room, X₁.hears, X₁.method, X₁.code, (X₁.here.setHeapUsed s₂.heap s₂.slotsUsed).setVm hW'.alike, X₁.tail, State.WarmedH.trans X₁.warmed hW', X₁.limits, X₁.bytes, X₁.same.trans (hsame.setVm s.vm)⟩
  rw [List.append_nil] at X₂
  generalize hV : (({ U with heap := s₂.heap, slotsUsed := s₂.slotsUsed } : State).setVm s₂.vm) = V at X₂
  have hVh : V.heap = s₂.heap := by rw [← hV]; rfl
  have hrV : V.frames = .java g₀ :: r := by rw [← hV]; exact hr
  have hs₂ : s₂ = (V.setTop (F0 m pc ls rest)).pushFrame (.throwing x) := by
    refine e3.trans ?_
    have hend' : s₂.frames = .throwing x :: (U.setTop (F0 m pc ls rest)).frames := hend
    rw [State.pushFrame, State.frames_setTop _ hrV, State.setTop_of_frames _ hrV, State.setFrames_setFrames, hend', State.frames_setTop' _ h.top, hr, State.calling_eq h.top, State.setFrames_setFrames, ← hV]
    rfl
  have hclS : s.vm.findClass E = some ce.cls := by rw [← X₁.warmed.alike.findClass]; exact hcl
  obtain ⟨⟨k0, hk0⟩, htb⟩ := htab ce.cls hclS
  have hobj : ∀ k, ce.vm ≠ .statics k := fun k hk => by rw [hk] at hcv; cases hcv
  obtain ⟨vm', hWv, hgo⟩ := xgo (e := e) (s₀ := s) (f := F0 m pc ls rest) (a := x) (cell := ce) (hp := hp) hobj hk0 c.exceptionTable.toList ((V.setTop (F0 m pc ls rest)).pushFrame (.throwing x)) (by rw [Stand.throwing_vm]; exact X₂.warmed) (by rw [Stand.throwing_heap, hVh]; exact hce) htb
  obtain ⟨t, a1, b1⟩ := kk x s₂.heap (fun q hq => by rw [hkeep q (by rw [hUh]; exact hq), hUh]) (by rw [← hUh]; exact q2) (V.setVm vm') (by rw [← hVh]; rfl) (X₂.noted hWv)
  refine ⟨t, hstep₁ _ (fun acts => ?_), b1⟩
  rw [doInvoke_state]
  refine hsteps.trans ?_
  rw [hs₂]
  refine xcaught (g := F0 m pc ls rest) X₂.here (vm' := vm') (pc := hp) (fun Q E d acts => ?_) a1
  rw [Jvm.W.findHandler_eq (meth := meth) (code := c) (by rw [Stand.throwing_vm]; exact X₂.method') X₂.code]
  exact hgo Q E d acts
end XC
end
section
/-- what a throw wants beside the words of xtb -/
def xex : List Cond := [.castable "java/lang/IllegalArgumentException" "java/lang/IllegalArgumentException", .castable "java/lang/IllegalStateException" "java/lang/IllegalStateException", .declares ⟨"java/lang/RuntimeException", "<init>", "()V"⟩, .declares ⟨"java/lang/Exception", "<init>", "()V"⟩, .declares ⟨"java/lang/Throwable", "<init>", "()V"⟩,
  .laysStatic "java/lang/Throwable" "UNASSIGNED_STACK" "[Ljava/lang/StackTraceElement;", .laysStatic "java/lang/Throwable" "SUPPRESSED_SENTINEL" "Ljava/util/List;",
  .isRef (.static "java/lang/Throwable" "UNASSIGNED_STACK" "[Ljava/lang/StackTraceElement;"), .isRef (.static "java/lang/Throwable" "SUPPRESSED_SENTINEL" "Ljava/util/List;")]
def xEx (U : State) : Prop := ∀ a ∈ xex, a.before #[] U = true
theorem xEx.use {U : State} (h : xEx U) (args : Array Value) : ∀ a ∈ xex, a.before args U = true := by
  have h1 : ∀ a ∈ xex, a.before #[] U = true → a.before args U = true := by
    simp only [xex, List.forall_mem_cons]
    exact ⟨fun h => va_Nw.use rfl h, fun h => va_Nw.use rfl h, fun h => va_Nw.use rfl h, fun h => va_Nw.use rfl h, fun h => va_Nw.use rfl h, fun h => h, fun h => h, fun h => h, fun h => h, fun a ha => absurd ha List.not_mem_nil⟩
  exact fun a ha => h1 a ha (h a ha)
theorem at_IAE : ∀ a ∈ Bundle.ownAtoms0 "WeightedClauses" 59 "java/lang/IllegalArgumentException" ["java/lang/RuntimeException", "java/lang/Exception"], a ∈ xtb ∨ a ∈ xex := by decide +kernel
theorem at_ISE : ∀ a ∈ Bundle.ownAtoms0 "WeightedClauses" 65 "java/lang/IllegalStateException" ["java/lang/RuntimeException", "java/lang/Exception"], a ∈ xtb ∨ a ∈ xex := by decide +kernel
theorem xat {args : Array Value} {s : State} {c0 : Cond} {L : List Cond} (h : ∀ a ∈ L, a ∈ xtb ∨ a ∈ xex) (hts : ∀ w ∈ c0 :: xtb, w.before args s = true) (hE : xEx s) : ∀ a ∈ L, a.before args s = true :=
  fun a ha => (h a ha).elim (fun h1 => hts a (List.mem_cons_of_mem _ h1)) (fun h1 => hE.use args a h1)
end
section
def f_clause (nc : Nat) (mt mf wt : Nat → Int32) (w a1 a2 a3 a4 : Int32) : Int32 × Nat × (Nat → Int32) × (Nat → Int32) × (Nat → Int32) × Int32 × Nat × Int64 × Int32 × Nat :=
  match f_forget with
  | (nd1_52, lc1_52, bc1_52, bv1_52, wc1_52) =>
    match (f_add nc mt mf wt w ((((f_bitIfTrue a1) ||| (f_bitIfTrue a2)) ||| (f_bitIfTrue a3)) ||| (f_bitIfTrue a4)) ((((f_bitIfFalse a1) ||| (f_bitIfFalse a2)) ||| (f_bitIfFalse a3)) ||| (f_bitIfFalse a4))) with
    | (r_110, nc1_110, mt1_110, mf1_110, wt1_110) =>
      (r_110, (nc1_110, mt1_110, mf1_110, wt1_110, nd1_52, lc1_52, bc1_52, bv1_52, wc1_52))
set_option maxHeartbeats 4000000 in
set_option maxRecDepth 100000 in
theorem c_clause (l : Launch) (dC : Nat → ClassId) (dI : Nat → Nat → Nat) (cI cL cZ : ClassId) (ad : Nat → Nat) (hinj : xI ad 15) (nv : Nat) (av : Int32) (nc : Nat) (mt mf wt : Nat → Int32) (lz : Nat) (nd : Int32) (lc : Nat) (bc : Int64) (bv : Int32) (lh lw : Nat → Int32) (lb : Nat → Int64) (wh wv : Nat → Int32) (wc : Nat) (hnc : nc ≤ 40) (w a1 a2 a3 a4 : Int32) (hw : ¬ f_isWeight w = 0) (ha : ¬ f_areLiterals nv a1 a2 a3 a4 = 0) (hc : nI nc < 40) : Met l yX3_clause wsX3_clause ({ frames := 6, cells := 0, slots := 0, locals := 90 }) (va_Pc [.ref (ad 0), .int w, .int a1, .int a2, .int a3, .int a4] (fun U => va_P (dC, dI) vwCl [(ad 0, .inr (3, [.ref (ad 1), .ref (ad 5), .ref (ad 9)])), (ad 1, .inr (1, [.int (nI nv), .int av, .int (nI nc), .ref (ad 2), .ref (ad 3), .ref (ad 4)])), (ad 2, .inl (cI, 40, .inl mt)), (ad 3, .inl (cI, 40, .inl mf)), (ad 4, .inl (cI, 40, .inl wt)), (ad 9, .inr (2, [.int nd, .int (nI lc), .long bc, .int bv, .ref (ad 10), .ref (ad 11), .ref (ad 12), .ref (ad 1), .ref (ad 5), .ref (ad 13), .ref (ad 14), .int (nI wc)])), (ad 10, .inl (cI, lz, .inl lh)), (ad 11, .inl (cI, lz, .inl lw)), (ad 12, .inl (cL, lz, .inr (.inl lb))), (ad 13, .inl (cI, 11, .inl wh)), (ad 14, .inl (cI, 11, .inl wv))] U.heap ∧ va_K (dC, dI) vwCl [(cI, .int), (cL, .long), (cZ, .boolean)] U)) (va_Qi (fun r u => f_clause nc mt mf wt w a1 a2 a3 a4 = (r, u)) (xB (dC, dI) vwCl (fun (u : Nat × (Nat → Int32) × (Nat → Int32) × (Nat → Int32) × Int32 × Nat × Int64 × Int32 × Nat) => match u with | (nc1, mt1, mf1, wt1, nd1, lc1, bc1, bv1, wc1) => [(ad 1, .inr (1, [.int (nI nv), .int av, .int (nI nc1), .ref (ad 2), .ref (ad 3), .ref (ad 4)])), (ad 2, .inl (cI, 40, .inl mt1)), (ad 3, .inl (cI, 40, .inl mf1)), (ad 4, .inl (cI, 40, .inl wt1)), (ad 9, .inr (2, [.int nd1, .int (nI lc1), .long bc1, .int bv1, .ref (ad 10), .ref (ad 11), .ref (ad 12), .ref (ad 1), .ref (ad 5), .ref (ad 13), .ref (ad 14), .int (nI wc1)])), (ad 10, .inl (cI, lz, .inl lh)), (ad 11, .inl (cI, lz, .inl lw)), (ad 12, .inl (cL, lz, .inr (.inl lb))), (ad 13, .inl (cI, 11, .inl wh)), (ad 14, .inl (cI, 11, .inl wv))])) (xA ad [1, 2, 3, 4, 9, 10, 11, 12, 13, 14])) 0 0 (xA ad [1, 2, 3, 4, 9, 10, 11, 12, 13, 14]) := by
  refine Met.ofW (cc := cX3_clause) (maxL := 8) (ret := (some .int)) (by decide) rfl ?_
  intro p e s m args below meth c s₁ B hml hvv
  obtain ⟨rfl, hP0, hK⟩ := hvv
  have hx := B.exec
  have hb := B.bytes
  have hr := B.returns
  have hts := atoms_spec (ws := wsX3_clause) B.pre
  have hown : s.vm.findClass RX3 = some m.cls := findClass_of_methodNamed B.named
  have hlocks := B.notSynchronized
  have hw0 : (.fieldLink RX3 23 "WeightedClauses" "formula" "LWeightedClauses$Formula;" : Cond).before _ s = true := hts _ (List.mem_cons_of_mem _ wd_178)
  have hw1 : (.fieldLink RX3 60 "WeightedClauses$Formula" "clauseCount" "I" : Cond).before _ s = true := hts _ (List.mem_cons_of_mem _ wd_73)
  have hw2 : (.fieldLink RX3 41 "WeightedClauses" "search" "LWeightedClauses$Search;" : Cond).before _ s = true := hts _ (List.mem_cons_of_mem _ wd_180)
  have hPr : va_P (dC, dI) vwCl [(ad 0, .inr (3, [.ref (ad 1), .ref (ad 5), .ref (ad 9)]))] s.heap := hP0.sub [0] rfl
  have hP : va_P (dC, dI) vwCl [(ad 1, .inr (1, [.int (nI nv), .int av, .int (nI nc), .ref (ad 2), .ref (ad 3), .ref (ad 4)])), (ad 2, .inl (cI, 40, .inl mt)), (ad 3, .inl (cI, 40, .inl mf)), (ad 4, .inl (cI, 40, .inl wt)), (ad 9, .inr (2, [.int nd, .int (nI lc), .long bc, .int bv, .ref (ad 10), .ref (ad 11), .ref (ad 12), .ref (ad 1), .ref (ad 5), .ref (ad 13), .ref (ad 14), .int (nI wc)])), (ad 10, .inl (cI, lz, .inl lh)), (ad 11, .inl (cI, lz, .inl lw)), (ad 12, .inl (cL, lz, .inr (.inl lb))), (ad 13, .inl (cI, 11, .inl wh)), (ad 14, .inl (cI, 11, .inl wv))] s.heap := hP0.sub [1, 2, 3, 4, 5, 6, 7, 8, 9, 10] rfl
  have hS : va_S (xA ad [1, 2, 3, 4, 9, 10, 11, 12, 13, 14]) s.heap s.heap [] := va_S.rf
  have hl := lv_entry [.ref (ad 0), .int w, .int a1, .int a2, .int a3, .int a4] (n := 8) (Nat.le_of_ble_eq_true rfl)
  rw [lg_entry_eq]
  generalize (lg_sl [.ref (ad 0), .int w, .int a1, .int a2, .int a3, .int a4] ++ List.replicate (8 - (lg_sl [.ref (ad 0), .int w, .int a1, .int a2, .int a3, .int a4]).length) Slot.unset).toArray = ls at hl ⊢
  have hl : lv_has ls 8 [(0, .ref (ad 0)), (1, .int w), (2, .int a1), (3, .int a2), (4, .int a3), (5, .int a4)] := hl
  have hF := Eq.refl (f_clause nc mt mf wt w a1 a2 a3 a4)
  conv at hF => rhs; unfold f_clause
  refine lv_iload_n hx hb dX3_clause_0 rfl (lv_at hl 1 rfl) ?_
  have hR := xP0 hPr (xnA hinj [0] rfl (by decide)) hS
  refine xro_i (va_runS (As := [.int w]) (rest := []) ⟨hx, hb, hml, hown, hts⟩ (c_isWeight l dC dI cI cL cZ ad hinj w) (xcwS 1 hts wd_370 wd_34 wd_368 wd_369 rfl rfl (by decide +kernel) ⟨Nat.le_of_ble_eq_true rfl, Nat.le_of_ble_eq_true rfl⟩) (xpreS xPn hK) rfl rfl hl.1 rfl (lv_room (Nat.le_of_ble_eq_true rfl)) dX3_clause_1 ⟨Nat.le_of_ble_eq_true rfl, Nat.le_of_ble_eq_true rfl⟩) hS (fun H locs hk hS => ?_)
  have hP := xkeep hP hk
  refine lv_if_eq (tgt := 20) hx hb dX3_clause_4 (by decide) (fun h1 => absurd h1 hw) (fun h1 => ?_)
  refine lv_aload_n hx hb dX3_clause_7 rfl (lv_at hl 0 rfl) ?_
  refine lv_iload_n hx hb dX3_clause_8 rfl (lv_at hl 2 rfl) ?_
  refine lv_iload_n hx hb dX3_clause_9 rfl (lv_at hl 3 rfl) ?_
  refine lv_iload hx hb dX3_clause_10 (lv_at hl 4 rfl) ?_
  refine lv_iload hx hb dX3_clause_12 (lv_at hl 5 rfl) ?_
  have hR := xP0 hPr (xnA hinj [0] rfl (by decide)) hS
  refine xro_i (va_runV (As := [.int a1, .int a2, .int a3, .int a4]) (rest := []) ⟨hx, hb, hml, hown, hts⟩ (c_areLiterals l dC dI cI cL cZ ad hinj nv av nc mt mf wt a1 a2 a3 a4) (xcwV 4 hts wd_375 wd_34 wd_372 wd_374 wd_13 rfl rfl (by decide +kernel) ⟨Nat.le_of_ble_eq_true rfl, Nat.le_of_ble_eq_true rfl⟩) (xpreV (va_recv hK hR rfl (q0 := 0) rfl) ((hR.app hP).sub [0, 1, 2, 3, 4] rfl) hK) rfl rfl hl.1 rfl (lv_room (Nat.le_of_ble_eq_true rfl)) dX3_clause_14 ⟨Nat.le_of_ble_eq_true rfl, Nat.le_of_ble_eq_true rfl⟩) hS (fun H locs hk hS => ?_)
  have hP := xkeep hP hk
  refine lv_if_ne (tgt := 28) hx hb dX3_clause_17 (by decide) (fun h2 => ?_) (fun h2 => absurd h2 ha)
  refine lv_aload_n hx hb dX3_clause_28 rfl (lv_at hl 0 rfl) ?_
  have hR := xP0 hPr (xnA hinj [0] rfl (by decide)) hS
  refine va_get (D := (dC, dI)) (ci := 3) (v := .ref (ad 1)) (C := RX3) (T := TX3) (N := 3) hx hb hts (xcons inX3) hown hK hR 0 rfl rfl 0 (by decide) hw0 (fun _ h9 => h9) rfl dX3_clause_29 ?_
  refine va_get (D := (dC, dI)) (ci := 1) (v := .int (nI nc)) (C := RX1) (T := TX1) (N := 6) hx hb hts (xcons inX1) hown hK hP 0 rfl rfl 2 (by decide) hw1 (fun _ h9 => h9) rfl dX3_clause_32 ?_
  refine lv_bipush (v := 40) hx hb dX3_clause_35 (by decide) ?_
  refine lv_icmp_lt (tgt := 48) hx hb dX3_clause_37 (by decide) (fun h3 => ?_) (fun h3 => absurd hc h3)
  refine lv_aload_n hx hb dX3_clause_48 rfl (lv_at hl 0 rfl) ?_
  refine va_get (D := (dC, dI)) (ci := 3) (v := .ref (ad 9)) (C := RX3) (T := TX3) (N := 3) hx hb hts (xcons inX3) hown hK hR 0 rfl rfl 2 (by decide) hw2 (fun _ h9 => h9) rfl dX3_clause_49 ?_
  refine xrw_v (va_runV (As := []) (rest := []) ⟨hx, hb, hml, hown, hts⟩ (c_forget l dC dI cI cL cZ ad hinj lz nd lc bc bv lh lw lb wh wv wc) (xcwV 0 hts wd_199 wd_38 wd_196 wd_197 wd_198 rfl rfl (by decide +kernel) ⟨Nat.le_of_ble_eq_true rfl, Nat.le_of_ble_eq_true rfl⟩) (xpreV (va_recv hK hP rfl (q0 := 4) rfl) (hP.sub [4, 5, 6, 7, 8, 9] rfl) hK) rfl rfl hl.1 rfl (lv_room (Nat.le_of_ble_eq_true rfl)) dX3_clause_52 ⟨Nat.le_of_ble_eq_true rfl, Nat.le_of_ble_eq_true rfl⟩) hS (xAsub (by decide)) (fun u H locs h4 hB hk hS => ?_)
  obtain ⟨nd1_52, lc1_52, bc1_52, bv1_52, wc1_52⟩ := u
  have hP : va_P (dC, dI) vwCl [(ad 1, .inr (1, [.int (nI nv), .int av, .int (nI nc), .ref (ad 2), .ref (ad 3), .ref (ad 4)])), (ad 2, .inl (cI, 40, .inl mt)), (ad 3, .inl (cI, 40, .inl mf)), (ad 4, .inl (cI, 40, .inl wt)), (ad 9, .inr (2, [.int nd1_52, .int (nI lc1_52), .long bc1_52, .int bv1_52, .ref (ad 10), .ref (ad 11), .ref (ad 12), .ref (ad 1), .ref (ad 5), .ref (ad 13), .ref (ad 14), .int (nI wc1_52)])), (ad 10, .inl (cI, lz, .inl lh)), (ad 11, .inl (cI, lz, .inl lw)), (ad 12, .inl (cL, lz, .inr (.inl lb))), (ad 13, .inl (cI, 11, .inl wh)), (ad 14, .inl (cI, 11, .inl wv))] H := ((xkeepA hP hk [0, 1, 2, 3] rfl (xnA hinj [1, 2, 3, 4] rfl (by decide))).app hB).sub [0, 1, 2, 3, 4, 5, 6, 7, 8, 9] rfl
  rw [h4] at hF
  dsimp only at hF
  refine lv_iload_n hx hb dX3_clause_55 rfl (lv_at hl 2 rfl) ?_
  have hR := xP0 hPr (xnA hinj [0] rfl (by decide)) hS
  refine xro_i (va_runS (As := [.int a1]) (rest := []) ⟨hx, hb, hml, hown, hts⟩ (c_bitIfTrue l dC dI cI cL cZ ad hinj a1) (xcwS 1 hts wd_388 wd_34 wd_386 wd_387 rfl rfl (by decide +kernel) ⟨Nat.le_of_ble_eq_true rfl, Nat.le_of_ble_eq_true rfl⟩) (xpreS xPn hK) rfl rfl hl.1 rfl (lv_room (Nat.le_of_ble_eq_true rfl)) dX3_clause_56 ⟨Nat.le_of_ble_eq_true rfl, Nat.le_of_ble_eq_true rfl⟩) hS (fun H locs hk hS => ?_)
  have hP := xkeep hP hk
  refine lv_iload_n hx hb dX3_clause_59 rfl (lv_at hl 3 rfl) ?_
  have hR := xP0 hPr (xnA hinj [0] rfl (by decide)) hS
  refine xro_i (va_runS (As := [.int a2]) (rest := [.int (f_bitIfTrue a1)]) ⟨hx, hb, hml, hown, hts⟩ (c_bitIfTrue l dC dI cI cL cZ ad hinj a2) (xcwS 1 hts wd_388 wd_34 wd_386 wd_387 rfl rfl (by decide +kernel) ⟨Nat.le_of_ble_eq_true rfl, Nat.le_of_ble_eq_true rfl⟩) (xpreS xPn hK) rfl rfl hl.1 rfl (lv_room (Nat.le_of_ble_eq_true rfl)) dX3_clause_60 ⟨Nat.le_of_ble_eq_true rfl, Nat.le_of_ble_eq_true rfl⟩) hS (fun H locs hk hS => ?_)
  have hP := xkeep hP hk
  refine lv_ior hx hb dX3_clause_63 ?_
  refine lv_iload hx hb dX3_clause_64 (lv_at hl 4 rfl) ?_
  have hR := xP0 hPr (xnA hinj [0] rfl (by decide)) hS
  refine xro_i (va_runS (As := [.int a3]) (rest := [.int ((f_bitIfTrue a1) ||| (f_bitIfTrue a2))]) ⟨hx, hb, hml, hown, hts⟩ (c_bitIfTrue l dC dI cI cL cZ ad hinj a3) (xcwS 1 hts wd_388 wd_34 wd_386 wd_387 rfl rfl (by decide +kernel) ⟨Nat.le_of_ble_eq_true rfl, Nat.le_of_ble_eq_true rfl⟩) (xpreS xPn hK) rfl rfl hl.1 rfl (lv_room (Nat.le_of_ble_eq_true rfl)) dX3_clause_66 ⟨Nat.le_of_ble_eq_true rfl, Nat.le_of_ble_eq_true rfl⟩) hS (fun H locs hk hS => ?_)
  have hP := xkeep hP hk
  refine lv_ior hx hb dX3_clause_69 ?_
  refine lv_iload hx hb dX3_clause_70 (lv_at hl 5 rfl) ?_
  have hR := xP0 hPr (xnA hinj [0] rfl (by decide)) hS
  refine xro_i (va_runS (As := [.int a4]) (rest := [.int (((f_bitIfTrue a1) ||| (f_bitIfTrue a2)) ||| (f_bitIfTrue a3))]) ⟨hx, hb, hml, hown, hts⟩ (c_bitIfTrue l dC dI cI cL cZ ad hinj a4) (xcwS 1 hts wd_388 wd_34 wd_386 wd_387 rfl rfl (by decide +kernel) ⟨Nat.le_of_ble_eq_true rfl, Nat.le_of_ble_eq_true rfl⟩) (xpreS xPn hK) rfl rfl hl.1 rfl (lv_room (Nat.le_of_ble_eq_true rfl)) dX3_clause_72 ⟨Nat.le_of_ble_eq_true rfl, Nat.le_of_ble_eq_true rfl⟩) hS (fun H locs hk hS => ?_)
  have hP := xkeep hP hk
  refine lv_ior hx hb dX3_clause_75 ?_
  refine lv_istore (lv' := [(6, .int ((((f_bitIfTrue a1) ||| (f_bitIfTrue a2)) ||| (f_bitIfTrue a3)) ||| (f_bitIfTrue a4))), (0, .ref (ad 0)), (1, .int w), (2, .int a1), (3, .int a2), (4, .int a3), (5, .int a4)]) hx hb dX3_clause_76 hl (by decide) rfl (fun ls hl => ?_)
  refine lv_iload_n hx hb dX3_clause_78 rfl (lv_at hl 3 rfl) ?_
  have hR := xP0 hPr (xnA hinj [0] rfl (by decide)) hS
  refine xro_i (va_runS (As := [.int a1]) (rest := []) ⟨hx, hb, hml, hown, hts⟩ (c_bitIfFalse l dC dI cI cL cZ ad hinj a1) (xcwS 1 hts wd_391 wd_34 wd_389 wd_390 rfl rfl (by decide +kernel) ⟨Nat.le_of_ble_eq_true rfl, Nat.le_of_ble_eq_true rfl⟩) (xpreS xPn hK) rfl rfl hl.1 rfl (lv_room (Nat.le_of_ble_eq_true rfl)) dX3_clause_79 ⟨Nat.le_of_ble_eq_true rfl, Nat.le_of_ble_eq_true rfl⟩) hS (fun H locs hk hS => ?_)
  have hP := xkeep hP hk
  refine lv_iload_n hx hb dX3_clause_82 rfl (lv_at hl 4 rfl) ?_
  have hR := xP0 hPr (xnA hinj [0] rfl (by decide)) hS
  refine xro_i (va_runS (As := [.int a2]) (rest := [.int (f_bitIfFalse a1)]) ⟨hx, hb, hml, hown, hts⟩ (c_bitIfFalse l dC dI cI cL cZ ad hinj a2) (xcwS 1 hts wd_391 wd_34 wd_389 wd_390 rfl rfl (by decide +kernel) ⟨Nat.le_of_ble_eq_true rfl, Nat.le_of_ble_eq_true rfl⟩) (xpreS xPn hK) rfl rfl hl.1 rfl (lv_room (Nat.le_of_ble_eq_true rfl)) dX3_clause_83 ⟨Nat.le_of_ble_eq_true rfl, Nat.le_of_ble_eq_true rfl⟩) hS (fun H locs hk hS => ?_)
  have hP := xkeep hP hk
  refine lv_ior hx hb dX3_clause_86 ?_
  refine lv_iload hx hb dX3_clause_87 (lv_at hl 5 rfl) ?_
  have hR := xP0 hPr (xnA hinj [0] rfl (by decide)) hS
  refine xro_i (va_runS (As := [.int a3]) (rest := [.int ((f_bitIfFalse a1) ||| (f_bitIfFalse a2))]) ⟨hx, hb, hml, hown, hts⟩ (c_bitIfFalse l dC dI cI cL cZ ad hinj a3) (xcwS 1 hts wd_391 wd_34 wd_389 wd_390 rfl rfl (by decide +kernel) ⟨Nat.le_of_ble_eq_true rfl, Nat.le_of_ble_eq_true rfl⟩) (xpreS xPn hK) rfl rfl hl.1 rfl (lv_room (Nat.le_of_ble_eq_true rfl)) dX3_clause_89 ⟨Nat.le_of_ble_eq_true rfl, Nat.le_of_ble_eq_true rfl⟩) hS (fun H locs hk hS => ?_)
  have hP := xkeep hP hk
  refine lv_ior hx hb dX3_clause_92 ?_
  refine lv_iload hx hb dX3_clause_93 (lv_at hl 6 rfl) ?_
  have hR := xP0 hPr (xnA hinj [0] rfl (by decide)) hS
  refine xro_i (va_runS (As := [.int a4]) (rest := [.int (((f_bitIfFalse a1) ||| (f_bitIfFalse a2)) ||| (f_bitIfFalse a3))]) ⟨hx, hb, hml, hown, hts⟩ (c_bitIfFalse l dC dI cI cL cZ ad hinj a4) (xcwS 1 hts wd_391 wd_34 wd_389 wd_390 rfl rfl (by decide +kernel) ⟨Nat.le_of_ble_eq_true rfl, Nat.le_of_ble_eq_true rfl⟩) (xpreS xPn hK) rfl rfl hl.1 rfl (lv_room (Nat.le_of_ble_eq_true rfl)) dX3_clause_95 ⟨Nat.le_of_ble_eq_true rfl, Nat.le_of_ble_eq_true rfl⟩) hS (fun H locs hk hS => ?_)
  have hP := xkeep hP hk
  refine lv_ior hx hb dX3_clause_98 ?_
  refine lv_istore (lv' := [(7, .int ((((f_bitIfFalse a1) ||| (f_bitIfFalse a2)) ||| (f_bitIfFalse a3)) ||| (f_bitIfFalse a4))), (6, .int ((((f_bitIfTrue a1) ||| (f_bitIfTrue a2)) ||| (f_bitIfTrue a3)) ||| (f_bitIfTrue a4))), (0, .ref (ad 0)), (1, .int w), (2, .int a1), (3, .int a2), (4, .int a3), (5, .int a4)]) hx hb dX3_clause_99 hl (by decide) rfl (fun ls hl => ?_)
  refine lv_aload_n hx hb dX3_clause_101 rfl (lv_at hl 2 rfl) ?_
  have hR := xP0 hPr (xnA hinj [0] rfl (by decide)) hS
  refine va_get (D := (dC, dI)) (ci := 3) (v := .ref (ad 1)) (C := RX3) (T := TX3) (N := 3) hx hb hts (xcons inX3) hown hK hR 0 rfl rfl 0 (by decide) hw0 (fun _ h9 => h9) rfl dX3_clause_102 ?_
  refine lv_iload_n hx hb dX3_clause_105 rfl (lv_at hl 3 rfl) ?_
  refine lv_iload hx hb dX3_clause_106 (lv_at hl 1 rfl) ?_
  refine lv_iload hx hb dX3_clause_108 (lv_at hl 0 rfl) ?_
  refine xrw_i (va_runV (As := [.int w, .int ((((f_bitIfTrue a1) ||| (f_bitIfTrue a2)) ||| (f_bitIfTrue a3)) ||| (f_bitIfTrue a4)), .int ((((f_bitIfFalse a1) ||| (f_bitIfFalse a2)) ||| (f_bitIfFalse a3)) ||| (f_bitIfFalse a4))]) (rest := []) ⟨hx, hb, hml, hown, hts⟩ (c_add l dC dI cI cL cZ ad hinj nv av nc mt mf wt (by omega) w ((((f_bitIfTrue a1) ||| (f_bitIfTrue a2)) ||| (f_bitIfTrue a3)) ||| (f_bitIfTrue a4)) ((((f_bitIfFalse a1) ||| (f_bitIfFalse a2)) ||| (f_bitIfFalse a3)) ||| (f_bitIfFalse a4))) (xcwV 3 hts wd_473 wd_35 wd_470 wd_471 wd_472 rfl rfl (by decide +kernel) ⟨Nat.le_of_ble_eq_true rfl, Nat.le_of_ble_eq_true rfl⟩) (xpreV (va_recv hK hP rfl (q0 := 0) rfl) (hP.sub [0, 1, 2, 3] rfl) hK) rfl rfl hl.1 rfl (lv_room (Nat.le_of_ble_eq_true rfl)) dX3_clause_110 ⟨Nat.le_of_ble_eq_true rfl, Nat.le_of_ble_eq_true rfl⟩) hS (xAsub (by decide)) (fun r_110 u H locs h5 hB hk hS => ?_)
  obtain ⟨nc1_110, mt1_110, mf1_110, wt1_110⟩ := u
  have hP : va_P (dC, dI) vwCl [(ad 1, .inr (1, [.int (nI nv), .int av, .int (nI nc1_110), .ref (ad 2), .ref (ad 3), .ref (ad 4)])), (ad 2, .inl (cI, 40, .inl mt1_110)), (ad 3, .inl (cI, 40, .inl mf1_110)), (ad 4, .inl (cI, 40, .inl wt1_110)), (ad 9, .inr (2, [.int nd1_52, .int (nI lc1_52), .long bc1_52, .int bv1_52, .ref (ad 10), .ref (ad 11), .ref (ad 12), .ref (ad 1), .ref (ad 5), .ref (ad 13), .ref (ad 14), .int (nI wc1_52)])), (ad 10, .inl (cI, lz, .inl lh)), (ad 11, .inl (cI, lz, .inl lw)), (ad 12, .inl (cL, lz, .inr (.inl lb))), (ad 13, .inl (cI, 11, .inl wh)), (ad 14, .inl (cI, 11, .inl wv))] H := ((xkeepA hP hk [4, 5, 6, 7, 8, 9] rfl (xnA hinj [9, 10, 11, 12, 13, 14] rfl (by decide))).app hB).sub [6, 7, 8, 9, 0, 1, 2, 3, 4, 5] rfl
  rw [h5] at hF
  dsimp only at hF
  exact W.iret (v := r_110) hx hb hr (fun t ht hW => ⟨⟨_, (nc1_110, mt1_110, mf1_110, wt1_110, nd1_52, lc1_52, bc1_52, bv1_52, wc1_52), rfl, hF, xBi ht hP⟩, hS.F ht⟩) hS.2.2 dX3_clause_113
end
section



set_option maxHeartbeats 4000000 in
set_option maxRecDepth 100000 in
theorem c_clause_x1 (l : Launch) (dC : Nat → ClassId) (dI : Nat → Nat → Nat) (cI cL cZ : ClassId) (ad : Nat → Nat) (hinj : xI ad 15) (hlt : ∀ e : Env, l.admits e → e.platform.stackTraces = false) (nv : Nat) (av : Int32) (nc : Nat) (mt mf wt : Nat → Int32) (lz : Nat) (nd : Int32) (lc : Nat) (bc : Int64) (bv : Int32) (lh lw : Nat → Int32) (lb : Nat → Int64) (wh wv : Nat → Int32) (wc : Nat) (hnc : nc ≤ 40) (w a1 a2 a3 a4 : Int32) (hw : f_isWeight w = 0) : xThr l yX3_clause wsX3_clause ({ frames := 6, cells := 1, slots := 6, locals := 90 }) (va_Pc [.ref (ad 0), .int w, .int a1, .int a2, .int a3, .int a4] (fun U => va_P (dC, dI) vwCl [(ad 0, .inr (3, [.ref (ad 1), .ref (ad 5), .ref (ad 9)])), (ad 1, .inr (1, [.int (nI nv), .int av, .int (nI nc), .ref (ad 2), .ref (ad 3), .ref (ad 4)])), (ad 2, .inl (cI, 40, .inl mt)), (ad 3, .inl (cI, 40, .inl mf)), (ad 4, .inl (cI, 40, .inl wt)), (ad 9, .inr (2, [.int nd, .int (nI lc), .long bc, .int bv, .ref (ad 10), .ref (ad 11), .ref (ad 12), .ref (ad 1), .ref (ad 5), .ref (ad 13), .ref (ad 14), .int (nI wc)])), (ad 10, .inl (cI, lz, .inl lh)), (ad 11, .inl (cI, lz, .inl lw)), (ad 12, .inl (cL, lz, .inr (.inl lb))), (ad 13, .inl (cI, 11, .inl wh)), (ad 14, .inl (cI, 11, .inl wv))] U.heap ∧ va_K (dC, dI) vwCl [(cI, .int), (cL, .long), (cZ, .boolean)] U ∧ xEx U)) "java/lang/IllegalArgumentException" 1 6 := by
  refine xThr.ofW (cc := cX3_clause) (maxL := 8) (ret := (some .int)) (by decide) rfl ?_
  intro p e s m args below meth c s₁ B hml hvv
  obtain ⟨rfl, hP0, hK, hE⟩ := hvv
  have hx := B.exec
  have hb := B.bytes
  have hr := B.returns
  have hts := atoms_spec (ws := wsX3_clause) B.pre
  have hown : s.vm.findClass RX3 = some m.cls := findClass_of_methodNamed B.named
  have hlocks := B.notSynchronized
  have htb : c.exceptionTable.toList = [] := by have h9 := BodyLoose.noHandlers B (hts _ List.mem_cons_self); simpa [Array.isEmpty] using h9
  have hw0 : (.classLink RX3 57 "java/lang/IllegalArgumentException" : Cond).before _ s = true := hts _ (List.mem_cons_of_mem _ wd_393)
  have hw1 : (.initialized "java/lang/IllegalArgumentException" : Cond).before _ s = true := hts _ (List.mem_cons_of_mem _ wd_44)
  have hat := xat at_IAE hts hE
  have hPr : va_P (dC, dI) vwCl [(ad 0, .inr (3, [.ref (ad 1), .ref (ad 5), .ref (ad 9)])), (ad 1, .inr (1, [.int (nI nv), .int av, .int (nI nc), .ref (ad 2), .ref (ad 3), .ref (ad 4)])), (ad 2, .inl (cI, 40, .inl mt)), (ad 3, .inl (cI, 40, .inl mf)), (ad 4, .inl (cI, 40, .inl wt)), (ad 9, .inr (2, [.int nd, .int (nI lc), .long bc, .int bv, .ref (ad 10), .ref (ad 11), .ref (ad 12), .ref (ad 1), .ref (ad 5), .ref (ad 13), .ref (ad 14), .int (nI wc)])), (ad 10, .inl (cI, lz, .inl lh)), (ad 11, .inl (cI, lz, .inl lw)), (ad 12, .inl (cL, lz, .inr (.inl lb))), (ad 13, .inl (cI, 11, .inl wh)), (ad 14, .inl (cI, 11, .inl wv))] s.heap := hP0.sub [0, 1, 2, 3, 4, 5, 6, 7, 8, 9, 10] rfl
  have hS : va_S xN s.heap s.heap [] := va_S.rf
  have hl := lv_entry [.ref (ad 0), .int w, .int a1, .int a2, .int a3, .int a4] (n := 8) (Nat.le_of_ble_eq_true rfl)
  rw [lg_entry_eq]
  generalize (lg_sl [.ref (ad 0), .int w, .int a1, .int a2, .int a3, .int a4] ++ List.replicate (8 - (lg_sl [.ref (ad 0), .int w, .int a1, .int a2, .int a3, .int a4]).length) Slot.unset).toArray = ls at hl ⊢
  have hl : lv_has ls 8 [(0, .ref (ad 0)), (1, .int w), (2, .int a1), (3, .int a2), (4, .int a3), (5, .int a4)] := hl
  refine lv_iload_n hx hb dX3_clause_0 rfl (lv_at hl 1 rfl) ?_
  have hR := xP0 hPr xnN hS
  refine xro_i (va_runS (As := [.int w]) (rest := []) ⟨hx, hb, hml, hown, hts⟩ (c_isWeight l dC dI cI cL cZ ad hinj w) (xcwS 1 hts wd_370 wd_34 wd_368 wd_369 rfl rfl (by decide +kernel) ⟨Nat.le_of_ble_eq_true rfl, Nat.le_of_ble_eq_true rfl⟩) (xpreS xPn hK) rfl rfl hl.1 rfl (lv_room (Nat.le_of_ble_eq_true rfl)) dX3_clause_1 ⟨Nat.le_of_ble_eq_true rfl, Nat.le_of_ble_eq_true rfl⟩) hS (fun H locs hk hS => ?_)
  refine lv_if_eq (tgt := 20) hx hb dX3_clause_4 (by decide) (fun h1 => ?_) (fun h1 => absurd hw h1)
  exact xthrow hx hb hlt hlocks (names := ["java/lang/RuntimeException", "java/lang/Exception"]) hown (by decide) (by decide) hw0 hw1 hat hS (hl.1.trans hml.symm) dX3_clause_20 dX3_clause_23 dX3_clause_24 dX3_clause_27 htb (by decide) (by decide) (Nat.le_of_ble_eq_true rfl) (Nat.le_of_ble_eq_true rfl) (Nat.le_of_ble_eq_true rfl) (Nat.le_of_ble_eq_true rfl)
set_option maxHeartbeats 4000000 in
set_option maxRecDepth 100000 in
theorem c_clause_x2 (l : Launch) (dC : Nat → ClassId) (dI : Nat → Nat → Nat) (cI cL cZ : ClassId) (ad : Nat → Nat) (hinj : xI ad 15) (hlt : ∀ e : Env, l.admits e → e.platform.stackTraces = false) (nv : Nat) (av : Int32) (nc : Nat) (mt mf wt : Nat → Int32) (lz : Nat) (nd : Int32) (lc : Nat) (bc : Int64) (bv : Int32) (lh lw : Nat → Int32) (lb : Nat → Int64) (wh wv : Nat → Int32) (wc : Nat) (hnc : nc ≤ 40) (w a1 a2 a3 a4 : Int32) (hw : ¬ f_isWeight w = 0) (ha : f_areLiterals nv a1 a2 a3 a4 = 0) : xThr l yX3_clause wsX3_clause ({ frames := 6, cells := 1, slots := 6, locals := 90 }) (va_Pc [.ref (ad 0), .int w, .int a1, .int a2, .int a3, .int a4] (fun U => va_P (dC, dI) vwCl [(ad 0, .inr (3, [.ref (ad 1), .ref (ad 5), .ref (ad 9)])), (ad 1, .inr (1, [.int (nI nv), .int av, .int (nI nc), .ref (ad 2), .ref (ad 3), .ref (ad 4)])), (ad 2, .inl (cI, 40, .inl mt)), (ad 3, .inl (cI, 40, .inl mf)), (ad 4, .inl (cI, 40, .inl wt)), (ad 9, .inr (2, [.int nd, .int (nI lc), .long bc, .int bv, .ref (ad 10), .ref (ad 11), .ref (ad 12), .ref (ad 1), .ref (ad 5), .ref (ad 13), .ref (ad 14), .int (nI wc)])), (ad 10, .inl (cI, lz, .inl lh)), (ad 11, .inl (cI, lz, .inl lw)), (ad 12, .inl (cL, lz, .inr (.inl lb))), (ad 13, .inl (cI, 11, .inl wh)), (ad 14, .inl (cI, 11, .inl wv))] U.heap ∧ va_K (dC, dI) vwCl [(cI, .int), (cL, .long), (cZ, .boolean)] U ∧ xEx U)) "java/lang/IllegalArgumentException" 1 6 := by
  refine xThr.ofW (cc := cX3_clause) (maxL := 8) (ret := (some .int)) (by decide) rfl ?_
  intro p e s m args below meth c s₁ B hml hvv
  obtain ⟨rfl, hP0, hK, hE⟩ := hvv
  have hx := B.exec
  have hb := B.bytes
  have hr := B.returns
  have hts := atoms_spec (ws := wsX3_clause) B.pre
  have hown : s.vm.findClass RX3 = some m.cls := findClass_of_methodNamed B.named
  have hlocks := B.notSynchronized
  have htb : c.exceptionTable.toList = [] := by have h9 := BodyLoose.noHandlers B (hts _ List.mem_cons_self); simpa [Array.isEmpty] using h9
  have hw0 : (.classLink RX3 57 "java/lang/IllegalArgumentException" : Cond).before _ s = true := hts _ (List.mem_cons_of_mem _ wd_393)
  have hw1 : (.initialized "java/lang/IllegalArgumentException" : Cond).before _ s = true := hts _ (List.mem_cons_of_mem _ wd_44)
  have hat := xat at_IAE hts hE
  have hPr : va_P (dC, dI) vwCl [(ad 0, .inr (3, [.ref (ad 1), .ref (ad 5), .ref (ad 9)])), (ad 1, .inr (1, [.int (nI nv), .int av, .int (nI nc), .ref (ad 2), .ref (ad 3), .ref (ad 4)])), (ad 2, .inl (cI, 40, .inl mt)), (ad 3, .inl (cI, 40, .inl mf)), (ad 4, .inl (cI, 40, .inl wt)), (ad 9, .inr (2, [.int nd, .int (nI lc), .long bc, .int bv, .ref (ad 10), .ref (ad 11), .ref (ad 12), .ref (ad 1), .ref (ad 5), .ref (ad 13), .ref (ad 14), .int (nI wc)])), (ad 10, .inl (cI, lz, .inl lh)), (ad 11, .inl (cI, lz, .inl lw)), (ad 12, .inl (cL, lz, .inr (.inl lb))), (ad 13, .inl (cI, 11, .inl wh)), (ad 14, .inl (cI, 11, .inl wv))] s.heap := hP0.sub [0, 1, 2, 3, 4, 5, 6, 7, 8, 9, 10] rfl
  have hS : va_S xN s.heap s.heap [] := va_S.rf
  have hl := lv_entry [.ref (ad 0), .int w, .int a1, .int a2, .int a3, .int a4] (n := 8) (Nat.le_of_ble_eq_true rfl)
  rw [lg_entry_eq]
  generalize (lg_sl [.ref (ad 0), .int w, .int a1, .int a2, .int a3, .int a4] ++ List.replicate (8 - (lg_sl [.ref (ad 0), .int w, .int a1, .int a2, .int a3, .int a4]).length) Slot.unset).toArray = ls at hl ⊢
  have hl : lv_has ls 8 [(0, .ref (ad 0)), (1, .int w), (2, .int a1), (3, .int a2), (4, .int a3), (5, .int a4)] := hl
  refine lv_iload_n hx hb dX3_clause_0 rfl (lv_at hl 1 rfl) ?_
  have hR := xP0 hPr xnN hS
  refine xro_i (va_runS (As := [.int w]) (rest := []) ⟨hx, hb, hml, hown, hts⟩ (c_isWeight l dC dI cI cL cZ ad hinj w) (xcwS 1 hts wd_370 wd_34 wd_368 wd_369 rfl rfl (by decide +kernel) ⟨Nat.le_of_ble_eq_true rfl, Nat.le_of_ble_eq_true rfl⟩) (xpreS xPn hK) rfl rfl hl.1 rfl (lv_room (Nat.le_of_ble_eq_true rfl)) dX3_clause_1 ⟨Nat.le_of_ble_eq_true rfl, Nat.le_of_ble_eq_true rfl⟩) hS (fun H locs hk hS => ?_)
  refine lv_if_eq (tgt := 20) hx hb dX3_clause_4 (by decide) (fun h1 => absurd h1 hw) (fun h1 => ?_)
  refine lv_aload_n hx hb dX3_clause_7 rfl (lv_at hl 0 rfl) ?_
  refine lv_iload_n hx hb dX3_clause_8 rfl (lv_at hl 2 rfl) ?_
  refine lv_iload_n hx hb dX3_clause_9 rfl (lv_at hl 3 rfl) ?_
  refine lv_iload hx hb dX3_clause_10 (lv_at hl 4 rfl) ?_
  refine lv_iload hx hb dX3_clause_12 (lv_at hl 5 rfl) ?_
  have hR := xP0 hPr xnN hS
  refine xro_i (va_runV (As := [.int a1, .int a2, .int a3, .int a4]) (rest := []) ⟨hx, hb, hml, hown, hts⟩ (c_areLiterals l dC dI cI cL cZ ad hinj nv av nc mt mf wt a1 a2 a3 a4) (xcwV 4 hts wd_375 wd_34 wd_372 wd_374 wd_13 rfl rfl (by decide +kernel) ⟨Nat.le_of_ble_eq_true rfl, Nat.le_of_ble_eq_true rfl⟩) (xpreV (va_recv hK hR rfl (q0 := 0) rfl) (hR.sub [0, 1, 2, 3, 4] rfl) hK) rfl rfl hl.1 rfl (lv_room (Nat.le_of_ble_eq_true rfl)) dX3_clause_14 ⟨Nat.le_of_ble_eq_true rfl, Nat.le_of_ble_eq_true rfl⟩) hS (fun H locs hk hS => ?_)
  refine lv_if_ne (tgt := 28) hx hb dX3_clause_17 (by decide) (fun h2 => absurd ha h2) (fun h2 => ?_)
  exact xthrow hx hb hlt hlocks (names := ["java/lang/RuntimeException", "java/lang/Exception"]) hown (by decide) (by decide) hw0 hw1 hat hS (hl.1.trans hml.symm) dX3_clause_20 dX3_clause_23 dX3_clause_24 dX3_clause_27 htb (by decide) (by decide) (Nat.le_of_ble_eq_true rfl) (Nat.le_of_ble_eq_true rfl) (Nat.le_of_ble_eq_true rfl) (Nat.le_of_ble_eq_true rfl)
set_option maxHeartbeats 4000000 in
set_option maxRecDepth 100000 in
theorem c_clause_x3 (l : Launch) (dC : Nat → ClassId) (dI : Nat → Nat → Nat) (cI cL cZ : ClassId) (ad : Nat → Nat) (hinj : xI ad 15) (hlt : ∀ e : Env, l.admits e → e.platform.stackTraces = false) (nv : Nat) (av : Int32) (nc : Nat) (mt mf wt : Nat → Int32) (lz : Nat) (nd : Int32) (lc : Nat) (bc : Int64) (bv : Int32) (lh lw : Nat → Int32) (lb : Nat → Int64) (wh wv : Nat → Int32) (wc : Nat) (hnc : nc ≤ 40) (w a1 a2 a3 a4 : Int32) (hw : ¬ f_isWeight w = 0) (ha : ¬ f_areLiterals nv a1 a2 a3 a4 = 0) (hc : ¬ nI nc < 40) : xThr l yX3_clause wsX3_clause ({ frames := 6, cells := 1, slots := 6, locals := 90 }) (va_Pc [.ref (ad 0), .int w, .int a1, .int a2, .int a3, .int a4] (fun U => va_P (dC, dI) vwCl [(ad 0, .inr (3, [.ref (ad 1), .ref (ad 5), .ref (ad 9)])), (ad 1, .inr (1, [.int (nI nv), .int av, .int (nI nc), .ref (ad 2), .ref (ad 3), .ref (ad 4)])), (ad 2, .inl (cI, 40, .inl mt)), (ad 3, .inl (cI, 40, .inl mf)), (ad 4, .inl (cI, 40, .inl wt)), (ad 9, .inr (2, [.int nd, .int (nI lc), .long bc, .int bv, .ref (ad 10), .ref (ad 11), .ref (ad 12), .ref (ad 1), .ref (ad 5), .ref (ad 13), .ref (ad 14), .int (nI wc)])), (ad 10, .inl (cI, lz, .inl lh)), (ad 11, .inl (cI, lz, .inl lw)), (ad 12, .inl (cL, lz, .inr (.inl lb))), (ad 13, .inl (cI, 11, .inl wh)), (ad 14, .inl (cI, 11, .inl wv))] U.heap ∧ va_K (dC, dI) vwCl [(cI, .int), (cL, .long), (cZ, .boolean)] U ∧ xEx U)) "java/lang/IllegalStateException" 1 6 := by
  refine xThr.ofW (cc := cX3_clause) (maxL := 8) (ret := (some .int)) (by decide) rfl ?_
  intro p e s m args below meth c s₁ B hml hvv
  obtain ⟨rfl, hP0, hK, hE⟩ := hvv
  have hx := B.exec
  have hb := B.bytes
  have hr := B.returns
  have hts := atoms_spec (ws := wsX3_clause) B.pre
  have hown : s.vm.findClass RX3 = some m.cls := findClass_of_methodNamed B.named
  have hlocks := B.notSynchronized
  have htb : c.exceptionTable.toList = [] := by have h9 := BodyLoose.noHandlers B (hts _ List.mem_cons_self); simpa [Array.isEmpty] using h9
  have hw0 : (.fieldLink RX3 23 "WeightedClauses" "formula" "LWeightedClauses$Formula;" : Cond).before _ s = true := hts _ (List.mem_cons_of_mem _ wd_178)
  have hw1 : (.fieldLink RX3 60 "WeightedClauses$Formula" "clauseCount" "I" : Cond).before _ s = true := hts _ (List.mem_cons_of_mem _ wd_73)
  have hw2 : (.classLink RX3 63 "java/lang/IllegalStateException" : Cond).before _ s = true := hts _ (List.mem_cons_of_mem _ wd_455)
  have hw3 : (.initialized "java/lang/IllegalStateException" : Cond).before _ s = true := hts _ (List.mem_cons_of_mem _ wd_45)
  have hat := xat at_ISE hts hE
  have hPr : va_P (dC, dI) vwCl [(ad 0, .inr (3, [.ref (ad 1), .ref (ad 5), .ref (ad 9)])), (ad 1, .inr (1, [.int (nI nv), .int av, .int (nI nc), .ref (ad 2), .ref (ad 3), .ref (ad 4)])), (ad 2, .inl (cI, 40, .inl mt)), (ad 3, .inl (cI, 40, .inl mf)), (ad 4, .inl (cI, 40, .inl wt)), (ad 9, .inr (2, [.int nd, .int (nI lc), .long bc, .int bv, .ref (ad 10), .ref (ad 11), .ref (ad 12), .ref (ad 1), .ref (ad 5), .ref (ad 13), .ref (ad 14), .int (nI wc)])), (ad 10, .inl (cI, lz, .inl lh)), (ad 11, .inl (cI, lz, .inl lw)), (ad 12, .inl (cL, lz, .inr (.inl lb))), (ad 13, .inl (cI, 11, .inl wh)), (ad 14, .inl (cI, 11, .inl wv))] s.heap := hP0.sub [0, 1, 2, 3, 4, 5, 6, 7, 8, 9, 10] rfl
  have hS : va_S xN s.heap s.heap [] := va_S.rf
  have hl := lv_entry [.ref (ad 0), .int w, .int a1, .int a2, .int a3, .int a4] (n := 8) (Nat.le_of_ble_eq_true rfl)
  rw [lg_entry_eq]
  generalize (lg_sl [.ref (ad 0), .int w, .int a1, .int a2, .int a3, .int a4] ++ List.replicate (8 - (lg_sl [.ref (ad 0), .int w, .int a1, .int a2, .int a3, .int a4]).length) Slot.unset).toArray = ls at hl ⊢
  have hl : lv_has ls 8 [(0, .ref (ad 0)), (1, .int w), (2, .int a1), (3, .int a2), (4, .int a3), (5, .int a4)] := hl
  refine lv_iload_n hx hb dX3_clause_0 rfl (lv_at hl 1 rfl) ?_
  have hR := xP0 hPr xnN hS
  refine xro_i (va_runS (As := [.int w]) (rest := []) ⟨hx, hb, hml, hown, hts⟩ (c_isWeight l dC dI cI cL cZ ad hinj w) (xcwS 1 hts wd_370 wd_34 wd_368 wd_369 rfl rfl (by decide +kernel) ⟨Nat.le_of_ble_eq_true rfl, Nat.le_of_ble_eq_true rfl⟩) (xpreS xPn hK) rfl rfl hl.1 rfl (lv_room (Nat.le_of_ble_eq_true rfl)) dX3_clause_1 ⟨Nat.le_of_ble_eq_true rfl, Nat.le_of_ble_eq_true rfl⟩) hS (fun H locs hk hS => ?_)
  refine lv_if_eq (tgt := 20) hx hb dX3_clause_4 (by decide) (fun h1 => absurd h1 hw) (fun h1 => ?_)
  refine lv_aload_n hx hb dX3_clause_7 rfl (lv_at hl 0 rfl) ?_
  refine lv_iload_n hx hb dX3_clause_8 rfl (lv_at hl 2 rfl) ?_
  refine lv_iload_n hx hb dX3_clause_9 rfl (lv_at hl 3 rfl) ?_
  refine lv_iload hx hb dX3_clause_10 (lv_at hl 4 rfl) ?_
  refine lv_iload hx hb dX3_clause_12 (lv_at hl 5 rfl) ?_
  have hR := xP0 hPr xnN hS
  refine xro_i (va_runV (As := [.int a1, .int a2, .int a3, .int a4]) (rest := []) ⟨hx, hb, hml, hown, hts⟩ (c_areLiterals l dC dI cI cL cZ ad hinj nv av nc mt mf wt a1 a2 a3 a4) (xcwV 4 hts wd_375 wd_34 wd_372 wd_374 wd_13 rfl rfl (by decide +kernel) ⟨Nat.le_of_ble_eq_true rfl, Nat.le_of_ble_eq_true rfl⟩) (xpreV (va_recv hK hR rfl (q0 := 0) rfl) (hR.sub [0, 1, 2, 3, 4] rfl) hK) rfl rfl hl.1 rfl (lv_room (Nat.le_of_ble_eq_true rfl)) dX3_clause_14 ⟨Nat.le_of_ble_eq_true rfl, Nat.le_of_ble_eq_true rfl⟩) hS (fun H locs hk hS => ?_)
  refine lv_if_ne (tgt := 28) hx hb dX3_clause_17 (by decide) (fun h2 => ?_) (fun h2 => absurd h2 ha)
  refine lv_aload_n hx hb dX3_clause_28 rfl (lv_at hl 0 rfl) ?_
  have hR := xP0 hPr xnN hS
  refine va_get (D := (dC, dI)) (ci := 3) (v := .ref (ad 1)) (C := RX3) (T := TX3) (N := 3) hx hb hts (xcons inX3) hown hK hR 0 rfl rfl 0 (by decide) hw0 (fun _ h9 => h9) rfl dX3_clause_29 ?_
  refine va_get (D := (dC, dI)) (ci := 1) (v := .int (nI nc)) (C := RX1) (T := TX1) (N := 6) hx hb hts (xcons inX1) hown hK hR 1 rfl rfl 2 (by decide) hw1 (fun _ h9 => h9) rfl dX3_clause_32 ?_
  refine lv_bipush (v := 40) hx hb dX3_clause_35 (by decide) ?_
  refine lv_icmp_lt (tgt := 48) hx hb dX3_clause_37 (by decide) (fun h3 => absurd h3 hc) (fun h3 => ?_)
  exact xthrow hx hb hlt hlocks (names := ["java/lang/RuntimeException", "java/lang/Exception"]) hown (by decide) (by decide) hw2 hw3 hat hS (hl.1.trans hml.symm) dX3_clause_40 dX3_clause_43 dX3_clause_44 dX3_clause_47 htb (by decide) (by decide) (Nat.le_of_ble_eq_true rfl) (Nat.le_of_ble_eq_true rfl) (Nat.le_of_ble_eq_true rfl) (Nat.le_of_ble_eq_true rfl)
end
section
def f_weigh (nc : Nat) (mt mf wt : Nat → Int32) (k w : Int32) : Int32 × Nat × (Nat → Int32) × (Nat → Int32) × (Nat → Int32) × Int32 × Nat × Int64 × Int32 × Nat :=
  match f_forget with
  | (nd1_34, lc1_34, bc1_34, bv1_34, wc1_34) =>
    match (f_replaceWeight nc mt mf wt k w) with
    | (r_43, nc1_43, mt1_43, mf1_43, wt1_43) =>
      (r_43, (nc1_43, mt1_43, mf1_43, wt1_43, nd1_34, lc1_34, bc1_34, bv1_34, wc1_34))



set_option maxHeartbeats 4000000 in
set_option maxRecDepth 100000 in
theorem c_weigh (l : Launch) (dC : Nat → ClassId) (dI : Nat → Nat → Nat) (cI cL cZ : ClassId) (ad : Nat → Nat) (hinj : xI ad 15) (nv : Nat) (av : Int32) (nc : Nat) (mt mf wt : Nat → Int32) (lz : Nat) (nd : Int32) (lc : Nat) (bc : Int64) (bv : Int32) (lh lw : Nat → Int32) (lb : Nat → Int64) (wh wv : Nat → Int32) (wc : Nat) (hnc : nc ≤ 40) (k w : Int32) (hk1 : ¬ k < 0) (hk2 : ¬ nI nc ≤ k) (hw : ¬ f_isWeight w = 0) : Met l yX3_weigh wsX3_weigh ({ frames := 6, cells := 0, slots := 0, locals := 90 }) (va_Pc [.ref (ad 0), .int k, .int w] (fun U => va_P (dC, dI) vwCl [(ad 0, .inr (3, [.ref (ad 1), .ref (ad 5), .ref (ad 9)])), (ad 1, .inr (1, [.int (nI nv), .int av, .int (nI nc), .ref (ad 2), .ref (ad 3), .ref (ad 4)])), (ad 2, .inl (cI, 40, .inl mt)), (ad 3, .inl (cI, 40, .inl mf)), (ad 4, .inl (cI, 40, .inl wt)), (ad 9, .inr (2, [.int nd, .int (nI lc), .long bc, .int bv, .ref (ad 10), .ref (ad 11), .ref (ad 12), .ref (ad 1), .ref (ad 5), .ref (ad 13), .ref (ad 14), .int (nI wc)])), (ad 10, .inl (cI, lz, .inl lh)), (ad 11, .inl (cI, lz, .inl lw)), (ad 12, .inl (cL, lz, .inr (.inl lb))), (ad 13, .inl (cI, 11, .inl wh)), (ad 14, .inl (cI, 11, .inl wv))] U.heap ∧ va_K (dC, dI) vwCl [(cI, .int), (cL, .long), (cZ, .boolean)] U)) (va_Qi (fun r u => f_weigh nc mt mf wt k w = (r, u)) (xB (dC, dI) vwCl (fun (u : Nat × (Nat → Int32) × (Nat → Int32) × (Nat → Int32) × Int32 × Nat × Int64 × Int32 × Nat) => match u with | (nc1, mt1, mf1, wt1, nd1, lc1, bc1, bv1, wc1) => [(ad 1, .inr (1, [.int (nI nv), .int av, .int (nI nc1), .ref (ad 2), .ref (ad 3), .ref (ad 4)])), (ad 2, .inl (cI, 40, .inl mt1)), (ad 3, .inl (cI, 40, .inl mf1)), (ad 4, .inl (cI, 40, .inl wt1)), (ad 9, .inr (2, [.int nd1, .int (nI lc1), .long bc1, .int bv1, .ref (ad 10), .ref (ad 11), .ref (ad 12), .ref (ad 1), .ref (ad 5), .ref (ad 13), .ref (ad 14), .int (nI wc1)])), (ad 10, .inl (cI, lz, .inl lh)), (ad 11, .inl (cI, lz, .inl lw)), (ad 12, .inl (cL, lz, .inr (.inl lb))), (ad 13, .inl (cI, 11, .inl wh)), (ad 14, .inl (cI, 11, .inl wv))])) (xA ad [1, 2, 3, 4, 9, 10, 11, 12, 13, 14])) 0 0 (xA ad [1, 2, 3, 4, 9, 10, 11, 12, 13, 14]) := by
  refine Met.ofW (cc := cX3_weigh) (maxL := 3) (ret := (some .int)) (by decide) rfl ?_
  intro p e s m args below meth c s₁ B hml hvv
  obtain ⟨rfl, hP0, hK⟩ := hvv
  have hx := B.exec
  have hb := B.bytes
  have hr := B.returns
  have hts := atoms_spec (ws := wsX3_weigh) B.pre
  have hown : s.vm.findClass RX3 = some m.cls := findClass_of_methodNamed B.named
  have hlocks := B.notSynchronized
  have hw0 : (.fieldLink RX3 23 "WeightedClauses" "formula" "LWeightedClauses$Formula;" : Cond).before _ s = true := hts _ (List.mem_cons_of_mem _ wd_178)
  have hw1 : (.fieldLink RX3 60 "WeightedClauses$Formula" "clauseCount" "I" : Cond).before _ s = true := hts _ (List.mem_cons_of_mem _ wd_73)
  have hw2 : (.fieldLink RX3 41 "WeightedClauses" "search" "LWeightedClauses$Search;" : Cond).before _ s = true := hts _ (List.mem_cons_of_mem _ wd_180)
  have hPr : va_P (dC, dI) vwCl [(ad 0, .inr (3, [.ref (ad 1), .ref (ad 5), .ref (ad 9)]))] s.heap := hP0.sub [0] rfl
  have hP : va_P (dC, dI) vwCl [(ad 1, .inr (1, [.int (nI nv), .int av, .int (nI nc), .ref (ad 2), .ref (ad 3), .ref (ad 4)])), (ad 2, .inl (cI, 40, .inl mt)), (ad 3, .inl (cI, 40, .inl mf)), (ad 4, .inl (cI, 40, .inl wt)), (ad 9, .inr (2, [.int nd, .int (nI lc), .long bc, .int bv, .ref (ad 10), .ref (ad 11), .ref (ad 12), .ref (ad 1), .ref (ad 5), .ref (ad 13), .ref (ad 14), .int (nI wc)])), (ad 10, .inl (cI, lz, .inl lh)), (ad 11, .inl (cI, lz, .inl lw)), (ad 12, .inl (cL, lz, .inr (.inl lb))), (ad 13, .inl (cI, 11, .inl wh)), (ad 14, .inl (cI, 11, .inl wv))] s.heap := hP0.sub [1, 2, 3, 4, 5, 6, 7, 8, 9, 10] rfl
  have hS : va_S (xA ad [1, 2, 3, 4, 9, 10, 11, 12, 13, 14]) s.heap s.heap [] := va_S.rf
  have hl := lv_entry [.ref (ad 0), .int k, .int w] (n := 3) (Nat.le_of_ble_eq_true rfl)
  rw [lg_entry_eq]
  generalize (lg_sl [.ref (ad 0), .int k, .int w] ++ List.replicate (3 - (lg_sl [.ref (ad 0), .int k, .int w]).length) Slot.unset).toArray = ls at hl ⊢
  have hl : lv_has ls 3 [(0, .ref (ad 0)), (1, .int k), (2, .int w)] := hl
  have hF := Eq.refl (f_weigh nc mt mf wt k w)
  conv at hF => rhs; unfold f_weigh
  refine lv_iload_n hx hb dX3_weigh_0 rfl (lv_at hl 1 rfl) ?_
  refine lv_if_lt (tgt := 22) hx hb dX3_weigh_1 (by decide) (fun h1 => absurd h1 hk1) (fun h1 => ?_)
  refine lv_iload_n hx hb dX3_weigh_4 rfl (lv_at hl 1 rfl) ?_
  refine lv_aload_n hx hb dX3_weigh_5 rfl (lv_at hl 0 rfl) ?_
  have hR := xP0 hPr (xnA hinj [0] rfl (by decide)) hS
  refine va_get (D := (dC, dI)) (ci := 3) (v := .ref (ad 1)) (C := RX3) (T := TX3) (N := 3) hx hb hts (xcons inX3) hown hK hR 0 rfl rfl 0 (by decide) hw0 (fun _ h9 => h9) rfl dX3_weigh_6 ?_
  refine va_get (D := (dC, dI)) (ci := 1) (v := .int (nI nc)) (C := RX1) (T := TX1) (N := 6) hx hb hts (xcons inX1) hown hK hP 0 rfl rfl 2 (by decide) hw1 (fun _ h9 => h9) rfl dX3_weigh_9 ?_
  refine lv_icmp_ge (tgt := 22) hx hb dX3_weigh_12 (by decide) (fun h2 => absurd h2 hk2) (fun h2 => ?_)
  refine lv_iload_n hx hb dX3_weigh_15 rfl (lv_at hl 2 rfl) ?_
  refine xro_i (va_runS (As := [.int w]) (rest := []) ⟨hx, hb, hml, hown, hts⟩ (c_isWeight l dC dI cI cL cZ ad hinj w) (xcwS 1 hts wd_370 wd_34 wd_368 wd_369 rfl rfl (by decide +kernel) ⟨Nat.le_of_ble_eq_true rfl, Nat.le_of_ble_eq_true rfl⟩) (xpreS xPn hK) rfl rfl hl.1 rfl (lv_room (Nat.le_of_ble_eq_true rfl)) dX3_weigh_16 ⟨Nat.le_of_ble_eq_true rfl, Nat.le_of_ble_eq_true rfl⟩) hS (fun H locs hk hS => ?_)
  have hP := xkeep hP hk
  refine lv_if_ne (tgt := 30) hx hb dX3_weigh_19 (by decide) (fun h3 => ?_) (fun h3 => absurd h3 hw)
  refine lv_aload_n hx hb dX3_weigh_30 rfl (lv_at hl 0 rfl) ?_
  have hR := xP0 hPr (xnA hinj [0] rfl (by decide)) hS
  refine va_get (D := (dC, dI)) (ci := 3) (v := .ref (ad 9)) (C := RX3) (T := TX3) (N := 3) hx hb hts (xcons inX3) hown hK hR 0 rfl rfl 2 (by decide) hw2 (fun _ h9 => h9) rfl dX3_weigh_31 ?_
  refine xrw_v (va_runV (As := []) (rest := []) ⟨hx, hb, hml, hown, hts⟩ (c_forget l dC dI cI cL cZ ad hinj lz nd lc bc bv lh lw lb wh wv wc) (xcwV 0 hts wd_199 wd_38 wd_196 wd_197 wd_198 rfl rfl (by decide +kernel) ⟨Nat.le_of_ble_eq_true rfl, Nat.le_of_ble_eq_true rfl⟩) (xpreV (va_recv hK hP rfl (q0 := 4) rfl) (hP.sub [4, 5, 6, 7, 8, 9] rfl) hK) rfl rfl hl.1 rfl (lv_room (Nat.le_of_ble_eq_true rfl)) dX3_weigh_34 ⟨Nat.le_of_ble_eq_true rfl, Nat.le_of_ble_eq_true rfl⟩) hS (xAsub (by decide)) (fun u H locs h4 hB hk hS => ?_)
  obtain ⟨nd1_34, lc1_34, bc1_34, bv1_34, wc1_34⟩ := u
  have hP : va_P (dC, dI) vwCl [(ad 1, .inr (1, [.int (nI nv), .int av, .int (nI nc), .ref (ad 2), .ref (ad 3), .ref (ad 4)])), (ad 2, .inl (cI, 40, .inl mt)), (ad 3, .inl (cI, 40, .inl mf)), (ad 4, .inl (cI, 40, .inl wt)), (ad 9, .inr (2, [.int nd1_34, .int (nI lc1_34), .long bc1_34, .int bv1_34, .ref (ad 10), .ref (ad 11), .ref (ad 12), .ref (ad 1), .ref (ad 5), .ref (ad 13), .ref (ad 14), .int (nI wc1_34)])), (ad 10, .inl (cI, lz, .inl lh)), (ad 11, .inl (cI, lz, .inl lw)), (ad 12, .inl (cL, lz, .inr (.inl lb))), (ad 13, .inl (cI, 11, .inl wh)), (ad 14, .inl (cI, 11, .inl wv))] H := ((xkeepA hP hk [0, 1, 2, 3] rfl (xnA hinj [1, 2, 3, 4] rfl (by decide))).app hB).sub [0, 1, 2, 3, 4, 5, 6, 7, 8, 9] rfl
  rw [h4] at hF
  dsimp only at hF
  refine lv_aload_n hx hb dX3_weigh_37 rfl (lv_at hl 0 rfl) ?_
  have hR := xP0 hPr (xnA hinj [0] rfl (by decide)) hS
  refine va_get (D := (dC, dI)) (ci := 3) (v := .ref (ad 1)) (C := RX3) (T := TX3) (N := 3) hx hb hts (xcons inX3) hown hK hR 0 rfl rfl 0 (by decide) hw0 (fun _ h9 => h9) rfl dX3_weigh_38 ?_
  refine lv_iload_n hx hb dX3_weigh_41 rfl (lv_at hl 1 rfl) ?_
  refine lv_iload_n hx hb dX3_weigh_42 rfl (lv_at hl 2 rfl) ?_
  refine xrw_i (va_runV (As := [.int k, .int w]) (rest := []) ⟨hx, hb, hml, hown, hts⟩ (c_replaceWeight l dC dI cI cL cZ ad hinj nv av nc mt mf wt (by omega) k w hk1 hk2) (xcwV 2 hts wd_484 wd_35 wd_481 wd_482 wd_483 rfl rfl (by decide +kernel) ⟨Nat.le_of_ble_eq_true rfl, Nat.le_of_ble_eq_true rfl⟩) (xpreV (va_recv hK hP rfl (q0 := 0) rfl) (hP.sub [0, 1, 2, 3] rfl) hK) rfl rfl hl.1 rfl (lv_room (Nat.le_of_ble_eq_true rfl)) dX3_weigh_43 ⟨Nat.le_of_ble_eq_true rfl, Nat.le_of_ble_eq_true rfl⟩) hS (xAsub (by decide)) (fun r_43 u H locs h5 hB hk hS => ?_)
  obtain ⟨nc1_43, mt1_43, mf1_43, wt1_43⟩ := u
  have hP : va_P (dC, dI) vwCl [(ad 1, .inr (1, [.int (nI nv), .int av, .int (nI nc1_43), .ref (ad 2), .ref (ad 3), .ref (ad 4)])), (ad 2, .inl (cI, 40, .inl mt1_43)), (ad 3, .inl (cI, 40, .inl mf1_43)), (ad 4, .inl (cI, 40, .inl wt1_43)), (ad 9, .inr (2, [.int nd1_34, .int (nI lc1_34), .long bc1_34, .int bv1_34, .ref (ad 10), .ref (ad 11), .ref (ad 12), .ref (ad 1), .ref (ad 5), .ref (ad 13), .ref (ad 14), .int (nI wc1_34)])), (ad 10, .inl (cI, lz, .inl lh)), (ad 11, .inl (cI, lz, .inl lw)), (ad 12, .inl (cL, lz, .inr (.inl lb))), (ad 13, .inl (cI, 11, .inl wh)), (ad 14, .inl (cI, 11, .inl wv))] H := ((xkeepA hP hk [4, 5, 6, 7, 8, 9] rfl (xnA hinj [9, 10, 11, 12, 13, 14] rfl (by decide))).app hB).sub [6, 7, 8, 9, 0, 1, 2, 3, 4, 5] rfl
  rw [h5] at hF
  dsimp only at hF
  exact W.iret (v := r_43) hx hb hr (fun t ht hW => ⟨⟨_, (nc1_43, mt1_43, mf1_43, wt1_43, nd1_34, lc1_34, bc1_34, bv1_34, wc1_34), rfl, hF, xBi ht hP⟩, hS.F ht⟩) hS.2.2 dX3_weigh_46
set_option maxHeartbeats 4000000 in
set_option maxRecDepth 100000 in
theorem c_weigh_x1 (l : Launch) (dC : Nat → ClassId) (dI : Nat → Nat → Nat) (cI cL cZ : ClassId) (ad : Nat → Nat) (hinj : xI ad 15) (hlt : ∀ e : Env, l.admits e → e.platform.stackTraces = false) (nv : Nat) (av : Int32) (nc : Nat) (mt mf wt : Nat → Int32) (lz : Nat) (nd : Int32) (lc : Nat) (bc : Int64) (bv : Int32) (lh lw : Nat → Int32) (lb : Nat → Int64) (wh wv : Nat → Int32) (wc : Nat) (hnc : nc ≤ 40) (k w : Int32) (hk1 : k < 0) : xThr l yX3_weigh wsX3_weigh ({ frames := 6, cells := 1, slots := 6, locals := 90 }) (va_Pc [.ref (ad 0), .int k, .int w] (fun U => va_P (dC, dI) vwCl [(ad 0, .inr (3, [.ref (ad 1), .ref (ad 5), .ref (ad 9)])), (ad 1, .inr (1, [.int (nI nv), .int av, .int (nI nc), .ref (ad 2), .ref (ad 3), .ref (ad 4)])), (ad 2, .inl (cI, 40, .inl mt)), (ad 3, .inl (cI, 40, .inl mf)), (ad 4, .inl (cI, 40, .inl wt)), (ad 9, .inr (2, [.int nd, .int (nI lc), .long bc, .int bv, .ref (ad 10), .ref (ad 11), .ref (ad 12), .ref (ad 1), .ref (ad 5), .ref (ad 13), .ref (ad 14), .int (nI wc)])), (ad 10, .inl (cI, lz, .inl lh)), (ad 11, .inl (cI, lz, .inl lw)), (ad 12, .inl (cL, lz, .inr (.inl lb))), (ad 13, .inl (cI, 11, .inl wh)), (ad 14, .inl (cI, 11, .inl wv))] U.heap ∧ va_K (dC, dI) vwCl [(cI, .int), (cL, .long), (cZ, .boolean)] U ∧ xEx U)) "java/lang/IllegalArgumentException" 1 6 := by
  refine xThr.ofW (cc := cX3_weigh) (maxL := 3) (ret := (some .int)) (by decide) rfl ?_
  intro p e s m args below meth c s₁ B hml hvv
  obtain ⟨rfl, hP0, hK, hE⟩ := hvv
  have hx := B.exec
  have hb := B.bytes
  have hr := B.returns
  have hts := atoms_spec (ws := wsX3_weigh) B.pre
  have hown : s.vm.findClass RX3 = some m.cls := findClass_of_methodNamed B.named
  have hlocks := B.notSynchronized
  have htb : c.exceptionTable.toList = [] := by have h9 := BodyLoose.noHandlers B (hts _ List.mem_cons_self); simpa [Array.isEmpty] using h9
  have hw0 : (.classLink RX3 57 "java/lang/IllegalArgumentException" : Cond).before _ s = true := hts _ (List.mem_cons_of_mem _ wd_393)
  have hw1 : (.initialized "java/lang/IllegalArgumentException" : Cond).before _ s = true := hts _ (List.mem_cons_of_mem _ wd_44)
  have hat := xat at_IAE hts hE
  have hPr : va_P (dC, dI) vwCl [(ad 0, .inr (3, [.ref (ad 1), .ref (ad 5), .ref (ad 9)])), (ad 1, .inr (1, [.int (nI nv), .int av, .int (nI nc), .ref (ad 2), .ref (ad 3), .ref (ad 4)])), (ad 2, .inl (cI, 40, .inl mt)), (ad 3, .inl (cI, 40, .inl mf)), (ad 4, .inl (cI, 40, .inl wt)), (ad 9, .inr (2, [.int nd, .int (nI lc), .long bc, .int bv, .ref (ad 10), .ref (ad 11), .ref (ad 12), .ref (ad 1), .ref (ad 5), .ref (ad 13), .ref (ad 14), .int (nI wc)])), (ad 10, .inl (cI, lz, .inl lh)), (ad 11, .inl (cI, lz, .inl lw)), (ad 12, .inl (cL, lz, .inr (.inl lb))), (ad 13, .inl (cI, 11, .inl wh)), (ad 14, .inl (cI, 11, .inl wv))] s.heap := hP0.sub [0, 1, 2, 3, 4, 5, 6, 7, 8, 9, 10] rfl
  have hS : va_S xN s.heap s.heap [] := va_S.rf
  have hl := lv_entry [.ref (ad 0), .int k, .int w] (n := 3) (Nat.le_of_ble_eq_true rfl)
  rw [lg_entry_eq]
  generalize (lg_sl [.ref (ad 0), .int k, .int w] ++ List.replicate (3 - (lg_sl [.ref (ad 0), .int k, .int w]).length) Slot.unset).toArray = ls at hl ⊢
  have hl : lv_has ls 3 [(0, .ref (ad 0)), (1, .int k), (2, .int w)] := hl
  refine lv_iload_n hx hb dX3_weigh_0 rfl (lv_at hl 1 rfl) ?_
  refine lv_if_lt (tgt := 22) hx hb dX3_weigh_1 (by decide) (fun h1 => ?_) (fun h1 => absurd hk1 h1)
  exact xthrow hx hb hlt hlocks (names := ["java/lang/RuntimeException", "java/lang/Exception"]) hown (by decide) (by decide) hw0 hw1 hat hS (hl.1.trans hml.symm) dX3_weigh_22 dX3_weigh_25 dX3_weigh_26 dX3_weigh_29 htb (by decide) (by decide) (Nat.le_of_ble_eq_true rfl) (Nat.le_of_ble_eq_true rfl) (Nat.le_of_ble_eq_true rfl) (Nat.le_of_ble_eq_true rfl)
set_option maxHeartbeats 4000000 in
set_option maxRecDepth 100000 in
theorem c_weigh_x2 (l : Launch) (dC : Nat → ClassId) (dI : Nat → Nat → Nat) (cI cL cZ : ClassId) (ad : Nat → Nat) (hinj : xI ad 15) (hlt : ∀ e : Env, l.admits e → e.platform.stackTraces = false) (nv : Nat) (av : Int32) (nc : Nat) (mt mf wt : Nat → Int32) (lz : Nat) (nd : Int32) (lc : Nat) (bc : Int64) (bv : Int32) (lh lw : Nat → Int32) (lb : Nat → Int64) (wh wv : Nat → Int32) (wc : Nat) (hnc : nc ≤ 40) (k w : Int32) (hk1 : ¬ k < 0) (hk2 : nI nc ≤ k) : xThr l yX3_weigh wsX3_weigh ({ frames := 6, cells := 1, slots := 6, locals := 90 }) (va_Pc [.ref (ad 0), .int k, .int w] (fun U => va_P (dC, dI) vwCl [(ad 0, .inr (3, [.ref (ad 1), .ref (ad 5), .ref (ad 9)])), (ad 1, .inr (1, [.int (nI nv), .int av, .int (nI nc), .ref (ad 2), .ref (ad 3), .ref (ad 4)])), (ad 2, .inl (cI, 40, .inl mt)), (ad 3, .inl (cI, 40, .inl mf)), (ad 4, .inl (cI, 40, .inl wt)), (ad 9, .inr (2, [.int nd, .int (nI lc), .long bc, .int bv, .ref (ad 10), .ref (ad 11), .ref (ad 12), .ref (ad 1), .ref (ad 5), .ref (ad 13), .ref (ad 14), .int (nI wc)])), (ad 10, .inl (cI, lz, .inl lh)), (ad 11, .inl (cI, lz, .inl lw)), (ad 12, .inl (cL, lz, .inr (.inl lb))), (ad 13, .inl (cI, 11, .inl wh)), (ad 14, .inl (cI, 11, .inl wv))] U.heap ∧ va_K (dC, dI) vwCl [(cI, .int), (cL, .long), (cZ, .boolean)] U ∧ xEx U)) "java/lang/IllegalArgumentException" 1 6 := by
  refine xThr.ofW (cc := cX3_weigh) (maxL := 3) (ret := (some .int)) (by decide) rfl ?_
  intro p e s m args below meth c s₁ B hml hvv
  obtain ⟨rfl, hP0, hK, hE⟩ := hvv
  have hx := B.exec
  have hb := B.bytes
  have hr := B.returns
  have hts := atoms_spec (ws := wsX3_weigh) B.pre
  have hown : s.vm.findClass RX3 = some m.cls := findClass_of_methodNamed B.named
  have hlocks := B.notSynchronized
  have htb : c.exceptionTable.toList = [] := by have h9 := BodyLoose.noHandlers B (hts _ List.mem_cons_self); simpa [Array.isEmpty] using h9
  have hw0 : (.fieldLink RX3 23 "WeightedClauses" "formula" "LWeightedClauses$Formula;" : Cond).before _ s = true := hts _ (List.mem_cons_of_mem _ wd_178)
  have hw1 : (.fieldLink RX3 60 "WeightedClauses$Formula" "clauseCount" "I" : Cond).before _ s = true := hts _ (List.mem_cons_of_mem _ wd_73)
  have hw2 : (.classLink RX3 57 "java/lang/IllegalArgumentException" : Cond).before _ s = true := hts _ (List.mem_cons_of_mem _ wd_393)
  have hw3 : (.initialized "java/lang/IllegalArgumentException" : Cond).before _ s = true := hts _ (List.mem_cons_of_mem _ wd_44)
  have hat := xat at_IAE hts hE
  have hPr : va_P (dC, dI) vwCl [(ad 0, .inr (3, [.ref (ad 1), .ref (ad 5), .ref (ad 9)])), (ad 1, .inr (1, [.int (nI nv), .int av, .int (nI nc), .ref (ad 2), .ref (ad 3), .ref (ad 4)])), (ad 2, .inl (cI, 40, .inl mt)), (ad 3, .inl (cI, 40, .inl mf)), (ad 4, .inl (cI, 40, .inl wt)), (ad 9, .inr (2, [.int nd, .int (nI lc), .long bc, .int bv, .ref (ad 10), .ref (ad 11), .ref (ad 12), .ref (ad 1), .ref (ad 5), .ref (ad 13), .ref (ad 14), .int (nI wc)])), (ad 10, .inl (cI, lz, .inl lh)), (ad 11, .inl (cI, lz, .inl lw)), (ad 12, .inl (cL, lz, .inr (.inl lb))), (ad 13, .inl (cI, 11, .inl wh)), (ad 14, .inl (cI, 11, .inl wv))] s.heap := hP0.sub [0, 1, 2, 3, 4, 5, 6, 7, 8, 9, 10] rfl
  have hS : va_S xN s.heap s.heap [] := va_S.rf
  have hl := lv_entry [.ref (ad 0), .int k, .int w] (n := 3) (Nat.le_of_ble_eq_true rfl)
  rw [lg_entry_eq]
  generalize (lg_sl [.ref (ad 0), .int k, .int w] ++ List.replicate (3 - (lg_sl [.ref (ad 0), .int k, .int w]).length) Slot.unset).toArray = ls at hl ⊢
  have hl : lv_has ls 3 [(0, .ref (ad 0)), (1, .int k), (2, .int w)] := hl
  refine lv_iload_n hx hb dX3_weigh_0 rfl (lv_at hl 1 rfl) ?_
  refine lv_if_lt (tgt := 22) hx hb dX3_weigh_1 (by decide) (fun h1 => absurd h1 hk1) (fun h1 => ?_)
  refine lv_iload_n hx hb dX3_weigh_4 rfl (lv_at hl 1 rfl) ?_
  refine lv_aload_n hx hb dX3_weigh_5 rfl (lv_at hl 0 rfl) ?_
  have hR := xP0 hPr xnN hS
  refine va_get (D := (dC, dI)) (ci := 3) (v := .ref (ad 1)) (C := RX3) (T := TX3) (N := 3) hx hb hts (xcons inX3) hown hK hR 0 rfl rfl 0 (by decide) hw0 (fun _ h9 => h9) rfl dX3_weigh_6 ?_
  refine va_get (D := (dC, dI)) (ci := 1) (v := .int (nI nc)) (C := RX1) (T := TX1) (N := 6) hx hb hts (xcons inX1) hown hK hR 1 rfl rfl 2 (by decide) hw1 (fun _ h9 => h9) rfl dX3_weigh_9 ?_
  refine lv_icmp_ge (tgt := 22) hx hb dX3_weigh_12 (by decide) (fun h2 => ?_) (fun h2 => absurd hk2 h2)
  exact xthrow hx hb hlt hlocks (names := ["java/lang/RuntimeException", "java/lang/Exception"]) hown (by decide) (by decide) hw2 hw3 hat hS (hl.1.trans hml.symm) dX3_weigh_22 dX3_weigh_25 dX3_weigh_26 dX3_weigh_29 htb (by decide) (by decide) (Nat.le_of_ble_eq_true rfl) (Nat.le_of_ble_eq_true rfl) (Nat.le_of_ble_eq_true rfl) (Nat.le_of_ble_eq_true rfl)
set_option maxHeartbeats 4000000 in
set_option maxRecDepth 100000 in
theorem c_weigh_x3 (l : Launch) (dC : Nat → ClassId) (dI : Nat → Nat → Nat) (cI cL cZ : ClassId) (ad : Nat → Nat) (hinj : xI ad 15) (hlt : ∀ e : Env, l.admits e → e.platform.stackTraces = false) (nv : Nat) (av : Int32) (nc : Nat) (mt mf wt : Nat → Int32) (lz : Nat) (nd : Int32) (lc : Nat) (bc : Int64) (bv : Int32) (lh lw : Nat → Int32) (lb : Nat → Int64) (wh wv : Nat → Int32) (wc : Nat) (hnc : nc ≤ 40) (k w : Int32) (hk1 : ¬ k < 0) (hk2 : ¬ nI nc ≤ k) (hw : f_isWeight w = 0) : xThr l yX3_weigh wsX3_weigh ({ frames := 6, cells := 1, slots := 6, locals := 90 }) (va_Pc [.ref (ad 0), .int k, .int w] (fun U => va_P (dC, dI) vwCl [(ad 0, .inr (3, [.ref (ad 1), .ref (ad 5), .ref (ad 9)])), (ad 1, .inr (1, [.int (nI nv), .int av, .int (nI nc), .ref (ad 2), .ref (ad 3), .ref (ad 4)])), (ad 2, .inl (cI, 40, .inl mt)), (ad 3, .inl (cI, 40, .inl mf)), (ad 4, .inl (cI, 40, .inl wt)), (ad 9, .inr (2, [.int nd, .int (nI lc), .long bc, .int bv, .ref (ad 10), .ref (ad 11), .ref (ad 12), .ref (ad 1), .ref (ad 5), .ref (ad 13), .ref (ad 14), .int (nI wc)])), (ad 10, .inl (cI, lz, .inl lh)), (ad 11, .inl (cI, lz, .inl lw)), (ad 12, .inl (cL, lz, .inr (.inl lb))), (ad 13, .inl (cI, 11, .inl wh)), (ad 14, .inl (cI, 11, .inl wv))] U.heap ∧ va_K (dC, dI) vwCl [(cI, .int), (cL, .long), (cZ, .boolean)] U ∧ xEx U)) "java/lang/IllegalArgumentException" 1 6 := by
  refine xThr.ofW (cc := cX3_weigh) (maxL := 3) (ret := (some .int)) (by decide) rfl ?_
  intro p e s m args below meth c s₁ B hml hvv
  obtain ⟨rfl, hP0, hK, hE⟩ := hvv
  have hx := B.exec
  have hb := B.bytes
  have hr := B.returns
  have hts := atoms_spec (ws := wsX3_weigh) B.pre
  have hown : s.vm.findClass RX3 = some m.cls := findClass_of_methodNamed B.named
  have hlocks := B.notSynchronized
  have htb : c.exceptionTable.toList = [] := by have h9 := BodyLoose.noHandlers B (hts _ List.mem_cons_self); simpa [Array.isEmpty] using h9
  have hw0 : (.fieldLink RX3 23 "WeightedClauses" "formula" "LWeightedClauses$Formula;" : Cond).before _ s = true := hts _ (List.mem_cons_of_mem _ wd_178)
  have hw1 : (.fieldLink RX3 60 "WeightedClauses$Formula" "clauseCount" "I" : Cond).before _ s = true := hts _ (List.mem_cons_of_mem _ wd_73)
  have hw2 : (.classLink RX3 57 "java/lang/IllegalArgumentException" : Cond).before _ s = true := hts _ (List.mem_cons_of_mem _ wd_393)
  have hw3 : (.initialized "java/lang/IllegalArgumentException" : Cond).before _ s = true := hts _ (List.mem_cons_of_mem _ wd_44)
  have hat := xat at_IAE hts hE
  have hPr : va_P (dC, dI) vwCl [(ad 0, .inr (3, [.ref (ad 1), .ref (ad 5), .ref (ad 9)])), (ad 1, .inr (1, [.int (nI nv), .int av, .int (nI nc), .ref (ad 2), .ref (ad 3), .ref (ad 4)])), (ad 2, .inl (cI, 40, .inl mt)), (ad 3, .inl (cI, 40, .inl mf)), (ad 4, .inl (cI, 40, .inl wt)), (ad 9, .inr (2, [.int nd, .int (nI lc), .long bc, .int bv, .ref (ad 10), .ref (ad 11), .ref (ad 12), .ref (ad 1), .ref (ad 5), .ref (ad 13), .ref (ad 14), .int (nI wc)])), (ad 10, .inl (cI, lz, .inl lh)), (ad 11, .inl (cI, lz, .inl lw)), (ad 12, .inl (cL, lz, .inr (.inl lb))), (ad 13, .inl (cI, 11, .inl wh)), (ad 14, .inl (cI, 11, .inl wv))] s.heap := hP0.sub [0, 1, 2, 3, 4, 5, 6, 7, 8, 9, 10] rfl
  have hS : va_S xN s.heap s.heap [] := va_S.rf
  have hl := lv_entry [.ref (ad 0), .int k, .int w] (n := 3) (Nat.le_of_ble_eq_true rfl)
  rw [lg_entry_eq]
  generalize (lg_sl [.ref (ad 0), .int k, .int w] ++ List.replicate (3 - (lg_sl [.ref (ad 0), .int k, .int w]).length) Slot.unset).toArray = ls at hl ⊢
  have hl : lv_has ls 3 [(0, .ref (ad 0)), (1, .int k), (2, .int w)] := hl
  refine lv_iload_n hx hb dX3_weigh_0 rfl (lv_at hl 1 rfl) ?_
  refine lv_if_lt (tgt := 22) hx hb dX3_weigh_1 (by decide) (fun h1 => absurd h1 hk1) (fun h1 => ?_)
  refine lv_iload_n hx hb dX3_weigh_4 rfl (lv_at hl 1 rfl) ?_
  refine lv_aload_n hx hb dX3_weigh_5 rfl (lv_at hl 0 rfl) ?_
  have hR := xP0 hPr xnN hS
  refine va_get (D := (dC, dI)) (ci := 3) (v := .ref (ad 1)) (C := RX3) (T := TX3) (N := 3) hx hb hts (xcons inX3) hown hK hR 0 rfl rfl 0 (by decide) hw0 (fun _ h9 => h9) rfl dX3_weigh_6 ?_
  refine va_get (D := (dC, dI)) (ci := 1) (v := .int (nI nc)) (C := RX1) (T := TX1) (N := 6) hx hb hts (xcons inX1) hown hK hR 1 rfl rfl 2 (by decide) hw1 (fun _ h9 => h9) rfl dX3_weigh_9 ?_
  refine lv_icmp_ge (tgt := 22) hx hb dX3_weigh_12 (by decide) (fun h2 => absurd h2 hk2) (fun h2 => ?_)
  refine lv_iload_n hx hb dX3_weigh_15 rfl (lv_at hl 2 rfl) ?_
  refine xro_i (va_runS (As := [.int w]) (rest := []) ⟨hx, hb, hml, hown, hts⟩ (c_isWeight l dC dI cI cL cZ ad hinj w) (xcwS 1 hts wd_370 wd_34 wd_368 wd_369 rfl rfl (by decide +kernel) ⟨Nat.le_of_ble_eq_true rfl, Nat.le_of_ble_eq_true rfl⟩) (xpreS xPn hK) rfl rfl hl.1 rfl (lv_room (Nat.le_of_ble_eq_true rfl)) dX3_weigh_16 ⟨Nat.le_of_ble_eq_true rfl, Nat.le_of_ble_eq_true rfl⟩) hS (fun H locs hk hS => ?_)
  refine lv_if_ne (tgt := 30) hx hb dX3_weigh_19 (by decide) (fun h3 => absurd hw h3) (fun h3 => ?_)
  exact xthrow hx hb hlt hlocks (names := ["java/lang/RuntimeException", "java/lang/Exception"]) hown (by decide) (by decide) hw2 hw3 hat hS (hl.1.trans hml.symm) dX3_weigh_22 dX3_weigh_25 dX3_weigh_26 dX3_weigh_29 htb (by decide) (by decide) (Nat.le_of_ble_eq_true rfl) (Nat.le_of_ble_eq_true rfl) (Nat.le_of_ble_eq_true rfl) (Nat.le_of_ble_eq_true rfl)
end
section
def f_cost (nc : Nat) (mt mf wt : Nat → Int32) (hv vl : Int32) : Int64 :=
  (f_costOf nc mt mf wt hv vl)
def f_first (nv nc : Nat) (mt mf : Nat → Int32) (hv vl : Int32) : Int32 :=
  (f_firstLiteral nv nc mt mf hv vl)




set_option maxHeartbeats 4000000 in
set_option maxRecDepth 100000 in
theorem c_cost (l : Launch) (dC : Nat → ClassId) (dI : Nat → Nat → Nat) (cI cL cZ : ClassId) (ad : Nat → Nat) (hinj : xI ad 15) (nv : Nat) (av : Int32) (nc : Nat) (mt mf wt : Nat → Int32) (hnc : nc ≤ 40) (hnv : nv ≤ 10) (hv vl : Int32) (hok : ¬ f_isState av hv vl = 0) : Met l yX3_cost wsX3_cost ({ frames := 6, cells := 0, slots := 0, locals := 90 }) (va_Pc [.ref (ad 0), .int hv, .int vl] (fun U => va_P (dC, dI) vwCl [(ad 0, .inr (3, [.ref (ad 1), .ref (ad 5), .ref (ad 9)])), (ad 1, .inr (1, [.int (nI nv), .int av, .int (nI nc), .ref (ad 2), .ref (ad 3), .ref (ad 4)])), (ad 2, .inl (cI, 40, .inl mt)), (ad 3, .inl (cI, 40, .inl mf)), (ad 4, .inl (cI, 40, .inl wt))] U.heap ∧ va_K (dC, dI) vwCl [(cI, .int), (cL, .long), (cZ, .boolean)] U)) (va_Ql (fun r (_ : Unit) => f_cost nc mt mf wt hv vl = r) (fun _ _ => True) xN) 0 0 xN := by
  refine Met.ofW (cc := cX3_cost) (maxL := 3) (ret := (some .long)) (by decide) rfl ?_
  intro p e s m args below meth c s₁ B hml hvv
  obtain ⟨rfl, hP0, hK⟩ := hvv
  have hx := B.exec
  have hb := B.bytes
  have hr := B.returns
  have hts := atoms_spec (ws := wsX3_cost) B.pre
  have hown : s.vm.findClass RX3 = some m.cls := findClass_of_methodNamed B.named
  have hlocks := B.notSynchronized
  have hw0 : (.fieldLink RX3 23 "WeightedClauses" "formula" "LWeightedClauses$Formula;" : Cond).before _ s = true := hts _ (List.mem_cons_of_mem _ wd_178)
  have hPr : va_P (dC, dI) vwCl [(ad 0, .inr (3, [.ref (ad 1), .ref (ad 5), .ref (ad 9)])), (ad 1, .inr (1, [.int (nI nv), .int av, .int (nI nc), .ref (ad 2), .ref (ad 3), .ref (ad 4)])), (ad 2, .inl (cI, 40, .inl mt)), (ad 3, .inl (cI, 40, .inl mf)), (ad 4, .inl (cI, 40, .inl wt))] s.heap := hP0.sub [0, 1, 2, 3, 4] rfl
  have hS : va_S xN s.heap s.heap [] := va_S.rf
  have hl := lv_entry [.ref (ad 0), .int hv, .int vl] (n := 3) (Nat.le_of_ble_eq_true rfl)
  rw [lg_entry_eq]
  generalize (lg_sl [.ref (ad 0), .int hv, .int vl] ++ List.replicate (3 - (lg_sl [.ref (ad 0), .int hv, .int vl]).length) Slot.unset).toArray = ls at hl ⊢
  have hl : lv_has ls 3 [(0, .ref (ad 0)), (1, .int hv), (2, .int vl)] := hl
  have hF := Eq.refl (f_cost nc mt mf wt hv vl)
  conv at hF => rhs; unfold f_cost
  refine lv_aload_n hx hb dX3_cost_0 rfl (lv_at hl 0 rfl) ?_
  refine lv_iload_n hx hb dX3_cost_1 rfl (lv_at hl 1 rfl) ?_
  refine lv_iload_n hx hb dX3_cost_2 rfl (lv_at hl 2 rfl) ?_
  have hR := xP0 hPr xnN hS
  refine xro_i (va_runV (As := [.int hv, .int vl]) (rest := []) ⟨hx, hb, hml, hown, hts⟩ (c_isState l dC dI cI cL cZ ad hinj nv av nc mt mf wt hv vl) (xcwV 2 hts wd_495 wd_34 wd_492 wd_494 wd_16 rfl rfl (by decide +kernel) ⟨Nat.le_of_ble_eq_true rfl, Nat.le_of_ble_eq_true rfl⟩) (xpreV (va_recv hK hR rfl (q0 := 0) rfl) hR hK) rfl rfl hl.1 rfl (lv_room (Nat.le_of_ble_eq_true rfl)) dX3_cost_3 ⟨Nat.le_of_ble_eq_true rfl, Nat.le_of_ble_eq_true rfl⟩) hS (fun H locs hk hS => ?_)
  refine lv_if_ne (tgt := 17) hx hb dX3_cost_6 (by decide) (fun h1 => ?_) (fun h1 => absurd h1 hok)
  refine lv_aload_n hx hb dX3_cost_17 rfl (lv_at hl 0 rfl) ?_
  have hR := xP0 hPr xnN hS
  refine va_get (D := (dC, dI)) (ci := 3) (v := .ref (ad 1)) (C := RX3) (T := TX3) (N := 3) hx hb hts (xcons inX3) hown hK hR 0 rfl rfl 0 (by decide) hw0 (fun _ h9 => h9) rfl dX3_cost_18 ?_
  refine lv_iload_n hx hb dX3_cost_21 rfl (lv_at hl 1 rfl) ?_
  refine lv_iload_n hx hb dX3_cost_22 rfl (lv_at hl 2 rfl) ?_
  refine xro_l (va_runV (As := [.int hv, .int vl]) (rest := []) ⟨hx, hb, hml, hown, hts⟩ (c_costOf l dC dI cI cL cZ ad hinj nv av nc mt mf wt (by omega) hv vl) (xcwV 2 hts wd_233 wd_35 wd_496 wd_231 wd_232 rfl rfl (by decide +kernel) ⟨Nat.le_of_ble_eq_true rfl, Nat.le_of_ble_eq_true rfl⟩) (xpreV (va_recv hK hR rfl (q0 := 1) rfl) (hR.sub [1, 2, 3, 4] rfl) hK) rfl rfl hl.1 rfl (lv_room (Nat.le_of_ble_eq_true rfl)) dX3_cost_23 ⟨Nat.le_of_ble_eq_true rfl, Nat.le_of_ble_eq_true rfl⟩) hS (fun H locs hk hS => ?_)
  exact W.lret (v := (f_costOf nc mt mf wt hv vl)) hx hb hr (fun t ht hW => ⟨⟨_, (), rfl, hF, trivial⟩, hS.F ht⟩) hS.2.2 dX3_cost_26
set_option maxHeartbeats 4000000 in
set_option maxRecDepth 100000 in
theorem c_first (l : Launch) (dC : Nat → ClassId) (dI : Nat → Nat → Nat) (cI cL cZ : ClassId) (ad : Nat → Nat) (hinj : xI ad 15) (nv : Nat) (av : Int32) (nc : Nat) (mt mf wt : Nat → Int32) (hnc : nc ≤ 40) (hnv : nv ≤ 10) (hv vl : Int32) (hok : ¬ f_isState av hv vl = 0) : Met l yX3_first wsX3_first ({ frames := 6, cells := 0, slots := 0, locals := 90 }) (va_Pc [.ref (ad 0), .int hv, .int vl] (fun U => va_P (dC, dI) vwCl [(ad 0, .inr (3, [.ref (ad 1), .ref (ad 5), .ref (ad 9)])), (ad 1, .inr (1, [.int (nI nv), .int av, .int (nI nc), .ref (ad 2), .ref (ad 3), .ref (ad 4)])), (ad 2, .inl (cI, 40, .inl mt)), (ad 3, .inl (cI, 40, .inl mf)), (ad 4, .inl (cI, 40, .inl wt))] U.heap ∧ va_K (dC, dI) vwCl [(cI, .int), (cL, .long), (cZ, .boolean)] U)) (va_Qi (fun r (_ : Unit) => f_first nv nc mt mf hv vl = r) (fun _ _ => True) xN) 0 0 xN := by
  refine Met.ofW (cc := cX3_first) (maxL := 3) (ret := (some .int)) (by decide) rfl ?_
  intro p e s m args below meth c s₁ B hml hvv
  obtain ⟨rfl, hP0, hK⟩ := hvv
  have hx := B.exec
  have hb := B.bytes
  have hr := B.returns
  have hts := atoms_spec (ws := wsX3_first) B.pre
  have hown : s.vm.findClass RX3 = some m.cls := findClass_of_methodNamed B.named
  have hlocks := B.notSynchronized
  have hw0 : (.fieldLink RX3 23 "WeightedClauses" "formula" "LWeightedClauses$Formula;" : Cond).before _ s = true := hts _ (List.mem_cons_of_mem _ wd_178)
  have hPr : va_P (dC, dI) vwCl [(ad 0, .inr (3, [.ref (ad 1), .ref (ad 5), .ref (ad 9)])), (ad 1, .inr (1, [.int (nI nv), .int av, .int (nI nc), .ref (ad 2), .ref (ad 3), .ref (ad 4)])), (ad 2, .inl (cI, 40, .inl mt)), (ad 3, .inl (cI, 40, .inl mf)), (ad 4, .inl (cI, 40, .inl wt))] s.heap := hP0.sub [0, 1, 2, 3, 4] rfl
  have hS : va_S xN s.heap s.heap [] := va_S.rf
  have hl := lv_entry [.ref (ad 0), .int hv, .int vl] (n := 3) (Nat.le_of_ble_eq_true rfl)
  rw [lg_entry_eq]
  generalize (lg_sl [.ref (ad 0), .int hv, .int vl] ++ List.replicate (3 - (lg_sl [.ref (ad 0), .int hv, .int vl]).length) Slot.unset).toArray = ls at hl ⊢
  have hl : lv_has ls 3 [(0, .ref (ad 0)), (1, .int hv), (2, .int vl)] := hl
  have hF := Eq.refl (f_first nv nc mt mf hv vl)
  conv at hF => rhs; unfold f_first
  refine lv_aload_n hx hb dX3_first_0 rfl (lv_at hl 0 rfl) ?_
  refine lv_iload_n hx hb dX3_first_1 rfl (lv_at hl 1 rfl) ?_
  refine lv_iload_n hx hb dX3_first_2 rfl (lv_at hl 2 rfl) ?_
  have hR := xP0 hPr xnN hS
  refine xro_i (va_runV (As := [.int hv, .int vl]) (rest := []) ⟨hx, hb, hml, hown, hts⟩ (c_isState l dC dI cI cL cZ ad hinj nv av nc mt mf wt hv vl) (xcwV 2 hts wd_495 wd_34 wd_492 wd_494 wd_16 rfl rfl (by decide +kernel) ⟨Nat.le_of_ble_eq_true rfl, Nat.le_of_ble_eq_true rfl⟩) (xpreV (va_recv hK hR rfl (q0 := 0) rfl) hR hK) rfl rfl hl.1 rfl (lv_room (Nat.le_of_ble_eq_true rfl)) dX3_first_3 ⟨Nat.le_of_ble_eq_true rfl, Nat.le_of_ble_eq_true rfl⟩) hS (fun H locs hk hS => ?_)
  refine lv_if_ne (tgt := 17) hx hb dX3_first_6 (by decide) (fun h1 => ?_) (fun h1 => absurd h1 hok)
  refine lv_aload_n hx hb dX3_first_17 rfl (lv_at hl 0 rfl) ?_
  have hR := xP0 hPr xnN hS
  refine va_get (D := (dC, dI)) (ci := 3) (v := .ref (ad 1)) (C := RX3) (T := TX3) (N := 3) hx hb hts (xcons inX3) hown hK hR 0 rfl rfl 0 (by decide) hw0 (fun _ h9 => h9) rfl dX3_first_18 ?_
  refine lv_iload_n hx hb dX3_first_21 rfl (lv_at hl 1 rfl) ?_
  refine lv_iload_n hx hb dX3_first_22 rfl (lv_at hl 2 rfl) ?_
  refine xro_i (va_runV (As := [.int hv, .int vl]) (rest := []) ⟨hx, hb, hml, hown, hts⟩ (c_firstLiteral l dC dI cI cL cZ ad hinj nv av nc mt mf wt (by omega) (by omega) hv vl) (xcwV 2 hts wd_323 wd_35 wd_523 wd_321 wd_322 rfl rfl (by decide +kernel) ⟨Nat.le_of_ble_eq_true rfl, Nat.le_of_ble_eq_true rfl⟩) (xpreV (va_recv hK hR rfl (q0 := 1) rfl) (hR.sub [1, 2, 3, 4] rfl) hK) rfl rfl hl.1 rfl (lv_room (Nat.le_of_ble_eq_true rfl)) dX3_first_23 ⟨Nat.le_of_ble_eq_true rfl, Nat.le_of_ble_eq_true rfl⟩) hS (fun H locs hk hS => ?_)
  exact W.iret (v := (f_firstLiteral nv nc mt mf hv vl)) hx hb hr (fun t ht hW => ⟨⟨_, (), rfl, hF, trivial⟩, hS.F ht⟩) hS.2.2 dX3_first_26
set_option maxHeartbeats 4000000 in
set_option maxRecDepth 100000 in
theorem c_cost_x (l : Launch) (dC : Nat → ClassId) (dI : Nat → Nat → Nat) (cI cL cZ : ClassId) (ad : Nat → Nat) (hinj : xI ad 15) (hlt : ∀ e : Env, l.admits e → e.platform.stackTraces = false) (nv : Nat) (av : Int32) (nc : Nat) (mt mf wt : Nat → Int32) (hnc : nc ≤ 40) (hnv : nv ≤ 10) (hv vl : Int32) (hbad : f_isState av hv vl = 0) : xThr l yX3_cost wsX3_cost ({ frames := 6, cells := 1, slots := 6, locals := 90 }) (va_Pc [.ref (ad 0), .int hv, .int vl] (fun U => va_P (dC, dI) vwCl [(ad 0, .inr (3, [.ref (ad 1), .ref (ad 5), .ref (ad 9)])), (ad 1, .inr (1, [.int (nI nv), .int av, .int (nI nc), .ref (ad 2), .ref (ad 3), .ref (ad 4)])), (ad 2, .inl (cI, 40, .inl mt)), (ad 3, .inl (cI, 40, .inl mf)), (ad 4, .inl (cI, 40, .inl wt))] U.heap ∧ va_K (dC, dI) vwCl [(cI, .int), (cL, .long), (cZ, .boolean)] U ∧ xEx U)) "java/lang/IllegalArgumentException" 1 6 := by
  refine xThr.ofW (cc := cX3_cost) (maxL := 3) (ret := (some .long)) (by decide) rfl ?_
  intro p e s m args below meth c s₁ B hml hvv
  obtain ⟨rfl, hP0, hK, hE⟩ := hvv
  have hx := B.exec
  have hb := B.bytes
  have hr := B.returns
  have hts := atoms_spec (ws := wsX3_cost) B.pre
  have hown : s.vm.findClass RX3 = some m.cls := findClass_of_methodNamed B.named
  have hlocks := B.notSynchronized
  have htb : c.exceptionTable.toList = [] := by have h9 := BodyLoose.noHandlers B (hts _ List.mem_cons_self); simpa [Array.isEmpty] using h9
  have hw0 : (.classLink RX3 57 "java/lang/IllegalArgumentException" : Cond).before _ s = true := hts _ (List.mem_cons_of_mem _ wd_393)
  have hw1 : (.initialized "java/lang/IllegalArgumentException" : Cond).before _ s = true := hts _ (List.mem_cons_of_mem _ wd_44)
  have hat := xat at_IAE hts hE
  have hPr : va_P (dC, dI) vwCl [(ad 0, .inr (3, [.ref (ad 1), .ref (ad 5), .ref (ad 9)])), (ad 1, .inr (1, [.int (nI nv), .int av, .int (nI nc), .ref (ad 2), .ref (ad 3), .ref (ad 4)])), (ad 2, .inl (cI, 40, .inl mt)), (ad 3, .inl (cI, 40, .inl mf)), (ad 4, .inl (cI, 40, .inl wt))] s.heap := hP0.sub [0, 1, 2, 3, 4] rfl
  have hS : va_S xN s.heap s.heap [] := va_S.rf
  have hl := lv_entry [.ref (ad 0), .int hv, .int vl] (n := 3) (Nat.le_of_ble_eq_true rfl)
  rw [lg_entry_eq]
  generalize (lg_sl [.ref (ad 0), .int hv, .int vl] ++ List.replicate (3 - (lg_sl [.ref (ad 0), .int hv, .int vl]).length) Slot.unset).toArray = ls at hl ⊢
  have hl : lv_has ls 3 [(0, .ref (ad 0)), (1, .int hv), (2, .int vl)] := hl
  refine lv_aload_n hx hb dX3_cost_0 rfl (lv_at hl 0 rfl) ?_
  refine lv_iload_n hx hb dX3_cost_1 rfl (lv_at hl 1 rfl) ?_
  refine lv_iload_n hx hb dX3_cost_2 rfl (lv_at hl 2 rfl) ?_
  have hR := xP0 hPr xnN hS
  refine xro_i (va_runV (As := [.int hv, .int vl]) (rest := []) ⟨hx, hb, hml, hown, hts⟩ (c_isState l dC dI cI cL cZ ad hinj nv av nc mt mf wt hv vl) (xcwV 2 hts wd_495 wd_34 wd_492 wd_494 wd_16 rfl rfl (by decide +kernel) ⟨Nat.le_of_ble_eq_true rfl, Nat.le_of_ble_eq_true rfl⟩) (xpreV (va_recv hK hR rfl (q0 := 0) rfl) hR hK) rfl rfl hl.1 rfl (lv_room (Nat.le_of_ble_eq_true rfl)) dX3_cost_3 ⟨Nat.le_of_ble_eq_true rfl, Nat.le_of_ble_eq_true rfl⟩) hS (fun H locs hk hS => ?_)
  refine lv_if_ne (tgt := 17) hx hb dX3_cost_6 (by decide) (fun h1 => absurd hbad h1) (fun h1 => ?_)
  exact xthrow hx hb hlt hlocks (names := ["java/lang/RuntimeException", "java/lang/Exception"]) hown (by decide) (by decide) hw0 hw1 hat hS (hl.1.trans hml.symm) dX3_cost_9 dX3_cost_12 dX3_cost_13 dX3_cost_16 htb (by decide) (by decide) (Nat.le_of_ble_eq_true rfl) (Nat.le_of_ble_eq_true rfl) (Nat.le_of_ble_eq_true rfl) (Nat.le_of_ble_eq_true rfl)
set_option maxHeartbeats 4000000 in
set_option maxRecDepth 100000 in
theorem c_bound_x (l : Launch) (dC : Nat → ClassId) (dI : Nat → Nat → Nat) (cI cL cZ : ClassId) (ad : Nat → Nat) (hinj : xI ad 15) (hlt : ∀ e : Env, l.admits e → e.platform.stackTraces = false) (nv : Nat) (av : Int32) (nc : Nat) (mt mf wt : Nat → Int32) (hnc : nc ≤ 40) (hnv : nv ≤ 10) (hv vl : Int32) (hbad : f_isState av hv vl = 0) : xThr l yX3_bound wsX3_bound ({ frames := 6, cells := 1, slots := 6, locals := 90 }) (va_Pc [.ref (ad 0), .int hv, .int vl] (fun U => va_P (dC, dI) vwCl [(ad 0, .inr (3, [.ref (ad 1), .ref (ad 5), .ref (ad 9)])), (ad 1, .inr (1, [.int (nI nv), .int av, .int (nI nc), .ref (ad 2), .ref (ad 3), .ref (ad 4)])), (ad 2, .inl (cI, 40, .inl mt)), (ad 3, .inl (cI, 40, .inl mf)), (ad 4, .inl (cI, 40, .inl wt))] U.heap ∧ va_K (dC, dI) vwCl [(cI, .int), (cL, .long), (cZ, .boolean)] U ∧ xEx U)) "java/lang/IllegalArgumentException" 1 6 := by
  refine xThr.ofW (cc := cX3_bound) (maxL := 3) (ret := (some .long)) (by decide) rfl ?_
  intro p e s m args below meth c s₁ B hml hvv
  obtain ⟨rfl, hP0, hK, hE⟩ := hvv
  have hx := B.exec
  have hb := B.bytes
  have hr := B.returns
  have hts := atoms_spec (ws := wsX3_bound) B.pre
  have hown : s.vm.findClass RX3 = some m.cls := findClass_of_methodNamed B.named
  have hlocks := B.notSynchronized
  have htb : c.exceptionTable.toList = [] := by have h9 := BodyLoose.noHandlers B (hts _ List.mem_cons_self); simpa [Array.isEmpty] using h9
  have hw0 : (.classLink RX3 57 "java/lang/IllegalArgumentException" : Cond).before _ s = true := hts _ (List.mem_cons_of_mem _ wd_393)
  have hw1 : (.initialized "java/lang/IllegalArgumentException" : Cond).before _ s = true := hts _ (List.mem_cons_of_mem _ wd_44)
  have hat := xat at_IAE hts hE
  have hPr : va_P (dC, dI) vwCl [(ad 0, .inr (3, [.ref (ad 1), .ref (ad 5), .ref (ad 9)])), (ad 1, .inr (1, [.int (nI nv), .int av, .int (nI nc), .ref (ad 2), .ref (ad 3), .ref (ad 4)])), (ad 2, .inl (cI, 40, .inl mt)), (ad 3, .inl (cI, 40, .inl mf)), (ad 4, .inl (cI, 40, .inl wt))] s.heap := hP0.sub [0, 1, 2, 3, 4] rfl
  have hS : va_S xN s.heap s.heap [] := va_S.rf
  have hl := lv_entry [.ref (ad 0), .int hv, .int vl] (n := 3) (Nat.le_of_ble_eq_true rfl)
  rw [lg_entry_eq]
  generalize (lg_sl [.ref (ad 0), .int hv, .int vl] ++ List.replicate (3 - (lg_sl [.ref (ad 0), .int hv, .int vl]).length) Slot.unset).toArray = ls at hl ⊢
  have hl : lv_has ls 3 [(0, .ref (ad 0)), (1, .int hv), (2, .int vl)] := hl
  refine lv_aload_n hx hb dX3_bound_0 rfl (lv_at hl 0 rfl) ?_
  refine lv_iload_n hx hb dX3_bound_1 rfl (lv_at hl 1 rfl) ?_
  refine lv_iload_n hx hb dX3_bound_2 rfl (lv_at hl 2 rfl) ?_
  have hR := xP0 hPr xnN hS
  refine xro_i (va_runV (As := [.int hv, .int vl]) (rest := []) ⟨hx, hb, hml, hown, hts⟩ (c_isState l dC dI cI cL cZ ad hinj nv av nc mt mf wt hv vl) (xcwV 2 hts wd_495 wd_34 wd_492 wd_494 wd_16 rfl rfl (by decide +kernel) ⟨Nat.le_of_ble_eq_true rfl, Nat.le_of_ble_eq_true rfl⟩) (xpreV (va_recv hK hR rfl (q0 := 0) rfl) hR hK) rfl rfl hl.1 rfl (lv_room (Nat.le_of_ble_eq_true rfl)) dX3_bound_3 ⟨Nat.le_of_ble_eq_true rfl, Nat.le_of_ble_eq_true rfl⟩) hS (fun H locs hk hS => ?_)
  refine lv_if_ne (tgt := 17) hx hb dX3_bound_6 (by decide) (fun h1 => absurd hbad h1) (fun h1 => ?_)
  exact xthrow hx hb hlt hlocks (names := ["java/lang/RuntimeException", "java/lang/Exception"]) hown (by decide) (by decide) hw0 hw1 hat hS (hl.1.trans hml.symm) dX3_bound_9 dX3_bound_12 dX3_bound_13 dX3_bound_16 htb (by decide) (by decide) (Nat.le_of_ble_eq_true rfl) (Nat.le_of_ble_eq_true rfl) (Nat.le_of_ble_eq_true rfl) (Nat.le_of_ble_eq_true rfl)
set_option maxHeartbeats 4000000 in
set_option maxRecDepth 100000 in
theorem c_subset_x (l : Launch) (dC : Nat → ClassId) (dI : Nat → Nat → Nat) (cI cL cZ : ClassId) (ad : Nat → Nat) (hinj : xI ad 15) (hlt : ∀ e : Env, l.admits e → e.platform.stackTraces = false) (nv : Nat) (av : Int32) (nc : Nat) (mt mf wt : Nat → Int32) (hnc : nc ≤ 40) (hnv : nv ≤ 10) (hv vl : Int32) (j : Int32) (hbad : f_isState av hv vl = 0) : xThr l yX3_subset wsX3_subset ({ frames := 6, cells := 1, slots := 6, locals := 90 }) (va_Pc [.ref (ad 0), .int hv, .int vl, .int j] (fun U => va_P (dC, dI) vwCl [(ad 0, .inr (3, [.ref (ad 1), .ref (ad 5), .ref (ad 9)])), (ad 1, .inr (1, [.int (nI nv), .int av, .int (nI nc), .ref (ad 2), .ref (ad 3), .ref (ad 4)])), (ad 2, .inl (cI, 40, .inl mt)), (ad 3, .inl (cI, 40, .inl mf)), (ad 4, .inl (cI, 40, .inl wt))] U.heap ∧ va_K (dC, dI) vwCl [(cI, .int), (cL, .long), (cZ, .boolean)] U ∧ xEx U)) "java/lang/IllegalArgumentException" 1 6 := by
  refine xThr.ofW (cc := cX3_subset) (maxL := 4) (ret := (some .long)) (by decide) rfl ?_
  intro p e s m args below meth c s₁ B hml hvv
  obtain ⟨rfl, hP0, hK, hE⟩ := hvv
  have hx := B.exec
  have hb := B.bytes
  have hr := B.returns
  have hts := atoms_spec (ws := wsX3_subset) B.pre
  have hown : s.vm.findClass RX3 = some m.cls := findClass_of_methodNamed B.named
  have hlocks := B.notSynchronized
  have htb : c.exceptionTable.toList = [] := by have h9 := BodyLoose.noHandlers B (hts _ List.mem_cons_self); simpa [Array.isEmpty] using h9
  have hw0 : (.classLink RX3 57 "java/lang/IllegalArgumentException" : Cond).before _ s = true := hts _ (List.mem_cons_of_mem _ wd_393)
  have hw1 : (.initialized "java/lang/IllegalArgumentException" : Cond).before _ s = true := hts _ (List.mem_cons_of_mem _ wd_44)
  have hat := xat at_IAE hts hE
  have hPr : va_P (dC, dI) vwCl [(ad 0, .inr (3, [.ref (ad 1), .ref (ad 5), .ref (ad 9)])), (ad 1, .inr (1, [.int (nI nv), .int av, .int (nI nc), .ref (ad 2), .ref (ad 3), .ref (ad 4)])), (ad 2, .inl (cI, 40, .inl mt)), (ad 3, .inl (cI, 40, .inl mf)), (ad 4, .inl (cI, 40, .inl wt))] s.heap := hP0.sub [0, 1, 2, 3, 4] rfl
  have hS : va_S xN s.heap s.heap [] := va_S.rf
  have hl := lv_entry [.ref (ad 0), .int hv, .int vl, .int j] (n := 4) (Nat.le_of_ble_eq_true rfl)
  rw [lg_entry_eq]
  generalize (lg_sl [.ref (ad 0), .int hv, .int vl, .int j] ++ List.replicate (4 - (lg_sl [.ref (ad 0), .int hv, .int vl, .int j]).length) Slot.unset).toArray = ls at hl ⊢
  have hl : lv_has ls 4 [(0, .ref (ad 0)), (1, .int hv), (2, .int vl), (3, .int j)] := hl
  refine lv_aload_n hx hb dX3_subset_0 rfl (lv_at hl 0 rfl) ?_
  refine lv_iload_n hx hb dX3_subset_1 rfl (lv_at hl 1 rfl) ?_
  refine lv_iload_n hx hb dX3_subset_2 rfl (lv_at hl 2 rfl) ?_
  have hR := xP0 hPr xnN hS
  refine xro_i (va_runV (As := [.int hv, .int vl]) (rest := []) ⟨hx, hb, hml, hown, hts⟩ (c_isState l dC dI cI cL cZ ad hinj nv av nc mt mf wt hv vl) (xcwV 2 hts wd_495 wd_34 wd_492 wd_494 wd_16 rfl rfl (by decide +kernel) ⟨Nat.le_of_ble_eq_true rfl, Nat.le_of_ble_eq_true rfl⟩) (xpreV (va_recv hK hR rfl (q0 := 0) rfl) hR hK) rfl rfl hl.1 rfl (lv_room (Nat.le_of_ble_eq_true rfl)) dX3_subset_3 ⟨Nat.le_of_ble_eq_true rfl, Nat.le_of_ble_eq_true rfl⟩) hS (fun H locs hk hS => ?_)
  refine lv_if_ne (tgt := 17) hx hb dX3_subset_6 (by decide) (fun h1 => absurd hbad h1) (fun h1 => ?_)
  exact xthrow hx hb hlt hlocks (names := ["java/lang/RuntimeException", "java/lang/Exception"]) hown (by decide) (by decide) hw0 hw1 hat hS (hl.1.trans hml.symm) dX3_subset_9 dX3_subset_12 dX3_subset_13 dX3_subset_16 htb (by decide) (by decide) (Nat.le_of_ble_eq_true rfl) (Nat.le_of_ble_eq_true rfl) (Nat.le_of_ble_eq_true rfl) (Nat.le_of_ble_eq_true rfl)
set_option maxHeartbeats 4000000 in
set_option maxRecDepth 100000 in
theorem c_first_x (l : Launch) (dC : Nat → ClassId) (dI : Nat → Nat → Nat) (cI cL cZ : ClassId) (ad : Nat → Nat) (hinj : xI ad 15) (hlt : ∀ e : Env, l.admits e → e.platform.stackTraces = false) (nv : Nat) (av : Int32) (nc : Nat) (mt mf wt : Nat → Int32) (hnc : nc ≤ 40) (hnv : nv ≤ 10) (hv vl : Int32) (hbad : f_isState av hv vl = 0) : xThr l yX3_first wsX3_first ({ frames := 6, cells := 1, slots := 6, locals := 90 }) (va_Pc [.ref (ad 0), .int hv, .int vl] (fun U => va_P (dC, dI) vwCl [(ad 0, .inr (3, [.ref (ad 1), .ref (ad 5), .ref (ad 9)])), (ad 1, .inr (1, [.int (nI nv), .int av, .int (nI nc), .ref (ad 2), .ref (ad 3), .ref (ad 4)])), (ad 2, .inl (cI, 40, .inl mt)), (ad 3, .inl (cI, 40, .inl mf)), (ad 4, .inl (cI, 40, .inl wt))] U.heap ∧ va_K (dC, dI) vwCl [(cI, .int), (cL, .long), (cZ, .boolean)] U ∧ xEx U)) "java/lang/IllegalArgumentException" 1 6 := by
  refine xThr.ofW (cc := cX3_first) (maxL := 3) (ret := (some .int)) (by decide) rfl ?_
  intro p e s m args below meth c s₁ B hml hvv
  obtain ⟨rfl, hP0, hK, hE⟩ := hvv
  have hx := B.exec
  have hb := B.bytes
  have hr := B.returns
  have hts := atoms_spec (ws := wsX3_first) B.pre
  have hown : s.vm.findClass RX3 = some m.cls := findClass_of_methodNamed B.named
  have hlocks := B.notSynchronized
  have htb : c.exceptionTable.toList = [] := by have h9 := BodyLoose.noHandlers B (hts _ List.mem_cons_self); simpa [Array.isEmpty] using h9
  have hw0 : (.classLink RX3 57 "java/lang/IllegalArgumentException" : Cond).before _ s = true := hts _ (List.mem_cons_of_mem _ wd_393)
  have hw1 : (.initialized "java/lang/IllegalArgumentException" : Cond).before _ s = true := hts _ (List.mem_cons_of_mem _ wd_44)
  have hat := xat at_IAE hts hE
  have hPr : va_P (dC, dI) vwCl [(ad 0, .inr (3, [.ref (ad 1), .ref (ad 5), .ref (ad 9)])), (ad 1, .inr (1, [.int (nI nv), .int av, .int (nI nc), .ref (ad 2), .ref (ad 3), .ref (ad 4)])), (ad 2, .inl (cI, 40, .inl mt)), (ad 3, .inl (cI, 40, .inl mf)), (ad 4, .inl (cI, 40, .inl wt))] s.heap := hP0.sub [0, 1, 2, 3, 4] rfl
  have hS : va_S xN s.heap s.heap [] := va_S.rf
  have hl := lv_entry [.ref (ad 0), .int hv, .int vl] (n := 3) (Nat.le_of_ble_eq_true rfl)
  rw [lg_entry_eq]
  generalize (lg_sl [.ref (ad 0), .int hv, .int vl] ++ List.replicate (3 - (lg_sl [.ref (ad 0), .int hv, .int vl]).length) Slot.unset).toArray = ls at hl ⊢
  have hl : lv_has ls 3 [(0, .ref (ad 0)), (1, .int hv), (2, .int vl)] := hl
  refine lv_aload_n hx hb dX3_first_0 rfl (lv_at hl 0 rfl) ?_
  refine lv_iload_n hx hb dX3_first_1 rfl (lv_at hl 1 rfl) ?_
  refine lv_iload_n hx hb dX3_first_2 rfl (lv_at hl 2 rfl) ?_
  have hR := xP0 hPr xnN hS
  refine xro_i (va_runV (As := [.int hv, .int vl]) (rest := []) ⟨hx, hb, hml, hown, hts⟩ (c_isState l dC dI cI cL cZ ad hinj nv av nc mt mf wt hv vl) (xcwV 2 hts wd_495 wd_34 wd_492 wd_494 wd_16 rfl rfl (by decide +kernel) ⟨Nat.le_of_ble_eq_true rfl, Nat.le_of_ble_eq_true rfl⟩) (xpreV (va_recv hK hR rfl (q0 := 0) rfl) hR hK) rfl rfl hl.1 rfl (lv_room (Nat.le_of_ble_eq_true rfl)) dX3_first_3 ⟨Nat.le_of_ble_eq_true rfl, Nat.le_of_ble_eq_true rfl⟩) hS (fun H locs hk hS => ?_)
  refine lv_if_ne (tgt := 17) hx hb dX3_first_6 (by decide) (fun h1 => absurd hbad h1) (fun h1 => ?_)
  exact xthrow hx hb hlt hlocks (names := ["java/lang/RuntimeException", "java/lang/Exception"]) hown (by decide) (by decide) hw0 hw1 hat hS (hl.1.trans hml.symm) dX3_first_9 dX3_first_12 dX3_first_13 dX3_first_16 htb (by decide) (by decide) (Nat.le_of_ble_eq_true rfl) (Nat.le_of_ble_eq_true rfl) (Nat.le_of_ble_eq_true rfl) (Nat.le_of_ble_eq_true rfl)
end
section
theorem boundOf_L_sc (nc : Nat) (mt mf wt : Nat → Int32) (hv vl : Int32) : ∀ (n i : Nat) (tot : Int64) (ss : Nat → Int64) (sc : Nat) (avl : Int64) (gh gv : Int32) (sv : Nat → Int32) (sr : Nat → Nat) (st : Nat), i + n = 40 → sc ≤ 40 → (f_boundOf_L nc mt mf wt hv vl n i tot ss sc avl gh gv sv sr st).2.2.1 ≤ 40 := by
  intro n
  induction n with
  | zero =>
    intro i tot ss sc avl gh gv sv sr st _ hsc
    rw [f_boundOf_L]
    exact hsc
  | succ n ih =>
    intro i tot ss sc avl gh gv sv sr st hi hsc
    rw [f_boundOf_L]
    split
    split
    · exact hsc
    · split
      · show i + 1 ≤ 40
        omega
      · exact ih _ _ _ _ _ _ _ _ _ _ (by omega) (by omega)
theorem boundOf_sc {nc : Nat} {mt mf wt : Nat → Int32} {ss : Nat → Int64} {sc : Nat} {avl : Int64} {gh gv : Int32} {sv : Nat → Int32} {sr : Nat → Nat} {st : Nat} {hv vl : Int32} {r : Int64} {ss1 : Nat → Int64} {sc1 : Nat} {avl1 : Int64} {gh1 gv1 : Int32} {sv1 : Nat → Int32} {sr1 : Nat → Nat} {st1 : Nat}
    (h : f_boundOf nc mt mf wt ss sc avl gh gv sv sr st hv vl = (r, ss1, sc1, avl1, gh1, gv1, sv1, sr1, st1)) : sc1 ≤ 40 := by
  have h1 : (f_boundOf nc mt mf wt ss sc avl gh gv sv sr st hv vl).2.2.1 = sc1 := by rw [h]
  rw [← h1]
  unfold f_boundOf
  split
  · exact Nat.zero_le _
  · exact boundOf_L_sc nc mt mf wt hv vl 40 0 _ _ _ _ _ _ _ _ _ (by omega) (by omega)
end
section
def f_bound (nc : Nat) (mt mf wt : Nat → Int32) (ss : Nat → Int64) (sc : Nat) (avl : Int64) (gh gv : Int32) (sv : Nat → Int32) (sr : Nat → Nat) (st : Nat) (hv vl : Int32) : Int64 × (Nat → Int64) × Nat × Int64 × Int32 × Int32 × (Nat → Int32) × (Nat → Nat) × Nat :=
  match (f_boundOf nc mt mf wt ss sc avl gh gv sv sr st hv vl) with
  | (r_23, ss1_23, sc1_23, avl1_23, gh1_23, gv1_23, sv1_23, sr1_23, st1_23) =>
    (r_23, (ss1_23, sc1_23, avl1_23, gh1_23, gv1_23, sv1_23, sr1_23, st1_23))
def f_subset (nc : Nat) (mt mf wt : Nat → Int32) (ss : Nat → Int64) (sc : Nat) (avl : Int64) (gh gv : Int32) (sv : Nat → Int32) (sr : Nat → Nat) (st : Nat) (hv vl : Int32) (j : Int32) : Int64 × (Nat → Int64) × Nat × Int64 × Int32 × Int32 × (Nat → Int32) × (Nat → Nat) × Nat :=
  match (f_boundOf nc mt mf wt ss sc avl gh gv sv sr st hv vl) with
  | (r_23, ss1_23, sc1_23, avl1_23, gh1_23, gv1_23, sv1_23, sr1_23, st1_23) =>
    ((f_subsetAt ss1_23 sc1_23 j), (ss1_23, sc1_23, avl1_23, gh1_23, gv1_23, sv1_23, sr1_23, st1_23))
set_option maxHeartbeats 4000000 in
set_option maxRecDepth 100000 in
theorem c_bound (l : Launch) (dC : Nat → ClassId) (dI : Nat → Nat → Nat) (cI cL cZ : ClassId) (ad : Nat → Nat) (hinj : xI ad 15) (nv : Nat) (av : Int32) (nc : Nat) (mt mf wt : Nat → Int32) (ss : Nat → Int64) (sc : Nat) (avl : Int64) (gh gv : Int32) (sv : Nat → Int32) (sr : Nat → Nat) (st : Nat) (hnc : nc ≤ 40) (hv vl : Int32) (hok : ¬ f_isState av hv vl = 0) : Met l yX3_bound wsX3_bound ({ frames := 6, cells := 0, slots := 0, locals := 99 }) (va_Pc [.ref (ad 0), .int hv, .int vl] (fun U => va_P (dC, dI) vwCl [(ad 0, .inr (3, [.ref (ad 1), .ref (ad 5), .ref (ad 9)])), (ad 1, .inr (1, [.int (nI nv), .int av, .int (nI nc), .ref (ad 2), .ref (ad 3), .ref (ad 4)])), (ad 2, .inl (cI, 40, .inl mt)), (ad 3, .inl (cI, 40, .inl mf)), (ad 4, .inl (cI, 40, .inl wt)), (ad 5, .inr (0, [.ref (ad 1), .ref (ad 6), .int (nI sc), .long avl, .int gh, .int gv, .ref (ad 7), .ref (ad 8), .int (nI st)])), (ad 6, .inl (cL, 40, .inr (.inl ss))), (ad 7, .inl (cI, 10, .inl sv)), (ad 8, .inl (cI, 10, .inl (xnI sr)))] U.heap ∧ va_K (dC, dI) vwCl [(cI, .int), (cL, .long), (cZ, .boolean)] U)) (va_Ql (fun r u => f_bound nc mt mf wt ss sc avl gh gv sv sr st hv vl = (r, u)) (xB (dC, dI) vwCl (fun (u : (Nat → Int64) × Nat × Int64 × Int32 × Int32 × (Nat → Int32) × (Nat → Nat) × Nat) => match u with | (ss1, sc1, avl1, gh1, gv1, sv1, sr1, st1) => [(ad 5, .inr (0, [.ref (ad 1), .ref (ad 6), .int (nI sc1), .long avl1, .int gh1, .int gv1, .ref (ad 7), .ref (ad 8), .int (nI st1)])), (ad 6, .inl (cL, 40, .inr (.inl ss1))), (ad 7, .inl (cI, 10, .inl sv1)), (ad 8, .inl (cI, 10, .inl (xnI sr1)))])) (xA ad [5, 6, 7, 8])) 0 0 (xA ad [5, 6, 7, 8]) := by
  refine Met.ofW (cc := cX3_bound) (maxL := 3) (ret := (some .long)) (by decide) rfl ?_
  intro p e s m args below meth c s₁ B hml hvv
  obtain ⟨rfl, hP0, hK⟩ := hvv
  have hx := B.exec
  have hb := B.bytes
  have hr := B.returns
  have hts := atoms_spec (ws := wsX3_bound) B.pre
  have hown : s.vm.findClass RX3 = some m.cls := findClass_of_methodNamed B.named
  have hlocks := B.notSynchronized
  have hw0 : (.fieldLink RX3 32 "WeightedClauses" "bounds" "LWeightedClauses$Bounds;" : Cond).before _ s = true := hts _ (List.mem_cons_of_mem _ wd_179)
  have hPr : va_P (dC, dI) vwCl [(ad 0, .inr (3, [.ref (ad 1), .ref (ad 5), .ref (ad 9)])), (ad 1, .inr (1, [.int (nI nv), .int av, .int (nI nc), .ref (ad 2), .ref (ad 3), .ref (ad 4)])), (ad 2, .inl (cI, 40, .inl mt)), (ad 3, .inl (cI, 40, .inl mf)), (ad 4, .inl (cI, 40, .inl wt))] s.heap := hP0.sub [0, 1, 2, 3, 4] rfl
  have hP : va_P (dC, dI) vwCl [(ad 5, .inr (0, [.ref (ad 1), .ref (ad 6), .int (nI sc), .long avl, .int gh, .int gv, .ref (ad 7), .ref (ad 8), .int (nI st)])), (ad 6, .inl (cL, 40, .inr (.inl ss))), (ad 7, .inl (cI, 10, .inl sv)), (ad 8, .inl (cI, 10, .inl (xnI sr)))] s.heap := hP0.sub [5, 6, 7, 8] rfl
  have hS : va_S (xA ad [5, 6, 7, 8]) s.heap s.heap [] := va_S.rf
  have hl := lv_entry [.ref (ad 0), .int hv, .int vl] (n := 3) (Nat.le_of_ble_eq_true rfl)
  rw [lg_entry_eq]
  generalize (lg_sl [.ref (ad 0), .int hv, .int vl] ++ List.replicate (3 - (lg_sl [.ref (ad 0), .int hv, .int vl]).length) Slot.unset).toArray = ls at hl ⊢
  have hl : lv_has ls 3 [(0, .ref (ad 0)), (1, .int hv), (2, .int vl)] := hl
  have hF := Eq.refl (f_bound nc mt mf wt ss sc avl gh gv sv sr st hv vl)
  conv at hF => rhs; unfold f_bound
  refine lv_aload_n hx hb dX3_bound_0 rfl (lv_at hl 0 rfl) ?_
  refine lv_iload_n hx hb dX3_bound_1 rfl (lv_at hl 1 rfl) ?_
  refine lv_iload_n hx hb dX3_bound_2 rfl (lv_at hl 2 rfl) ?_
  have hR := xP0 hPr (xnA hinj [0, 1, 2, 3, 4] rfl (by decide)) hS
  refine xro_i (va_runV (As := [.int hv, .int vl]) (rest := []) ⟨hx, hb, hml, hown, hts⟩ (c_isState l dC dI cI cL cZ ad hinj nv av nc mt mf wt hv vl) (xcwV 2 hts wd_495 wd_34 wd_492 wd_494 wd_16 rfl rfl (by decide +kernel) ⟨Nat.le_of_ble_eq_true rfl, Nat.le_of_ble_eq_true rfl⟩) (xpreV (va_recv hK hR rfl (q0 := 0) rfl) hR hK) rfl rfl hl.1 rfl (lv_room (Nat.le_of_ble_eq_true rfl)) dX3_bound_3 ⟨Nat.le_of_ble_eq_true rfl, Nat.le_of_ble_eq_true rfl⟩) hS (fun H locs hk hS => ?_)
  have hP := xkeep hP hk
  refine lv_if_ne (tgt := 17) hx hb dX3_bound_6 (by decide) (fun h1 => ?_) (fun h1 => absurd h1 hok)
  refine lv_aload_n hx hb dX3_bound_17 rfl (lv_at hl 0 rfl) ?_
  have hR := xP0 hPr (xnA hinj [0, 1, 2, 3, 4] rfl (by decide)) hS
  refine va_get (D := (dC, dI)) (ci := 3) (v := .ref (ad 5)) (C := RX3) (T := TX3) (N := 3) hx hb hts (xcons inX3) hown hK hR 0 rfl rfl 1 (by decide) hw0 (fun _ h9 => h9) rfl dX3_bound_18 ?_
  refine lv_iload_n hx hb dX3_bound_21 rfl (lv_at hl 1 rfl) ?_
  refine lv_iload_n hx hb dX3_bound_22 rfl (lv_at hl 2 rfl) ?_
  refine xrw_l (va_runV (As := [.int hv, .int vl]) (rest := []) ⟨hx, hb, hml, hown, hts⟩ (c_boundOf l dC dI cI cL cZ ad hinj nv av nc mt mf wt ss sc avl gh gv sv sr st (by omega) hv vl) (xcwV 2 hts wd_247 wd_37 wd_504 wd_245 wd_246 rfl rfl (by decide +kernel) ⟨Nat.le_of_ble_eq_true rfl, Nat.le_of_ble_eq_true rfl⟩) (xpreV (va_recv hK hP rfl (q0 := 0) rfl) ((hR.app hP).sub [1, 2, 3, 4, 5, 6, 7, 8] rfl) hK) rfl rfl hl.1 rfl (lv_room (Nat.le_of_ble_eq_true rfl)) dX3_bound_23 ⟨Nat.le_of_ble_eq_true rfl, Nat.le_of_ble_eq_true rfl⟩) hS (xAsub (by decide)) (fun r_23 u H locs h2 hB hk hS => ?_)
  obtain ⟨ss1_23, sc1_23, avl1_23, gh1_23, gv1_23, sv1_23, sr1_23, st1_23⟩ := u
  have hP : va_P (dC, dI) vwCl [(ad 5, .inr (0, [.ref (ad 1), .ref (ad 6), .int (nI sc1_23), .long avl1_23, .int gh1_23, .int gv1_23, .ref (ad 7), .ref (ad 8), .int (nI st1_23)])), (ad 6, .inl (cL, 40, .inr (.inl ss1_23))), (ad 7, .inl (cI, 10, .inl sv1_23)), (ad 8, .inl (cI, 10, .inl (xnI sr1_23)))] H := va_P.sub hB [0, 1, 2, 3] rfl
  rw [h2] at hF
  dsimp only at hF
  exact W.lret (v := r_23) hx hb hr (fun t ht hW => ⟨⟨_, (ss1_23, sc1_23, avl1_23, gh1_23, gv1_23, sv1_23, sr1_23, st1_23), rfl, hF, xBi ht hP⟩, hS.F ht⟩) hS.2.2 dX3_bound_26
set_option maxHeartbeats 4000000 in
set_option maxRecDepth 100000 in
theorem c_subset (l : Launch) (dC : Nat → ClassId) (dI : Nat → Nat → Nat) (cI cL cZ : ClassId) (ad : Nat → Nat) (hinj : xI ad 15) (nv : Nat) (av : Int32) (nc : Nat) (mt mf wt : Nat → Int32) (ss : Nat → Int64) (sc : Nat) (avl : Int64) (gh gv : Int32) (sv : Nat → Int32) (sr : Nat → Nat) (st : Nat) (hnc : nc ≤ 40) (hv vl : Int32) (j : Int32) (hok : ¬ f_isState av hv vl = 0) : Met l yX3_subset wsX3_subset ({ frames := 6, cells := 0, slots := 0, locals := 99 }) (va_Pc [.ref (ad 0), .int hv, .int vl, .int j] (fun U => va_P (dC, dI) vwCl [(ad 0, .inr (3, [.ref (ad 1), .ref (ad 5), .ref (ad 9)])), (ad 1, .inr (1, [.int (nI nv), .int av, .int (nI nc), .ref (ad 2), .ref (ad 3), .ref (ad 4)])), (ad 2, .inl (cI, 40, .inl mt)), (ad 3, .inl (cI, 40, .inl mf)), (ad 4, .inl (cI, 40, .inl wt)), (ad 5, .inr (0, [.ref (ad 1), .ref (ad 6), .int (nI sc), .long avl, .int gh, .int gv, .ref (ad 7), .ref (ad 8), .int (nI st)])), (ad 6, .inl (cL, 40, .inr (.inl ss))), (ad 7, .inl (cI, 10, .inl sv)), (ad 8, .inl (cI, 10, .inl (xnI sr)))] U.heap ∧ va_K (dC, dI) vwCl [(cI, .int), (cL, .long), (cZ, .boolean)] U)) (va_Ql (fun r u => f_subset nc mt mf wt ss sc avl gh gv sv sr st hv vl j = (r, u)) (xB (dC, dI) vwCl (fun (u : (Nat → Int64) × Nat × Int64 × Int32 × Int32 × (Nat → Int32) × (Nat → Nat) × Nat) => match u with | (ss1, sc1, avl1, gh1, gv1, sv1, sr1, st1) => [(ad 5, .inr (0, [.ref (ad 1), .ref (ad 6), .int (nI sc1), .long avl1, .int gh1, .int gv1, .ref (ad 7), .ref (ad 8), .int (nI st1)])), (ad 6, .inl (cL, 40, .inr (.inl ss1))), (ad 7, .inl (cI, 10, .inl sv1)), (ad 8, .inl (cI, 10, .inl (xnI sr1)))])) (xA ad [5, 6, 7, 8])) 0 0 (xA ad [5, 6, 7, 8]) := by
  refine Met.ofW (cc := cX3_subset) (maxL := 4) (ret := (some .long)) (by decide) rfl ?_
  intro p e s m args below meth c s₁ B hml hvv
  obtain ⟨rfl, hP0, hK⟩ := hvv
  have hx := B.exec
  have hb := B.bytes
  have hr := B.returns
  have hts := atoms_spec (ws := wsX3_subset) B.pre
  have hown : s.vm.findClass RX3 = some m.cls := findClass_of_methodNamed B.named
  have hlocks := B.notSynchronized
  have hw0 : (.fieldLink RX3 32 "WeightedClauses" "bounds" "LWeightedClauses$Bounds;" : Cond).before _ s = true := hts _ (List.mem_cons_of_mem _ wd_179)
  have hPr : va_P (dC, dI) vwCl [(ad 0, .inr (3, [.ref (ad 1), .ref (ad 5), .ref (ad 9)])), (ad 1, .inr (1, [.int (nI nv), .int av, .int (nI nc), .ref (ad 2), .ref (ad 3), .ref (ad 4)])), (ad 2, .inl (cI, 40, .inl mt)), (ad 3, .inl (cI, 40, .inl mf)), (ad 4, .inl (cI, 40, .inl wt))] s.heap := hP0.sub [0, 1, 2, 3, 4] rfl
  have hP : va_P (dC, dI) vwCl [(ad 5, .inr (0, [.ref (ad 1), .ref (ad 6), .int (nI sc), .long avl, .int gh, .int gv, .ref (ad 7), .ref (ad 8), .int (nI st)])), (ad 6, .inl (cL, 40, .inr (.inl ss))), (ad 7, .inl (cI, 10, .inl sv)), (ad 8, .inl (cI, 10, .inl (xnI sr)))] s.heap := hP0.sub [5, 6, 7, 8] rfl
  have hS : va_S (xA ad [5, 6, 7, 8]) s.heap s.heap [] := va_S.rf
  have hl := lv_entry [.ref (ad 0), .int hv, .int vl, .int j] (n := 4) (Nat.le_of_ble_eq_true rfl)
  rw [lg_entry_eq]
  generalize (lg_sl [.ref (ad 0), .int hv, .int vl, .int j] ++ List.replicate (4 - (lg_sl [.ref (ad 0), .int hv, .int vl, .int j]).length) Slot.unset).toArray = ls at hl ⊢
  have hl : lv_has ls 4 [(0, .ref (ad 0)), (1, .int hv), (2, .int vl), (3, .int j)] := hl
  have hF := Eq.refl (f_subset nc mt mf wt ss sc avl gh gv sv sr st hv vl j)
  conv at hF => rhs; unfold f_subset
  refine lv_aload_n hx hb dX3_subset_0 rfl (lv_at hl 0 rfl) ?_
  refine lv_iload_n hx hb dX3_subset_1 rfl (lv_at hl 1 rfl) ?_
  refine lv_iload_n hx hb dX3_subset_2 rfl (lv_at hl 2 rfl) ?_
  have hR := xP0 hPr (xnA hinj [0, 1, 2, 3, 4] rfl (by decide)) hS
  refine xro_i (va_runV (As := [.int hv, .int vl]) (rest := []) ⟨hx, hb, hml, hown, hts⟩ (c_isState l dC dI cI cL cZ ad hinj nv av nc mt mf wt hv vl) (xcwV 2 hts wd_495 wd_34 wd_492 wd_494 wd_16 rfl rfl (by decide +kernel) ⟨Nat.le_of_ble_eq_true rfl, Nat.le_of_ble_eq_true rfl⟩) (xpreV (va_recv hK hR rfl (q0 := 0) rfl) hR hK) rfl rfl hl.1 rfl (lv_room (Nat.le_of_ble_eq_true rfl)) dX3_subset_3 ⟨Nat.le_of_ble_eq_true rfl, Nat.le_of_ble_eq_true rfl⟩) hS (fun H locs hk hS => ?_)
  have hP := xkeep hP hk
  refine lv_if_ne (tgt := 17) hx hb dX3_subset_6 (by decide) (fun h1 => ?_) (fun h1 => absurd h1 hok)
  refine lv_aload_n hx hb dX3_subset_17 rfl (lv_at hl 0 rfl) ?_
  have hR := xP0 hPr (xnA hinj [0, 1, 2, 3, 4] rfl (by decide)) hS
  refine va_get (D := (dC, dI)) (ci := 3) (v := .ref (ad 5)) (C := RX3) (T := TX3) (N := 3) hx hb hts (xcons inX3) hown hK hR 0 rfl rfl 1 (by decide) hw0 (fun _ h9 => h9) rfl dX3_subset_18 ?_
  refine lv_iload_n hx hb dX3_subset_21 rfl (lv_at hl 1 rfl) ?_
  refine lv_iload_n hx hb dX3_subset_22 rfl (lv_at hl 2 rfl) ?_
  refine xrw_l (va_runV (As := [.int hv, .int vl]) (rest := []) ⟨hx, hb, hml, hown, hts⟩ (c_boundOf l dC dI cI cL cZ ad hinj nv av nc mt mf wt ss sc avl gh gv sv sr st (by omega) hv vl) (xcwV 2 hts wd_247 wd_37 wd_504 wd_245 wd_246 rfl rfl (by decide +kernel) ⟨Nat.le_of_ble_eq_true rfl, Nat.le_of_ble_eq_true rfl⟩) (xpreV (va_recv hK hP rfl (q0 := 0) rfl) ((hR.app hP).sub [1, 2, 3, 4, 5, 6, 7, 8] rfl) hK) rfl rfl hl.1 rfl (lv_room (Nat.le_of_ble_eq_true rfl)) dX3_subset_23 ⟨Nat.le_of_ble_eq_true rfl, Nat.le_of_ble_eq_true rfl⟩) hS (xAsub (by decide)) (fun r_23 u H locs h2 hB hk hS => ?_)
  obtain ⟨ss1_23, sc1_23, avl1_23, gh1_23, gv1_23, sv1_23, sr1_23, st1_23⟩ := u
  have hP : va_P (dC, dI) vwCl [(ad 5, .inr (0, [.ref (ad 1), .ref (ad 6), .int (nI sc1_23), .long avl1_23, .int gh1_23, .int gv1_23, .ref (ad 7), .ref (ad 8), .int (nI st1_23)])), (ad 6, .inl (cL, 40, .inr (.inl ss1_23))), (ad 7, .inl (cI, 10, .inl sv1_23)), (ad 8, .inl (cI, 10, .inl (xnI sr1_23)))] H := va_P.sub hB [0, 1, 2, 3] rfl
  rw [h2] at hF
  dsimp only at hF
  have hsc := boundOf_sc h2
  refine lv_pop2_2 hx hb dX3_subset_26 rfl ?_
  refine lv_aload_n hx hb dX3_subset_27 rfl (lv_at hl 0 rfl) ?_
  have hR := xP0 hPr (xnA hinj [0, 1, 2, 3, 4] rfl (by decide)) hS
  refine va_get (D := (dC, dI)) (ci := 3) (v := .ref (ad 5)) (C := RX3) (T := TX3) (N := 3) hx hb hts (xcons inX3) hown hK hR 0 rfl rfl 1 (by decide) hw0 (fun _ h9 => h9) rfl dX3_subset_28 ?_
  refine lv_iload_n hx hb dX3_subset_31 rfl (lv_at hl 3 rfl) ?_
  refine xro_l (va_runV (As := [.int j]) (rest := []) ⟨hx, hb, hml, hown, hts⟩ (c_subsetAt l dC dI cI cL cZ ad hinj ss1_23 sc1_23 avl1_23 gh1_23 gv1_23 sv1_23 sr1_23 st1_23 j hsc) (xcwV 1 hts wd_515 wd_37 wd_512 wd_513 wd_514 rfl rfl (by decide +kernel) ⟨Nat.le_of_ble_eq_true rfl, Nat.le_of_ble_eq_true rfl⟩) (xpreV (va_recv hK hP rfl (q0 := 0) rfl) hP hK) rfl rfl hl.1 rfl (lv_room (Nat.le_of_ble_eq_true rfl)) dX3_subset_32 ⟨Nat.le_of_ble_eq_true rfl, Nat.le_of_ble_eq_true rfl⟩) hS (fun H locs hk hS => ?_)
  have hP := xkeep hP hk
  exact W.lret (v := (f_subsetAt ss1_23 sc1_23 j)) hx hb hr (fun t ht hW => ⟨⟨_, (ss1_23, sc1_23, avl1_23, gh1_23, gv1_23, sv1_23, sr1_23, st1_23), rfl, hF, xBi ht hP⟩, hS.F ht⟩) hS.2.2 dX3_subset_35
end
