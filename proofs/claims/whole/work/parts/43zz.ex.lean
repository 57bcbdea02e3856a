/-- what a throw wants beside the words of xtb -/
def xex : List Cond := [.castable "java/lang/IllegalArgumentException" "java/lang/IllegalArgumentException", .castable "java/lang/IllegalStateException" "java/lang/IllegalStateException", .declares ⟨"java/lang/RuntimeException", "<init>", "()V"⟩, .declares ⟨"java/lang/Exception", "<init>", "()V"⟩, .declares ⟨"java/lang/Throwable", "<init>", "()V"⟩,
  .laysStatic "java/lang/Throwable" "UNASSIGNED_STACK" "[Ljava/lang/StackTraceElement;", .laysStatic "java/lang/Throwable" "SUPPRESSED_SENTINEL" "Ljava/util/List;",
  .isRef (.static "java/lang/Throwable" "UNASSIGNED_STACK" "[Ljava/lang/StackTraceElement;"), .isRef (.static "java/lang/Throwable" "SUPPRESSED_SENTINEL" "Ljava/util/List;")]
def xEx (U : State) : Prop := ∀ a ∈ xex, a.before #[] U = true
theorem xEx.use {U : State} (h : xEx U) (args : Array Value) : ∀ a ∈ xex, a.before args U = true := by
  have h1 : ∀ a ∈ xex, a.before #[] U = true → a.before args U = true := by
    simp only [xex, List.forall_mem_cons]
    exact ⟨fun h => va_Nw.use rfl h, fun h => va_Nw.use rfl h, fun h => va_Nw.use rfl h, fun h => va_Nw.use rfl h, fun h => va_Nw.use rfl h, fun h => h, fun h => h, fun h => h, fun h => h, fun a ha => absurd ha List.not_mem_nil⟩
  exact fun a ha => h1 a ha (h a ha)
theorem at_IAE : ∀ a ∈ Bundle.ownAtoms0 "WeightedClauses" 59 "java/lang/IllegalArgumentException" ["java/lang/RuntimeException", "java/lang/Exception"], a ∈ xtb ∨ a ∈ xex := by decide +kernel
theorem at_ISE : ∀ a ∈ Bundle.ownAtoms0 "WeightedClauses" 65 "java/lang/IllegalStateException" ["java/lang/RuntimeException", "java/lang/Exception"], a ∈ xtb ∨ a ∈ xex := by decide +kernel
theorem xat {args : Array Value} {s : State} {c0 : Cond} {L : List Cond} (h : ∀ a ∈ L, a ∈ xtb ∨ a ∈ xex) (hts : ∀ w ∈ c0 :: xtb, w.before args s = true) (hE : xEx s) : ∀ a ∈ L, a.before args s = true :=
  fun a ha => (h a ha).elim (fun h1 => hts a (List.mem_cons_of_mem _ h1)) (fun h1 => hE.use args a h1)
