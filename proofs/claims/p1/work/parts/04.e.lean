section XES
variable {s : State} {A : Nat → Prop} {wA wV bA : Nat}
theorem xE_1 (h : xE wA wV bA A s) : vk_R "AlgolJudge$Tokens" 41 "begin end integer boolean array procedure value own switch label if then else for do step until while goto true false not and or div print" wA s := h.1
theorem xE_2 (h : xE wA wV bA A s) : vk_R "AlgolJudgeModel" 181 "begin" bA s := h.2.1
theorem xE_c (h : xE wA wV bA A s) : va_OF "java/lang/String" "coder" "B" (.int 0) wA A s s.heap := h.2.2.2.1
theorem xE_v (h : xE wA wV bA A s) : va_OF "java/lang/String" "value" "[B" (.ref wV) wA A s s.heap := h.2.2.2.2.1
theorem xE_T (h : xE wA wV bA A s) : va_T .byte wV 138 (fun j => .int (wB.getD j 0)) A s s.heap := h.2.2.2.2.2.1
theorem xE_Z (h : xE wA wV bA A s) : va_Z "java/lang/String" "COMPACT_STRINGS" "Z" (.int 1) A s s.heap := h.2.2.2.2.2.2.1
theorem xE_Zq (h : xE wA wV bA A s) : va_Z "jdk/internal/util/Preconditions" "SIOOBE_FORMATTER" "Ljava/util/function/BiFunction;" .null A s s.heap ∨ ∃ t : Nat, va_Z "jdk/internal/util/Preconditions" "SIOOBE_FORMATTER" "Ljava/util/function/BiFunction;" (.ref t) A s s.heap := h.2.2.2.2.2.2.2
theorem xE_O (h : xE wA wV bA A s) {H : Heap} {locs : List Loc} (hS : va_S A s.heap H locs) : ∃ cell : Cell, H[wA]? = some cell ∧ cell.vm.isStatics = false ∧ s.vm.findClass "java/lang/String" = some cell.cls := by
  obtain ⟨cell, h1, h2, h3, -⟩ := h.2.2.1.kept hS.2.1
  exact ⟨cell, h1, h2, h3⟩
end XES
